/-! THE LAW'S isSo -/
theorem dL_isSo_0 : decode cL_isSo 0 = .ok (.iconst 1, 1) := by decide +kernel
theorem dL_isSo_1 : decode cL_isSo 1 = .ok (.istore 13, 2) := by decide +kernel
theorem dL_isSo_3 : decode cL_isSo 3 = .ok (.iconst 0, 1) := by decide +kernel
theorem dL_isSo_4 : decode cL_isSo 4 = .ok (.istore 14, 2) := by decide +kernel
theorem dL_isSo_6 : decode cL_isSo 6 = .ok (.iconst 0, 1) := by decide +kernel
theorem dL_isSo_7 : decode cL_isSo 7 = .ok (.istore 15, 2) := by decide +kernel
theorem dL_isSo_9 : decode cL_isSo 9 = .ok (.iload 15, 2) := by decide +kernel
theorem dL_isSo_11 : decode cL_isSo 11 = .ok (.aload 11, 2) := by decide +kernel
theorem dL_isSo_13 : decode cL_isSo 13 = .ok (.iconst 2, 1) := by decide +kernel
theorem dL_isSo_14 : decode cL_isSo 14 = .ok (.iaload, 1) := by decide +kernel
theorem dL_isSo_15 : decode cL_isSo 15 = .ok (.if_icmp .ge 176, 3) := by decide +kernel
theorem dL_isSo_18 : decode cL_isSo 18 = .ok (.iload 13, 2) := by decide +kernel
theorem dL_isSo_20 : decode cL_isSo 20 = .ok (.ifCond .eq 171, 3) := by decide +kernel
theorem dL_isSo_23 : decode cL_isSo 23 = .ok (.aload_n 0, 1) := by decide +kernel
theorem dL_isSo_24 : decode cL_isSo 24 = .ok (.iload 15, 2) := by decide +kernel
theorem dL_isSo_26 : decode cL_isSo 26 = .ok (.iconst 3, 1) := by decide +kernel
theorem dL_isSo_27 : decode cL_isSo 27 = .ok (.invokevirtual 54, 3) := by decide +kernel
theorem dL_isSo_30 : decode cL_isSo 30 = .ok (.aload_n 3, 1) := by decide +kernel
theorem dL_isSo_31 : decode cL_isSo 31 = .ok (.iload 15, 2) := by decide +kernel
theorem dL_isSo_33 : decode cL_isSo 33 = .ok (.iaload, 1) := by decide +kernel
theorem dL_isSo_34 : decode cL_isSo 34 = .ok (.if_icmp .ne 47, 3) := by decide +kernel
theorem dL_isSo_37 : decode cL_isSo 37 = .ok (.aload_n 0, 1) := by decide +kernel
theorem dL_isSo_38 : decode cL_isSo 38 = .ok (.iload 15, 2) := by decide +kernel
theorem dL_isSo_40 : decode cL_isSo 40 = .ok (.iconst 5, 1) := by decide +kernel
theorem dL_isSo_41 : decode cL_isSo 41 = .ok (.invokevirtual 54, 3) := by decide +kernel
theorem dL_isSo_44 : decode cL_isSo 44 = .ok (.aload_n 2, 1) := by decide +kernel
theorem dL_isSo_45 : decode cL_isSo 45 = .ok (.iload 15, 2) := by decide +kernel
theorem dL_isSo_47 : decode cL_isSo 47 = .ok (.iaload, 1) := by decide +kernel
theorem dL_isSo_48 : decode cL_isSo 48 = .ok (.sipush 8192, 3) := by decide +kernel
theorem dL_isSo_51 : decode cL_isSo 51 = .ok (.idiv, 1) := by decide +kernel
theorem dL_isSo_52 : decode cL_isSo 52 = .ok (.if_icmp .ne 29, 3) := by decide +kernel
theorem dL_isSo_55 : decode cL_isSo 55 = .ok (.aload_n 0, 1) := by decide +kernel
theorem dL_isSo_56 : decode cL_isSo 56 = .ok (.iload 15, 2) := by decide +kernel
theorem dL_isSo_58 : decode cL_isSo 58 = .ok (.bipush 6, 2) := by decide +kernel
theorem dL_isSo_60 : decode cL_isSo 60 = .ok (.invokevirtual 54, 3) := by decide +kernel
theorem dL_isSo_63 : decode cL_isSo 63 = .ok (.aload_n 1, 1) := by decide +kernel
theorem dL_isSo_64 : decode cL_isSo 64 = .ok (.aload 5, 2) := by decide +kernel
theorem dL_isSo_66 : decode cL_isSo 66 = .ok (.aload 11, 2) := by decide +kernel
theorem dL_isSo_68 : decode cL_isSo 68 = .ok (.iload 15, 2) := by decide +kernel
theorem dL_isSo_70 : decode cL_isSo 70 = .ok (.iconst (-1), 1) := by decide +kernel
theorem dL_isSo_71 : decode cL_isSo 71 = .ok (.invokestatic 85, 3) := by decide +kernel
theorem dL_isSo_74 : decode cL_isSo 74 = .ok (.if_icmp .ne 7, 3) := by decide +kernel
theorem dL_isSo_77 : decode cL_isSo 77 = .ok (.iconst 1, 1) := by decide +kernel
theorem dL_isSo_78 : decode cL_isSo 78 = .ok (.goto 4, 3) := by decide +kernel
theorem dL_isSo_81 : decode cL_isSo 81 = .ok (.iconst 0, 1) := by decide +kernel
theorem dL_isSo_82 : decode cL_isSo 82 = .ok (.istore 13, 2) := by decide +kernel
theorem dL_isSo_84 : decode cL_isSo 84 = .ok (.aload_n 1, 1) := by decide +kernel
theorem dL_isSo_85 : decode cL_isSo 85 = .ok (.aload_n 2, 1) := by decide +kernel
theorem dL_isSo_86 : decode cL_isSo 86 = .ok (.aload 5, 2) := by decide +kernel
theorem dL_isSo_88 : decode cL_isSo 88 = .ok (.aload 11, 2) := by decide +kernel
theorem dL_isSo_90 : decode cL_isSo 90 = .ok (.iload 15, 2) := by decide +kernel
theorem dL_isSo_92 : decode cL_isSo 92 = .ok (.sipush 1000, 3) := by decide +kernel
theorem dL_isSo_95 : decode cL_isSo 95 = .ok (.invokestatic 90, 3) := by decide +kernel
theorem dL_isSo_98 : decode cL_isSo 98 = .ok (.istore 16, 2) := by decide +kernel
theorem dL_isSo_100 : decode cL_isSo 100 = .ok (.aload_n 1, 1) := by decide +kernel
theorem dL_isSo_101 : decode cL_isSo 101 = .ok (.aload_n 2, 1) := by decide +kernel
theorem dL_isSo_102 : decode cL_isSo 102 = .ok (.aload 5, 2) := by decide +kernel
theorem dL_isSo_104 : decode cL_isSo 104 = .ok (.aload 11, 2) := by decide +kernel
theorem dL_isSo_106 : decode cL_isSo 106 = .ok (.iload 15, 2) := by decide +kernel
theorem dL_isSo_108 : decode cL_isSo 108 = .ok (.sipush 1001, 3) := by decide +kernel
theorem dL_isSo_111 : decode cL_isSo 111 = .ok (.invokestatic 90, 3) := by decide +kernel
theorem dL_isSo_114 : decode cL_isSo 114 = .ok (.istore 17, 2) := by decide +kernel
theorem dL_isSo_116 : decode cL_isSo 116 = .ok (.iload 13, 2) := by decide +kernel
theorem dL_isSo_118 : decode cL_isSo 118 = .ok (.ifCond .eq 64, 3) := by decide +kernel
theorem dL_isSo_121 : decode cL_isSo 121 = .ok (.aload_n 0, 1) := by decide +kernel
theorem dL_isSo_122 : decode cL_isSo 122 = .ok (.iload 15, 2) := by decide +kernel
theorem dL_isSo_124 : decode cL_isSo 124 = .ok (.sipush 1000, 3) := by decide +kernel
theorem dL_isSo_127 : decode cL_isSo 127 = .ok (.iconst 0, 1) := by decide +kernel
theorem dL_isSo_128 : decode cL_isSo 128 = .ok (.invokevirtual 57, 3) := by decide +kernel
theorem dL_isSo_131 : decode cL_isSo 131 = .ok (.iload 16, 2) := by decide +kernel
theorem dL_isSo_133 : decode cL_isSo 133 = .ok (.if_icmp .ne 49, 3) := by decide +kernel
theorem dL_isSo_136 : decode cL_isSo 136 = .ok (.aload_n 0, 1) := by decide +kernel
theorem dL_isSo_137 : decode cL_isSo 137 = .ok (.iload 15, 2) := by decide +kernel
theorem dL_isSo_139 : decode cL_isSo 139 = .ok (.iconst 1, 1) := by decide +kernel
theorem dL_isSo_140 : decode cL_isSo 140 = .ok (.iconst 1, 1) := by decide +kernel
theorem dL_isSo_141 : decode cL_isSo 141 = .ok (.invokevirtual 57, 3) := by decide +kernel
theorem dL_isSo_144 : decode cL_isSo 144 = .ok (.iload 16, 2) := by decide +kernel
theorem dL_isSo_146 : decode cL_isSo 146 = .ok (.if_icmp .ne 36, 3) := by decide +kernel
theorem dL_isSo_149 : decode cL_isSo 149 = .ok (.aload_n 0, 1) := by decide +kernel
theorem dL_isSo_150 : decode cL_isSo 150 = .ok (.iload 15, 2) := by decide +kernel
theorem dL_isSo_152 : decode cL_isSo 152 = .ok (.sipush 1001, 3) := by decide +kernel
theorem dL_isSo_155 : decode cL_isSo 155 = .ok (.iconst 0, 1) := by decide +kernel
theorem dL_isSo_156 : decode cL_isSo 156 = .ok (.invokevirtual 57, 3) := by decide +kernel
theorem dL_isSo_159 : decode cL_isSo 159 = .ok (.iload 17, 2) := by decide +kernel
theorem dL_isSo_161 : decode cL_isSo 161 = .ok (.if_icmp .ne 21, 3) := by decide +kernel
theorem dL_isSo_164 : decode cL_isSo 164 = .ok (.aload_n 0, 1) := by decide +kernel
theorem dL_isSo_165 : decode cL_isSo 165 = .ok (.iload 15, 2) := by decide +kernel
theorem dL_isSo_167 : decode cL_isSo 167 = .ok (.ldc 97, 2) := by decide +kernel
theorem dL_isSo_169 : decode cL_isSo 169 = .ok (.iconst 1, 1) := by decide +kernel
theorem dL_isSo_170 : decode cL_isSo 170 = .ok (.invokevirtual 57, 3) := by decide +kernel
theorem dL_isSo_173 : decode cL_isSo 173 = .ok (.iload 17, 2) := by decide +kernel
theorem dL_isSo_175 : decode cL_isSo 175 = .ok (.if_icmp .ne 7, 3) := by decide +kernel
theorem dL_isSo_178 : decode cL_isSo 178 = .ok (.iconst 1, 1) := by decide +kernel
theorem dL_isSo_179 : decode cL_isSo 179 = .ok (.goto 4, 3) := by decide +kernel
theorem dL_isSo_182 : decode cL_isSo 182 = .ok (.iconst 0, 1) := by decide +kernel
theorem dL_isSo_183 : decode cL_isSo 183 = .ok (.istore 13, 2) := by decide +kernel
theorem dL_isSo_185 : decode cL_isSo 185 = .ok (.iinc 15 1, 3) := by decide +kernel
theorem dL_isSo_188 : decode cL_isSo 188 = .ok (.goto (-179), 3) := by decide +kernel
theorem dL_isSo_191 : decode cL_isSo 191 = .ok (.iload 12, 2) := by decide +kernel
theorem dL_isSo_193 : decode cL_isSo 193 = .ok (.iconst 2, 1) := by decide +kernel
theorem dL_isSo_194 : decode cL_isSo 194 = .ok (.irem, 1) := by decide +kernel
theorem dL_isSo_195 : decode cL_isSo 195 = .ok (.istore 15, 2) := by decide +kernel
theorem dL_isSo_197 : decode cL_isSo 197 = .ok (.iload 15, 2) := by decide +kernel
theorem dL_isSo_199 : decode cL_isSo 199 = .ok (.aload 11, 2) := by decide +kernel
theorem dL_isSo_201 : decode cL_isSo 201 = .ok (.iconst 2, 1) := by decide +kernel
theorem dL_isSo_202 : decode cL_isSo 202 = .ok (.iaload, 1) := by decide +kernel
theorem dL_isSo_203 : decode cL_isSo 203 = .ok (.if_icmp .ge 96, 3) := by decide +kernel
theorem dL_isSo_206 : decode cL_isSo 206 = .ok (.iload 13, 2) := by decide +kernel
theorem dL_isSo_208 : decode cL_isSo 208 = .ok (.ifCond .eq 91, 3) := by decide +kernel
theorem dL_isSo_211 : decode cL_isSo 211 = .ok (.aload_n 0, 1) := by decide +kernel
theorem dL_isSo_212 : decode cL_isSo 212 = .ok (.iload 15, 2) := by decide +kernel
theorem dL_isSo_214 : decode cL_isSo 214 = .ok (.iconst 0, 1) := by decide +kernel
theorem dL_isSo_215 : decode cL_isSo 215 = .ok (.invokevirtual 54, 3) := by decide +kernel
theorem dL_isSo_218 : decode cL_isSo 218 = .ok (.aload_n 2, 1) := by decide +kernel
theorem dL_isSo_219 : decode cL_isSo 219 = .ok (.iload 15, 2) := by decide +kernel
theorem dL_isSo_221 : decode cL_isSo 221 = .ok (.iaload, 1) := by decide +kernel
theorem dL_isSo_222 : decode cL_isSo 222 = .ok (.bipush 16, 2) := by decide +kernel
theorem dL_isSo_224 : decode cL_isSo 224 = .ok (.irem, 1) := by decide +kernel
theorem dL_isSo_225 : decode cL_isSo 225 = .ok (.if_icmp .ne 65, 3) := by decide +kernel
theorem dL_isSo_228 : decode cL_isSo 228 = .ok (.aload_n 0, 1) := by decide +kernel
theorem dL_isSo_229 : decode cL_isSo 229 = .ok (.iload 15, 2) := by decide +kernel
theorem dL_isSo_231 : decode cL_isSo 231 = .ok (.iconst 1, 1) := by decide +kernel
theorem dL_isSo_232 : decode cL_isSo 232 = .ok (.invokevirtual 54, 3) := by decide +kernel
theorem dL_isSo_235 : decode cL_isSo 235 = .ok (.aload_n 2, 1) := by decide +kernel
theorem dL_isSo_236 : decode cL_isSo 236 = .ok (.iload 15, 2) := by decide +kernel
theorem dL_isSo_238 : decode cL_isSo 238 = .ok (.iaload, 1) := by decide +kernel
theorem dL_isSo_239 : decode cL_isSo 239 = .ok (.bipush 16, 2) := by decide +kernel
theorem dL_isSo_241 : decode cL_isSo 241 = .ok (.idiv, 1) := by decide +kernel
theorem dL_isSo_242 : decode cL_isSo 242 = .ok (.bipush 8, 2) := by decide +kernel
theorem dL_isSo_244 : decode cL_isSo 244 = .ok (.irem, 1) := by decide +kernel
theorem dL_isSo_245 : decode cL_isSo 245 = .ok (.if_icmp .ne 45, 3) := by decide +kernel
theorem dL_isSo_248 : decode cL_isSo 248 = .ok (.aload_n 0, 1) := by decide +kernel
theorem dL_isSo_249 : decode cL_isSo 249 = .ok (.iload 15, 2) := by decide +kernel
theorem dL_isSo_251 : decode cL_isSo 251 = .ok (.iconst 2, 1) := by decide +kernel
theorem dL_isSo_252 : decode cL_isSo 252 = .ok (.invokevirtual 54, 3) := by decide +kernel
theorem dL_isSo_255 : decode cL_isSo 255 = .ok (.aload_n 2, 1) := by decide +kernel
theorem dL_isSo_256 : decode cL_isSo 256 = .ok (.iload 15, 2) := by decide +kernel
theorem dL_isSo_258 : decode cL_isSo 258 = .ok (.iaload, 1) := by decide +kernel
theorem dL_isSo_259 : decode cL_isSo 259 = .ok (.sipush 128, 3) := by decide +kernel
theorem dL_isSo_262 : decode cL_isSo 262 = .ok (.idiv, 1) := by decide +kernel
theorem dL_isSo_263 : decode cL_isSo 263 = .ok (.bipush 64, 2) := by decide +kernel
theorem dL_isSo_265 : decode cL_isSo 265 = .ok (.irem, 1) := by decide +kernel
theorem dL_isSo_266 : decode cL_isSo 266 = .ok (.iconst 1, 1) := by decide +kernel
theorem dL_isSo_267 : decode cL_isSo 267 = .ok (.isub, 1) := by decide +kernel
theorem dL_isSo_268 : decode cL_isSo 268 = .ok (.if_icmp .ne 22, 3) := by decide +kernel
theorem dL_isSo_271 : decode cL_isSo 271 = .ok (.aload_n 0, 1) := by decide +kernel
theorem dL_isSo_272 : decode cL_isSo 272 = .ok (.iload 15, 2) := by decide +kernel
theorem dL_isSo_274 : decode cL_isSo 274 = .ok (.iconst 4, 1) := by decide +kernel
theorem dL_isSo_275 : decode cL_isSo 275 = .ok (.invokevirtual 54, 3) := by decide +kernel
theorem dL_isSo_278 : decode cL_isSo 278 = .ok (.aload 4, 2) := by decide +kernel
theorem dL_isSo_280 : decode cL_isSo 280 = .ok (.iload 15, 2) := by decide +kernel
theorem dL_isSo_282 : decode cL_isSo 282 = .ok (.iaload, 1) := by decide +kernel
theorem dL_isSo_283 : decode cL_isSo 283 = .ok (.if_icmp .ne 7, 3) := by decide +kernel
theorem dL_isSo_286 : decode cL_isSo 286 = .ok (.iconst 1, 1) := by decide +kernel
theorem dL_isSo_287 : decode cL_isSo 287 = .ok (.goto 4, 3) := by decide +kernel
theorem dL_isSo_290 : decode cL_isSo 290 = .ok (.iconst 0, 1) := by decide +kernel
theorem dL_isSo_291 : decode cL_isSo 291 = .ok (.istore 13, 2) := by decide +kernel
theorem dL_isSo_293 : decode cL_isSo 293 = .ok (.iinc 15 2, 3) := by decide +kernel
theorem dL_isSo_296 : decode cL_isSo 296 = .ok (.goto (-99), 3) := by decide +kernel
theorem dL_isSo_299 : decode cL_isSo 299 = .ok (.iconst 0, 1) := by decide +kernel
theorem dL_isSo_300 : decode cL_isSo 300 = .ok (.istore 15, 2) := by decide +kernel
theorem dL_isSo_302 : decode cL_isSo 302 = .ok (.iload 15, 2) := by decide +kernel
theorem dL_isSo_304 : decode cL_isSo 304 = .ok (.aload 11, 2) := by decide +kernel
theorem dL_isSo_306 : decode cL_isSo 306 = .ok (.iconst 3, 1) := by decide +kernel
theorem dL_isSo_307 : decode cL_isSo 307 = .ok (.iaload, 1) := by decide +kernel
theorem dL_isSo_308 : decode cL_isSo 308 = .ok (.if_icmp .ge 118, 3) := by decide +kernel
theorem dL_isSo_311 : decode cL_isSo 311 = .ok (.iload 13, 2) := by decide +kernel
theorem dL_isSo_313 : decode cL_isSo 313 = .ok (.ifCond .eq 113, 3) := by decide +kernel
theorem dL_isSo_316 : decode cL_isSo 316 = .ok (.aload_n 0, 1) := by decide +kernel
theorem dL_isSo_317 : decode cL_isSo 317 = .ok (.iload 15, 2) := by decide +kernel
theorem dL_isSo_319 : decode cL_isSo 319 = .ok (.iconst 0, 1) := by decide +kernel
theorem dL_isSo_320 : decode cL_isSo 320 = .ok (.invokevirtual 61, 3) := by decide +kernel
theorem dL_isSo_323 : decode cL_isSo 323 = .ok (.aload 7, 2) := by decide +kernel
theorem dL_isSo_325 : decode cL_isSo 325 = .ok (.iload 15, 2) := by decide +kernel
theorem dL_isSo_327 : decode cL_isSo 327 = .ok (.iaload, 1) := by decide +kernel
theorem dL_isSo_328 : decode cL_isSo 328 = .ok (.ldc 89, 2) := by decide +kernel
theorem dL_isSo_330 : decode cL_isSo 330 = .ok (.idiv, 1) := by decide +kernel
theorem dL_isSo_331 : decode cL_isSo 331 = .ok (.if_icmp .ne 62, 3) := by decide +kernel
theorem dL_isSo_334 : decode cL_isSo 334 = .ok (.aload_n 0, 1) := by decide +kernel
theorem dL_isSo_335 : decode cL_isSo 335 = .ok (.iload 15, 2) := by decide +kernel
theorem dL_isSo_337 : decode cL_isSo 337 = .ok (.iconst 1, 1) := by decide +kernel
theorem dL_isSo_338 : decode cL_isSo 338 = .ok (.invokevirtual 61, 3) := by decide +kernel
theorem dL_isSo_341 : decode cL_isSo 341 = .ok (.aload 7, 2) := by decide +kernel
theorem dL_isSo_343 : decode cL_isSo 343 = .ok (.iload 15, 2) := by decide +kernel
theorem dL_isSo_345 : decode cL_isSo 345 = .ok (.iaload, 1) := by decide +kernel
theorem dL_isSo_346 : decode cL_isSo 346 = .ok (.bipush 64, 2) := by decide +kernel
theorem dL_isSo_348 : decode cL_isSo 348 = .ok (.irem, 1) := by decide +kernel
theorem dL_isSo_349 : decode cL_isSo 349 = .ok (.if_icmp .ne 44, 3) := by decide +kernel
theorem dL_isSo_352 : decode cL_isSo 352 = .ok (.aload_n 0, 1) := by decide +kernel
theorem dL_isSo_353 : decode cL_isSo 353 = .ok (.iload 15, 2) := by decide +kernel
theorem dL_isSo_355 : decode cL_isSo 355 = .ok (.iconst 2, 1) := by decide +kernel
theorem dL_isSo_356 : decode cL_isSo 356 = .ok (.invokevirtual 61, 3) := by decide +kernel
theorem dL_isSo_359 : decode cL_isSo 359 = .ok (.aload 7, 2) := by decide +kernel
theorem dL_isSo_361 : decode cL_isSo 361 = .ok (.iload 15, 2) := by decide +kernel
theorem dL_isSo_363 : decode cL_isSo 363 = .ok (.iaload, 1) := by decide +kernel
theorem dL_isSo_364 : decode cL_isSo 364 = .ok (.bipush 64, 2) := by decide +kernel
theorem dL_isSo_366 : decode cL_isSo 366 = .ok (.idiv, 1) := by decide +kernel
theorem dL_isSo_367 : decode cL_isSo 367 = .ok (.sipush 1024, 3) := by decide +kernel
theorem dL_isSo_370 : decode cL_isSo 370 = .ok (.irem, 1) := by decide +kernel
theorem dL_isSo_371 : decode cL_isSo 371 = .ok (.if_icmp .ne 22, 3) := by decide +kernel
theorem dL_isSo_374 : decode cL_isSo 374 = .ok (.aload_n 0, 1) := by decide +kernel
theorem dL_isSo_375 : decode cL_isSo 375 = .ok (.iload 15, 2) := by decide +kernel
theorem dL_isSo_377 : decode cL_isSo 377 = .ok (.iconst 3, 1) := by decide +kernel
theorem dL_isSo_378 : decode cL_isSo 378 = .ok (.invokevirtual 61, 3) := by decide +kernel
theorem dL_isSo_381 : decode cL_isSo 381 = .ok (.aload 8, 2) := by decide +kernel
theorem dL_isSo_383 : decode cL_isSo 383 = .ok (.iload 15, 2) := by decide +kernel
theorem dL_isSo_385 : decode cL_isSo 385 = .ok (.iaload, 1) := by decide +kernel
theorem dL_isSo_386 : decode cL_isSo 386 = .ok (.if_icmp .ne 7, 3) := by decide +kernel
theorem dL_isSo_389 : decode cL_isSo 389 = .ok (.iconst 1, 1) := by decide +kernel
theorem dL_isSo_390 : decode cL_isSo 390 = .ok (.goto 4, 3) := by decide +kernel
theorem dL_isSo_393 : decode cL_isSo 393 = .ok (.iconst 0, 1) := by decide +kernel
theorem dL_isSo_394 : decode cL_isSo 394 = .ok (.istore 13, 2) := by decide +kernel
theorem dL_isSo_396 : decode cL_isSo 396 = .ok (.iload 14, 2) := by decide +kernel
theorem dL_isSo_398 : decode cL_isSo 398 = .ok (.aload 7, 2) := by decide +kernel
theorem dL_isSo_400 : decode cL_isSo 400 = .ok (.iload 15, 2) := by decide +kernel
theorem dL_isSo_402 : decode cL_isSo 402 = .ok (.iaload, 1) := by decide +kernel
theorem dL_isSo_403 : decode cL_isSo 403 = .ok (.ldc 89, 2) := by decide +kernel
theorem dL_isSo_405 : decode cL_isSo 405 = .ok (.if_icmp .ge 11, 3) := by decide +kernel
theorem dL_isSo_408 : decode cL_isSo 408 = .ok (.aload 8, 2) := by decide +kernel
theorem dL_isSo_410 : decode cL_isSo 410 = .ok (.iload 15, 2) := by decide +kernel
theorem dL_isSo_412 : decode cL_isSo 412 = .ok (.iaload, 1) := by decide +kernel
theorem dL_isSo_413 : decode cL_isSo 413 = .ok (.goto 4, 3) := by decide +kernel
theorem dL_isSo_416 : decode cL_isSo 416 = .ok (.iconst 0, 1) := by decide +kernel
theorem dL_isSo_417 : decode cL_isSo 417 = .ok (.iadd, 1) := by decide +kernel
theorem dL_isSo_418 : decode cL_isSo 418 = .ok (.istore 14, 2) := by decide +kernel
theorem dL_isSo_420 : decode cL_isSo 420 = .ok (.iinc 15 1, 3) := by decide +kernel
theorem dL_isSo_423 : decode cL_isSo 423 = .ok (.goto (-121), 3) := by decide +kernel
theorem dL_isSo_426 : decode cL_isSo 426 = .ok (.iconst 0, 1) := by decide +kernel
theorem dL_isSo_427 : decode cL_isSo 427 = .ok (.istore 15, 2) := by decide +kernel
theorem dL_isSo_429 : decode cL_isSo 429 = .ok (.iload 15, 2) := by decide +kernel
theorem dL_isSo_431 : decode cL_isSo 431 = .ok (.bipush 6, 2) := by decide +kernel
theorem dL_isSo_433 : decode cL_isSo 433 = .ok (.if_icmp .ge 45, 3) := by decide +kernel
theorem dL_isSo_436 : decode cL_isSo 436 = .ok (.iload 13, 2) := by decide +kernel
theorem dL_isSo_438 : decode cL_isSo 438 = .ok (.ifCond .eq 40, 3) := by decide +kernel
theorem dL_isSo_441 : decode cL_isSo 441 = .ok (.aload_n 0, 1) := by decide +kernel
theorem dL_isSo_442 : decode cL_isSo 442 = .ok (.iload 15, 2) := by decide +kernel
theorem dL_isSo_444 : decode cL_isSo 444 = .ok (.invokevirtual 98, 3) := by decide +kernel
theorem dL_isSo_447 : decode cL_isSo 447 = .ok (.aload 6, 2) := by decide +kernel
theorem dL_isSo_449 : decode cL_isSo 449 = .ok (.iload 15, 2) := by decide +kernel
theorem dL_isSo_451 : decode cL_isSo 451 = .ok (.iaload, 1) := by decide +kernel
theorem dL_isSo_452 : decode cL_isSo 452 = .ok (.if_icmp .ne 7, 3) := by decide +kernel
theorem dL_isSo_455 : decode cL_isSo 455 = .ok (.iconst 1, 1) := by decide +kernel
theorem dL_isSo_456 : decode cL_isSo 456 = .ok (.goto 4, 3) := by decide +kernel
theorem dL_isSo_459 : decode cL_isSo 459 = .ok (.iconst 0, 1) := by decide +kernel
theorem dL_isSo_460 : decode cL_isSo 460 = .ok (.istore 13, 2) := by decide +kernel
theorem dL_isSo_462 : decode cL_isSo 462 = .ok (.iload 14, 2) := by decide +kernel
theorem dL_isSo_464 : decode cL_isSo 464 = .ok (.aload 6, 2) := by decide +kernel
theorem dL_isSo_466 : decode cL_isSo 466 = .ok (.iload 15, 2) := by decide +kernel
theorem dL_isSo_468 : decode cL_isSo 468 = .ok (.iaload, 1) := by decide +kernel
theorem dL_isSo_469 : decode cL_isSo 469 = .ok (.iadd, 1) := by decide +kernel
theorem dL_isSo_470 : decode cL_isSo 470 = .ok (.istore 14, 2) := by decide +kernel
theorem dL_isSo_472 : decode cL_isSo 472 = .ok (.iinc 15 1, 3) := by decide +kernel
theorem dL_isSo_475 : decode cL_isSo 475 = .ok (.goto (-46), 3) := by decide +kernel
theorem dL_isSo_478 : decode cL_isSo 478 = .ok (.aload 11, 2) := by decide +kernel
theorem dL_isSo_480 : decode cL_isSo 480 = .ok (.iconst 1, 1) := by decide +kernel
theorem dL_isSo_481 : decode cL_isSo 481 = .ok (.iaload, 1) := by decide +kernel
theorem dL_isSo_482 : decode cL_isSo 482 = .ok (.ifCond .ne 7, 3) := by decide +kernel
theorem dL_isSo_485 : decode cL_isSo 485 = .ok (.iconst 0, 1) := by decide +kernel
theorem dL_isSo_486 : decode cL_isSo 486 = .ok (.goto 10, 3) := by decide +kernel
theorem dL_isSo_489 : decode cL_isSo 489 = .ok (.iload 12, 2) := by decide +kernel
theorem dL_isSo_491 : decode cL_isSo 491 = .ok (.aload 11, 2) := by decide +kernel
theorem dL_isSo_493 : decode cL_isSo 493 = .ok (.iconst 1, 1) := by decide +kernel
theorem dL_isSo_494 : decode cL_isSo 494 = .ok (.iaload, 1) := by decide +kernel
theorem dL_isSo_495 : decode cL_isSo 495 = .ok (.irem, 1) := by decide +kernel
theorem dL_isSo_496 : decode cL_isSo 496 = .ok (.istore 15, 2) := by decide +kernel
theorem dL_isSo_498 : decode cL_isSo 498 = .ok (.iconst 0, 1) := by decide +kernel
theorem dL_isSo_499 : decode cL_isSo 499 = .ok (.istore 16, 2) := by decide +kernel
theorem dL_isSo_501 : decode cL_isSo 501 = .ok (.iconst 0, 1) := by decide +kernel
theorem dL_isSo_502 : decode cL_isSo 502 = .ok (.istore 17, 2) := by decide +kernel
theorem dL_isSo_504 : decode cL_isSo 504 = .ok (.iload 17, 2) := by decide +kernel
theorem dL_isSo_506 : decode cL_isSo 506 = .ok (.aload 11, 2) := by decide +kernel
theorem dL_isSo_508 : decode cL_isSo 508 = .ok (.iconst 4, 1) := by decide +kernel
theorem dL_isSo_509 : decode cL_isSo 509 = .ok (.iaload, 1) := by decide +kernel
theorem dL_isSo_510 : decode cL_isSo 510 = .ok (.if_icmp .ge 198, 3) := by decide +kernel
theorem dL_isSo_513 : decode cL_isSo 513 = .ok (.iload 13, 2) := by decide +kernel
theorem dL_isSo_515 : decode cL_isSo 515 = .ok (.ifCond .eq 193, 3) := by decide +kernel
theorem dL_isSo_518 : decode cL_isSo 518 = .ok (.iconst 0, 1) := by decide +kernel
theorem dL_isSo_519 : decode cL_isSo 519 = .ok (.istore 18, 2) := by decide +kernel
theorem dL_isSo_521 : decode cL_isSo 521 = .ok (.iconst 0, 1) := by decide +kernel
theorem dL_isSo_522 : decode cL_isSo 522 = .ok (.istore 19, 2) := by decide +kernel
theorem dL_isSo_524 : decode cL_isSo 524 = .ok (.iload 19, 2) := by decide +kernel
theorem dL_isSo_526 : decode cL_isSo 526 = .ok (.aload 11, 2) := by decide +kernel
theorem dL_isSo_528 : decode cL_isSo 528 = .ok (.iconst 4, 1) := by decide +kernel
theorem dL_isSo_529 : decode cL_isSo 529 = .ok (.iaload, 1) := by decide +kernel
theorem dL_isSo_530 : decode cL_isSo 530 = .ok (.if_icmp .ge 80, 3) := by decide +kernel
theorem dL_isSo_533 : decode cL_isSo 533 = .ok (.iload 18, 2) := by decide +kernel
theorem dL_isSo_535 : decode cL_isSo 535 = .ok (.aload 9, 2) := by decide +kernel
theorem dL_isSo_537 : decode cL_isSo 537 = .ok (.iload 19, 2) := by decide +kernel
theorem dL_isSo_539 : decode cL_isSo 539 = .ok (.iaload, 1) := by decide +kernel
theorem dL_isSo_540 : decode cL_isSo 540 = .ok (.ldc 101, 2) := by decide +kernel
theorem dL_isSo_542 : decode cL_isSo 542 = .ok (.idiv, 1) := by decide +kernel
theorem dL_isSo_543 : decode cL_isSo 543 = .ok (.ifCond .ne 57, 3) := by decide +kernel
theorem dL_isSo_546 : decode cL_isSo 546 = .ok (.aload 9, 2) := by decide +kernel
theorem dL_isSo_548 : decode cL_isSo 548 = .ok (.iload 19, 2) := by decide +kernel
theorem dL_isSo_550 : decode cL_isSo 550 = .ok (.iaload, 1) := by decide +kernel
theorem dL_isSo_551 : decode cL_isSo 551 = .ok (.sipush 8192, 3) := by decide +kernel
theorem dL_isSo_554 : decode cL_isSo 554 = .ok (.idiv, 1) := by decide +kernel
theorem dL_isSo_555 : decode cL_isSo 555 = .ok (.bipush 16, 2) := by decide +kernel
theorem dL_isSo_557 : decode cL_isSo 557 = .ok (.irem, 1) := by decide +kernel
theorem dL_isSo_558 : decode cL_isSo 558 = .ok (.iload 15, 2) := by decide +kernel
theorem dL_isSo_560 : decode cL_isSo 560 = .ok (.if_icmp .ne 40, 3) := by decide +kernel
theorem dL_isSo_563 : decode cL_isSo 563 = .ok (.aload 10, 2) := by decide +kernel
theorem dL_isSo_565 : decode cL_isSo 565 = .ok (.iload 19, 2) := by decide +kernel
theorem dL_isSo_567 : decode cL_isSo 567 = .ok (.iaload, 1) := by decide +kernel
theorem dL_isSo_568 : decode cL_isSo 568 = .ok (.aload 10, 2) := by decide +kernel
theorem dL_isSo_570 : decode cL_isSo 570 = .ok (.iload 17, 2) := by decide +kernel
theorem dL_isSo_572 : decode cL_isSo 572 = .ok (.iaload, 1) := by decide +kernel
theorem dL_isSo_573 : decode cL_isSo 573 = .ok (.if_icmp .lt 23, 3) := by decide +kernel
theorem dL_isSo_576 : decode cL_isSo 576 = .ok (.aload 10, 2) := by decide +kernel
theorem dL_isSo_578 : decode cL_isSo 578 = .ok (.iload 19, 2) := by decide +kernel
theorem dL_isSo_580 : decode cL_isSo 580 = .ok (.iaload, 1) := by decide +kernel
theorem dL_isSo_581 : decode cL_isSo 581 = .ok (.aload 10, 2) := by decide +kernel
theorem dL_isSo_583 : decode cL_isSo 583 = .ok (.iload 17, 2) := by decide +kernel
theorem dL_isSo_585 : decode cL_isSo 585 = .ok (.iaload, 1) := by decide +kernel
theorem dL_isSo_586 : decode cL_isSo 586 = .ok (.if_icmp .ne 14, 3) := by decide +kernel
theorem dL_isSo_589 : decode cL_isSo 589 = .ok (.iload 19, 2) := by decide +kernel
theorem dL_isSo_591 : decode cL_isSo 591 = .ok (.iload 17, 2) := by decide +kernel
theorem dL_isSo_593 : decode cL_isSo 593 = .ok (.if_icmp .ge 7, 3) := by decide +kernel
theorem dL_isSo_596 : decode cL_isSo 596 = .ok (.iconst 1, 1) := by decide +kernel
theorem dL_isSo_597 : decode cL_isSo 597 = .ok (.goto 4, 3) := by decide +kernel
theorem dL_isSo_600 : decode cL_isSo 600 = .ok (.iconst 0, 1) := by decide +kernel
theorem dL_isSo_601 : decode cL_isSo 601 = .ok (.iadd, 1) := by decide +kernel
theorem dL_isSo_602 : decode cL_isSo 602 = .ok (.istore 18, 2) := by decide +kernel
theorem dL_isSo_604 : decode cL_isSo 604 = .ok (.iinc 19 1, 3) := by decide +kernel
theorem dL_isSo_607 : decode cL_isSo 607 = .ok (.goto (-83), 3) := by decide +kernel
theorem dL_isSo_610 : decode cL_isSo 610 = .ok (.aload 9, 2) := by decide +kernel
theorem dL_isSo_612 : decode cL_isSo 612 = .ok (.iload 17, 2) := by decide +kernel
theorem dL_isSo_614 : decode cL_isSo 614 = .ok (.iaload, 1) := by decide +kernel
theorem dL_isSo_615 : decode cL_isSo 615 = .ok (.ldc 101, 2) := by decide +kernel
theorem dL_isSo_617 : decode cL_isSo 617 = .ok (.idiv, 1) := by decide +kernel
theorem dL_isSo_618 : decode cL_isSo 618 = .ok (.ifCond .ne 24, 3) := by decide +kernel
theorem dL_isSo_621 : decode cL_isSo 621 = .ok (.aload 9, 2) := by decide +kernel
theorem dL_isSo_623 : decode cL_isSo 623 = .ok (.iload 17, 2) := by decide +kernel
theorem dL_isSo_625 : decode cL_isSo 625 = .ok (.iaload, 1) := by decide +kernel
theorem dL_isSo_626 : decode cL_isSo 626 = .ok (.sipush 8192, 3) := by decide +kernel
theorem dL_isSo_629 : decode cL_isSo 629 = .ok (.idiv, 1) := by decide +kernel
theorem dL_isSo_630 : decode cL_isSo 630 = .ok (.bipush 16, 2) := by decide +kernel
theorem dL_isSo_632 : decode cL_isSo 632 = .ok (.irem, 1) := by decide +kernel
theorem dL_isSo_633 : decode cL_isSo 633 = .ok (.iload 15, 2) := by decide +kernel
theorem dL_isSo_635 : decode cL_isSo 635 = .ok (.if_icmp .ne 7, 3) := by decide +kernel
theorem dL_isSo_638 : decode cL_isSo 638 = .ok (.iconst 1, 1) := by decide +kernel
theorem dL_isSo_639 : decode cL_isSo 639 = .ok (.goto 4, 3) := by decide +kernel
theorem dL_isSo_642 : decode cL_isSo 642 = .ok (.iconst 0, 1) := by decide +kernel
theorem dL_isSo_643 : decode cL_isSo 643 = .ok (.istore 19, 2) := by decide +kernel
theorem dL_isSo_645 : decode cL_isSo 645 = .ok (.iload 16, 2) := by decide +kernel
theorem dL_isSo_647 : decode cL_isSo 647 = .ok (.iload 19, 2) := by decide +kernel
theorem dL_isSo_649 : decode cL_isSo 649 = .ok (.ifCond .eq 7, 3) := by decide +kernel
theorem dL_isSo_652 : decode cL_isSo 652 = .ok (.iconst 1, 1) := by decide +kernel
theorem dL_isSo_653 : decode cL_isSo 653 = .ok (.goto 4, 3) := by decide +kernel
theorem dL_isSo_656 : decode cL_isSo 656 = .ok (.iconst 0, 1) := by decide +kernel
theorem dL_isSo_657 : decode cL_isSo 657 = .ok (.iadd, 1) := by decide +kernel
theorem dL_isSo_658 : decode cL_isSo 658 = .ok (.istore 16, 2) := by decide +kernel
theorem dL_isSo_660 : decode cL_isSo 660 = .ok (.aload_n 0, 1) := by decide +kernel
theorem dL_isSo_661 : decode cL_isSo 661 = .ok (.iload 17, 2) := by decide +kernel
theorem dL_isSo_663 : decode cL_isSo 663 = .ok (.invokevirtual 67, 3) := by decide +kernel
theorem dL_isSo_666 : decode cL_isSo 666 = .ok (.aload 9, 2) := by decide +kernel
theorem dL_isSo_668 : decode cL_isSo 668 = .ok (.iload 17, 2) := by decide +kernel
theorem dL_isSo_670 : decode cL_isSo 670 = .ok (.iaload, 1) := by decide +kernel
theorem dL_isSo_671 : decode cL_isSo 671 = .ok (.ldc 101, 2) := by decide +kernel
theorem dL_isSo_673 : decode cL_isSo 673 = .ok (.idiv, 1) := by decide +kernel
theorem dL_isSo_674 : decode cL_isSo 674 = .ok (.if_icmp .ne 25, 3) := by decide +kernel
theorem dL_isSo_677 : decode cL_isSo 677 = .ok (.iload 19, 2) := by decide +kernel
theorem dL_isSo_679 : decode cL_isSo 679 = .ok (.ifCond .eq 16, 3) := by decide +kernel
theorem dL_isSo_682 : decode cL_isSo 682 = .ok (.aload_n 0, 1) := by decide +kernel
theorem dL_isSo_683 : decode cL_isSo 683 = .ok (.iload 15, 2) := by decide +kernel
theorem dL_isSo_685 : decode cL_isSo 685 = .ok (.iload 18, 2) := by decide +kernel
theorem dL_isSo_687 : decode cL_isSo 687 = .ok (.invokevirtual 64, 3) := by decide +kernel
theorem dL_isSo_690 : decode cL_isSo 690 = .ok (.iload 17, 2) := by decide +kernel
theorem dL_isSo_692 : decode cL_isSo 692 = .ok (.if_icmp .ne 7, 3) := by decide +kernel
theorem dL_isSo_695 : decode cL_isSo 695 = .ok (.iconst 1, 1) := by decide +kernel
theorem dL_isSo_696 : decode cL_isSo 696 = .ok (.goto 4, 3) := by decide +kernel
theorem dL_isSo_699 : decode cL_isSo 699 = .ok (.iconst 0, 1) := by decide +kernel
theorem dL_isSo_700 : decode cL_isSo 700 = .ok (.istore 13, 2) := by decide +kernel
theorem dL_isSo_702 : decode cL_isSo 702 = .ok (.iinc 17 1, 3) := by decide +kernel
theorem dL_isSo_705 : decode cL_isSo 705 = .ok (.goto (-201), 3) := by decide +kernel
theorem dL_isSo_708 : decode cL_isSo 708 = .ok (.aload 11, 2) := by decide +kernel
theorem dL_isSo_710 : decode cL_isSo 710 = .ok (.iconst 4, 1) := by decide +kernel
theorem dL_isSo_711 : decode cL_isSo 711 = .ok (.iaload, 1) := by decide +kernel
theorem dL_isSo_712 : decode cL_isSo 712 = .ok (.ifCond .le 139, 3) := by decide +kernel
theorem dL_isSo_715 : decode cL_isSo 715 = .ok (.iload 13, 2) := by decide +kernel
theorem dL_isSo_717 : decode cL_isSo 717 = .ok (.ifCond .eq 134, 3) := by decide +kernel
theorem dL_isSo_720 : decode cL_isSo 720 = .ok (.iload 12, 2) := by decide +kernel
theorem dL_isSo_722 : decode cL_isSo 722 = .ok (.aload 11, 2) := by decide +kernel
theorem dL_isSo_724 : decode cL_isSo 724 = .ok (.iconst 4, 1) := by decide +kernel
theorem dL_isSo_725 : decode cL_isSo 725 = .ok (.iaload, 1) := by decide +kernel
theorem dL_isSo_726 : decode cL_isSo 726 = .ok (.irem, 1) := by decide +kernel
theorem dL_isSo_727 : decode cL_isSo 727 = .ok (.istore 17, 2) := by decide +kernel
theorem dL_isSo_729 : decode cL_isSo 729 = .ok (.aload_n 0, 1) := by decide +kernel
theorem dL_isSo_730 : decode cL_isSo 730 = .ok (.iload 17, 2) := by decide +kernel
theorem dL_isSo_732 : decode cL_isSo 732 = .ok (.iconst 0, 1) := by decide +kernel
theorem dL_isSo_733 : decode cL_isSo 733 = .ok (.aload 9, 2) := by decide +kernel
theorem dL_isSo_735 : decode cL_isSo 735 = .ok (.iload 17, 2) := by decide +kernel
theorem dL_isSo_737 : decode cL_isSo 737 = .ok (.iaload, 1) := by decide +kernel
theorem dL_isSo_738 : decode cL_isSo 738 = .ok (.bipush 64, 2) := by decide +kernel
theorem dL_isSo_740 : decode cL_isSo 740 = .ok (.irem, 1) := by decide +kernel
theorem dL_isSo_741 : decode cL_isSo 741 = .ok (.bipush 46, 2) := by decide +kernel
theorem dL_isSo_743 : decode cL_isSo 743 = .ok (.invokestatic 102, 3) := by decide +kernel
theorem dL_isSo_746 : decode cL_isSo 746 = .ok (.istore 18, 2) := by decide +kernel
theorem dL_isSo_748 : decode cL_isSo 748 = .ok (.iload 18, 2) := by decide +kernel
theorem dL_isSo_750 : decode cL_isSo 750 = .ok (.ifCond .ge 7, 3) := by decide +kernel
theorem dL_isSo_753 : decode cL_isSo 753 = .ok (.iconst (-1), 1) := by decide +kernel
theorem dL_isSo_754 : decode cL_isSo 754 = .ok (.goto 25, 3) := by decide +kernel
theorem dL_isSo_757 : decode cL_isSo 757 = .ok (.aload_n 0, 1) := by decide +kernel
theorem dL_isSo_758 : decode cL_isSo 758 = .ok (.iload 17, 2) := by decide +kernel
theorem dL_isSo_760 : decode cL_isSo 760 = .ok (.iload 18, 2) := by decide +kernel
theorem dL_isSo_762 : decode cL_isSo 762 = .ok (.aload 9, 2) := by decide +kernel
theorem dL_isSo_764 : decode cL_isSo 764 = .ok (.iload 17, 2) := by decide +kernel
theorem dL_isSo_766 : decode cL_isSo 766 = .ok (.iaload, 1) := by decide +kernel
theorem dL_isSo_767 : decode cL_isSo 767 = .ok (.bipush 64, 2) := by decide +kernel
theorem dL_isSo_769 : decode cL_isSo 769 = .ok (.idiv, 1) := by decide +kernel
theorem dL_isSo_770 : decode cL_isSo 770 = .ok (.sipush 128, 3) := by decide +kernel
theorem dL_isSo_773 : decode cL_isSo 773 = .ok (.irem, 1) := by decide +kernel
theorem dL_isSo_774 : decode cL_isSo 774 = .ok (.bipush 62, 2) := by decide +kernel
theorem dL_isSo_776 : decode cL_isSo 776 = .ok (.invokestatic 102, 3) := by decide +kernel
theorem dL_isSo_779 : decode cL_isSo 779 = .ok (.istore 18, 2) := by decide +kernel
theorem dL_isSo_781 : decode cL_isSo 781 = .ok (.iload 18, 2) := by decide +kernel
theorem dL_isSo_783 : decode cL_isSo 783 = .ok (.ifCond .ge 7, 3) := by decide +kernel
theorem dL_isSo_786 : decode cL_isSo 786 = .ok (.iconst (-1), 1) := by decide +kernel
theorem dL_isSo_787 : decode cL_isSo 787 = .ok (.goto 25, 3) := by decide +kernel
theorem dL_isSo_790 : decode cL_isSo 790 = .ok (.aload_n 0, 1) := by decide +kernel
theorem dL_isSo_791 : decode cL_isSo 791 = .ok (.iload 17, 2) := by decide +kernel
theorem dL_isSo_793 : decode cL_isSo 793 = .ok (.iload 18, 2) := by decide +kernel
theorem dL_isSo_795 : decode cL_isSo 795 = .ok (.aload 9, 2) := by decide +kernel
theorem dL_isSo_797 : decode cL_isSo 797 = .ok (.iload 17, 2) := by decide +kernel
theorem dL_isSo_799 : decode cL_isSo 799 = .ok (.iaload, 1) := by decide +kernel
theorem dL_isSo_800 : decode cL_isSo 800 = .ok (.sipush 8192, 3) := by decide +kernel
theorem dL_isSo_803 : decode cL_isSo 803 = .ok (.idiv, 1) := by decide +kernel
theorem dL_isSo_804 : decode cL_isSo 804 = .ok (.bipush 16, 2) := by decide +kernel
theorem dL_isSo_806 : decode cL_isSo 806 = .ok (.irem, 1) := by decide +kernel
theorem dL_isSo_807 : decode cL_isSo 807 = .ok (.bipush 64, 2) := by decide +kernel
theorem dL_isSo_809 : decode cL_isSo 809 = .ok (.invokestatic 102, 3) := by decide +kernel
theorem dL_isSo_812 : decode cL_isSo 812 = .ok (.istore 18, 2) := by decide +kernel
theorem dL_isSo_814 : decode cL_isSo 814 = .ok (.iload 18, 2) := by decide +kernel
theorem dL_isSo_816 : decode cL_isSo 816 = .ok (.ifCond .ge 7, 3) := by decide +kernel
theorem dL_isSo_819 : decode cL_isSo 819 = .ok (.iconst (-1), 1) := by decide +kernel
theorem dL_isSo_820 : decode cL_isSo 820 = .ok (.goto 17, 3) := by decide +kernel
theorem dL_isSo_823 : decode cL_isSo 823 = .ok (.aload_n 0, 1) := by decide +kernel
theorem dL_isSo_824 : decode cL_isSo 824 = .ok (.iload 17, 2) := by decide +kernel
theorem dL_isSo_826 : decode cL_isSo 826 = .ok (.iload 18, 2) := by decide +kernel
theorem dL_isSo_828 : decode cL_isSo 828 = .ok (.aload 10, 2) := by decide +kernel
theorem dL_isSo_830 : decode cL_isSo 830 = .ok (.iload 17, 2) := by decide +kernel
theorem dL_isSo_832 : decode cL_isSo 832 = .ok (.iaload, 1) := by decide +kernel
theorem dL_isSo_833 : decode cL_isSo 833 = .ok (.iconst 0, 1) := by decide +kernel
theorem dL_isSo_834 : decode cL_isSo 834 = .ok (.invokestatic 102, 3) := by decide +kernel
theorem dL_isSo_837 : decode cL_isSo 837 = .ok (.istore 18, 2) := by decide +kernel
theorem dL_isSo_839 : decode cL_isSo 839 = .ok (.iload 18, 2) := by decide +kernel
theorem dL_isSo_841 : decode cL_isSo 841 = .ok (.ifCond .le 7, 3) := by decide +kernel
theorem dL_isSo_844 : decode cL_isSo 844 = .ok (.iconst 1, 1) := by decide +kernel
theorem dL_isSo_845 : decode cL_isSo 845 = .ok (.goto 4, 3) := by decide +kernel
theorem dL_isSo_848 : decode cL_isSo 848 = .ok (.iconst 0, 1) := by decide +kernel
theorem dL_isSo_849 : decode cL_isSo 849 = .ok (.istore 13, 2) := by decide +kernel
theorem dL_isSo_851 : decode cL_isSo 851 = .ok (.iload 13, 2) := by decide +kernel
theorem dL_isSo_853 : decode cL_isSo 853 = .ok (.ifCond .eq 57, 3) := by decide +kernel
theorem dL_isSo_856 : decode cL_isSo 856 = .ok (.iload 14, 2) := by decide +kernel
theorem dL_isSo_858 : decode cL_isSo 858 = .ok (.aload 11, 2) := by decide +kernel
theorem dL_isSo_860 : decode cL_isSo 860 = .ok (.iconst 5, 1) := by decide +kernel
theorem dL_isSo_861 : decode cL_isSo 861 = .ok (.iaload, 1) := by decide +kernel
theorem dL_isSo_862 : decode cL_isSo 862 = .ok (.if_icmp .ne 48, 3) := by decide +kernel
theorem dL_isSo_865 : decode cL_isSo 865 = .ok (.aload 11, 2) := by decide +kernel
theorem dL_isSo_867 : decode cL_isSo 867 = .ok (.iconst 1, 1) := by decide +kernel
theorem dL_isSo_868 : decode cL_isSo 868 = .ok (.iaload, 1) := by decide +kernel
theorem dL_isSo_869 : decode cL_isSo 869 = .ok (.ifCond .eq 19, 3) := by decide +kernel
theorem dL_isSo_872 : decode cL_isSo 872 = .ok (.aload_n 0, 1) := by decide +kernel
theorem dL_isSo_873 : decode cL_isSo 873 = .ok (.bipush 16, 2) := by decide +kernel
theorem dL_isSo_875 : decode cL_isSo 875 = .ok (.iload 15, 2) := by decide +kernel
theorem dL_isSo_877 : decode cL_isSo 877 = .ok (.iload 16, 2) := by decide +kernel
theorem dL_isSo_879 : decode cL_isSo 879 = .ok (.iconst 0, 1) := by decide +kernel
theorem dL_isSo_880 : decode cL_isSo 880 = .ok (.iconst 0, 1) := by decide +kernel
theorem dL_isSo_881 : decode cL_isSo 881 = .ok (.invokestatic 106, 3) := by decide +kernel
theorem dL_isSo_884 : decode cL_isSo 884 = .ok (.iconst (-1), 1) := by decide +kernel
theorem dL_isSo_885 : decode cL_isSo 885 = .ok (.if_icmp .ne 25, 3) := by decide +kernel
theorem dL_isSo_888 : decode cL_isSo 888 = .ok (.aload_n 0, 1) := by decide +kernel
theorem dL_isSo_889 : decode cL_isSo 889 = .ok (.bipush 13, 2) := by decide +kernel
theorem dL_isSo_891 : decode cL_isSo 891 = .ok (.aload 11, 2) := by decide +kernel
theorem dL_isSo_893 : decode cL_isSo 893 = .ok (.iconst 2, 1) := by decide +kernel
theorem dL_isSo_894 : decode cL_isSo 894 = .ok (.iaload, 1) := by decide +kernel
theorem dL_isSo_895 : decode cL_isSo 895 = .ok (.iconst 0, 1) := by decide +kernel
theorem dL_isSo_896 : decode cL_isSo 896 = .ok (.iconst 0, 1) := by decide +kernel
theorem dL_isSo_897 : decode cL_isSo 897 = .ok (.iconst 0, 1) := by decide +kernel
theorem dL_isSo_898 : decode cL_isSo 898 = .ok (.invokestatic 106, 3) := by decide +kernel
theorem dL_isSo_901 : decode cL_isSo 901 = .ok (.ldc 72, 2) := by decide +kernel
theorem dL_isSo_903 : decode cL_isSo 903 = .ok (.if_icmp .ne 7, 3) := by decide +kernel
theorem dL_isSo_906 : decode cL_isSo 906 = .ok (.iconst 1, 1) := by decide +kernel
theorem dL_isSo_907 : decode cL_isSo 907 = .ok (.goto 4, 3) := by decide +kernel
theorem dL_isSo_910 : decode cL_isSo 910 = .ok (.iconst 0, 1) := by decide +kernel
theorem dL_isSo_911 : decode cL_isSo 911 = .ok (.ireturn, 1) := by decide +kernel
set_option maxHeartbeats 4000000 in
set_option maxRecDepth 100000 in
theorem t_isSo_888 {p : Program} {l : Launch} {e : Env} {s : State} {m : MethodId} {below : List Frame} {meth : Method} {c : Code} {E : State} {G : kG} {T : kSt} {o : Int64} {ad : kAd} {n9 x1 : Nat} (hE : kE l E G) (hn9 : n9 ≤ 200) (hx1 : x1 < 60000) (Z : kZ p m c cL_isSo 20 s ([.ref (ad 0 0), .ref (ad 17 0), .ref (ad 17 1), .ref (ad 17 2), .ref (ad 17 3), .ref (ad 17 4), .ref (ad 17 5), .ref (ad 17 6), .ref (ad 17 7), .ref (ad 17 8), .ref (ad 17 9), .ref (ad 17 10), .int (nI x1)] : List Value).toArray wsL_law RL E G) (hr : meth.sig.returnType = some .boolean) (hlocks : meth.locks = false) : ∀ (Sr : kSt), (Inv n9 Sr T) → ∀ (H : Heap) (locs : List Loc) (ls : Array Slot), kX E G s H locs ad (cto G Sr T o ad) → lv_has ls 20 [(13, .int 1), (0, .ref (ad 0 0)), (1, .ref (ad 17 0)), (2, .ref (ad 17 1)), (3, .ref (ad 17 2)), (4, .ref (ad 17 3)), (5, .ref (ad 17 4)), (6, .ref (ad 17 5)), (7, .ref (ad 17 6)), (8, .ref (ad 17 7)), (9, .ref (ad 17 8)), (10, .ref (ad 17 9)), (11, .ref (ad 17 10)), (12, .int (nI x1))] → W p l e (headSpec (Cond.code yL_isSo cL_isSo 20 (some .boolean) :: wsL_law) ({ frames := 20, cells := 1000, slots := 6000, locals := 500 } : Room)).room s m ([.ref (ad 0 0), .ref (ad 17 0), .ref (ad 17 1), .ref (ad 17 2), .ref (ad 17 3), .ref (ad 17 4), .ref (ad 17 5), .ref (ad 17 6), .ref (ad 17 7), .ref (ad 17 8), .ref (ad 17 9), .ref (ad 17 10), .int (nI x1)] : List Value).toArray below meth c H locs 970 5820 (vx_MQ below (kQi E G (fun r ad1 ct1 => (r = 1 ∧ ad = ad1) ∧ ∃ S1, ct1 = cto G S1 T o ad ∧ Inv n9 S1 T)) (kXC E G (fun _ _ _ => False)) ([.ref (ad 0 0), .ref (ad 17 0), .ref (ad 17 1), .ref (ad 17 2), .ref (ad 17 3), .ref (ad 17 4), .ref (ad 17 5), .ref (ad 17 6), .ref (ad 17 7), .ref (ad 17 8), .ref (ad 17 9), .ref (ad 17 10), .int (nI x1)] : List Value).toArray s 1000 6000 (kB E.heap.size)) (F0 m 888 ls []) := by
  intro Sr hIr H locs ls X hl
  have hx := Z.1.1
  have hb := Z.1.2.1
  obtain ⟨hS, hL, hK9, hLg, hRp, hlog, hB⟩ := hIr.ok
  have hT := hIr.2.1
  have hN := hS
  obtain ⟨hc0, hc1, hc2, hc3⟩ := hT.c
  have htot := hIr.2.2
  refine lv_aload_n hx hb dL_isSo_888 rfl (lv_at hl 1 rfl) ?_
  refine lv_bipush (v := 13) hx hb dL_isSo_889 (by decide) ?_
  refine lv_aload hx hb dL_isSo_891 (lv_at hl 12 rfl) ?_
  refine lv_iconst (v := 2) hx hb dL_isSo_893 (by decide) ?_
  refine k_ild (ad := ad) (k := 17) (i := 10) Z X ct_17_10 (vp_in_nI (n := 2) (by first | assumption | omega) (by decide)) dL_isSo_894 ?_
  refine lv_topi (fun x_894 e_894 => ?_)
  obtain rfl : x_894 = T.1 11 2 := e_894.trans (by first | (simp only [nI_clamp (show 2 < 2 ^ 31 by omega)]; done) | rfl | (simp only [nI_clamp (show 2 < 2 ^ 31 by omega)]; rfl) | (simp only [nI_clamp (show 2 < 2 ^ 31 by omega)]; simp [sI, sN]; done))
  refine lv_topi (fun x_894 e_894 => ?_)
  obtain rfl : x_894 = nI (Sr.2 0 1) := e_894.trans (hT.g2)
  refine lv_iconst (v := 0) hx hb dL_isSo_895 (by decide) ?_
  refine lv_iconst (v := 0) hx hb dL_isSo_896 (by decide) ?_
  refine lv_iconst (v := 0) hx hb dL_isSo_897 (by decide) ?_
  refine k_xRi X (k_xrunSW (As := [.ref (ad 0 0), .int 13, .int (nI (Sr.2 0 1)), .int 0, .int 0, .int 0]) (rest := []) Z X (c_L_does_13 l E G Sr T o ad (nI (Sr.2 0 1)) 0 0 0 hE hS hL) (k_cwSW 6 Z.1.2.2.2.2 (inU_6 _ (List.mem_of_getElem? (i := 3) rfl)) (inU_6 _ (List.mem_of_getElem? (i := 4) rfl)) (inU_6 _ (List.mem_of_getElem? (i := 5) rfl)) (inU_6 _ (List.mem_of_getElem? (i := 6) rfl)) rfl rfl (by decide +kernel) ⟨(Nat.le_of_ble_eq_true rfl), (Nat.le_of_ble_eq_true rfl)⟩) rfl hl.1 rfl (Nat.le_of_ble_eq_true rfl) dL_isSo_898 ⟨(by show _ ≤ (_ : Nat); simp only [headSpec]; omega), (by show _ ≤ (_ : Nat); simp only [headSpec]; omega)⟩) (fun _ _ _ _ _ _ _ hp => hp.elim) (fun r_898 ad1 ct1 H locs hp X => ?_)
  obtain ⟨ha_, hq⟩ := hp
  have h0 := cMsg_1 (S := Sr) (w := 0) (by omega)
  rcases hq with ⟨z, -⟩ | ⟨z, rfl, hb_⟩ | ⟨z, -⟩ | ⟨z, -⟩
  case inl => exact absurd (h0.symm.trans z) (by decide)
  case inr.inr.inl => exact absurd (h0.symm.trans z) (by decide)
  case inr.inr.inr => exact absurd (h0.symm.trans z) (by decide)
  rw [hb_, ← ha_] at X
  refine lv_ldc (v := (-3000000)) hx hb Z.1.2.2.2.1 (Z.1.2.2.2.2 _ (inU_1 _ (List.mem_of_getElem? (i := 5) rfl))) dL_isSo_901 ?_
  refine lv_icmp_ne (tgt := 910) hx hb dL_isSo_903 (by decide) (fun c_903 => ?_) (fun c_903 => ?_)
  · exact absurd rfl c_903
  · refine lv_iconst (v := 1) hx hb dL_isSo_906 (by decide) ?_
    refine lv_goto (tgt := 911) hx hb dL_isSo_907 (by decide) ?_
    exact vx_ret (k_iret Z X hr hlocks rfl (by omega) (by omega) dL_isSo_911 ⟨⟨rfl, rfl⟩, Sr, rfl, hIr⟩)
set_option maxHeartbeats 4000000 in
set_option maxRecDepth 100000 in
theorem t_isSo_851 {p : Program} {l : Launch} {e : Env} {s : State} {m : MethodId} {below : List Frame} {meth : Method} {c : Code} {E : State} {G : kG} {T : kSt} {o : Int64} {ad : kAd} {n9 x1 : Nat} (hE : kE l E G) (hn9 : n9 ≤ 200) (hx1 : x1 < 60000) (Z : kZ p m c cL_isSo 20 s ([.ref (ad 0 0), .ref (ad 17 0), .ref (ad 17 1), .ref (ad 17 2), .ref (ad 17 3), .ref (ad 17 4), .ref (ad 17 5), .ref (ad 17 6), .ref (ad 17 7), .ref (ad 17 8), .ref (ad 17 9), .ref (ad 17 10), .int (nI x1)] : List Value).toArray wsL_law RL E G) (hr : meth.sig.returnType = some .boolean) (hlocks : meth.locks = false) : ∀ (Sr : kSt), (Inv n9 Sr T) → ∀ (H : Heap) (locs : List Loc) (ls : Array Slot), kX E G s H locs ad (cto G Sr T o ad) → lv_has ls 20 [(13, .int 1), (14, .int (tot Sr)), (15, .int (nI (usr Sr x1))), (16, .int (nI (opnN Sr (usr Sr x1) (Sr.2 0 3)))), (0, .ref (ad 0 0)), (1, .ref (ad 17 0)), (2, .ref (ad 17 1)), (3, .ref (ad 17 2)), (4, .ref (ad 17 3)), (5, .ref (ad 17 4)), (6, .ref (ad 17 5)), (7, .ref (ad 17 6)), (8, .ref (ad 17 7)), (9, .ref (ad 17 8)), (10, .ref (ad 17 9)), (11, .ref (ad 17 10)), (12, .int (nI x1))] → W p l e (headSpec (Cond.code yL_isSo cL_isSo 20 (some .boolean) :: wsL_law) ({ frames := 20, cells := 1000, slots := 6000, locals := 500 } : Room)).room s m ([.ref (ad 0 0), .ref (ad 17 0), .ref (ad 17 1), .ref (ad 17 2), .ref (ad 17 3), .ref (ad 17 4), .ref (ad 17 5), .ref (ad 17 6), .ref (ad 17 7), .ref (ad 17 8), .ref (ad 17 9), .ref (ad 17 10), .int (nI x1)] : List Value).toArray below meth c H locs 968 5808 (vx_MQ below (kQi E G (fun r ad1 ct1 => (r = 1 ∧ ad = ad1) ∧ ∃ S1, ct1 = cto G S1 T o ad ∧ Inv n9 S1 T)) (kXC E G (fun _ _ _ => False)) ([.ref (ad 0 0), .ref (ad 17 0), .ref (ad 17 1), .ref (ad 17 2), .ref (ad 17 3), .ref (ad 17 4), .ref (ad 17 5), .ref (ad 17 6), .ref (ad 17 7), .ref (ad 17 8), .ref (ad 17 9), .ref (ad 17 10), .int (nI x1)] : List Value).toArray s 1000 6000 (kB E.heap.size)) (F0 m 851 ls []) := by
  intro Sr hIr H locs ls X hl
  have hx := Z.1.1
  have hb := Z.1.2.1
  obtain ⟨hS, hL, hK9, hLg, hRp, hlog, hB⟩ := hIr.ok
  have hT := hIr.2.1
  have hN := hS
  obtain ⟨hc0, hc1, hc2, hc3⟩ := hT.c
  have htot := hIr.2.2
  refine lv_iload hx hb dL_isSo_851 (lv_at hl 0 rfl) ?_
  refine lv_if_eq (tgt := 910) hx hb dL_isSo_853 (by decide) (fun c_853 => ?_) (fun c_853 => ?_)
  · exact absurd c_853 (by decide)
  · refine lv_iload hx hb dL_isSo_856 (lv_at hl 1 rfl) ?_
    refine lv_aload hx hb dL_isSo_858 (lv_at hl 15 rfl) ?_
    refine lv_iconst (v := 5) hx hb dL_isSo_860 (by decide) ?_
    refine k_ild (ad := ad) (k := 17) (i := 10) Z X ct_17_10 (vp_in_nI (n := 5) (by first | assumption | omega) (by decide)) dL_isSo_861 ?_
    refine lv_topi (fun x_861 e_861 => ?_)
    obtain rfl : x_861 = T.1 11 5 := e_861.trans (by first | (simp only [nI_clamp (show 5 < 2 ^ 31 by omega)]; done) | rfl | (simp only [nI_clamp (show 5 < 2 ^ 31 by omega)]; rfl) | (simp only [nI_clamp (show 5 < 2 ^ 31 by omega)]; simp [sI, sN]; done))
    refine lv_topi (fun x_861 e_861 => ?_)
    obtain rfl : x_861 = tot Sr := e_861.trans (htot)
    refine lv_icmp_ne (tgt := 910) hx hb dL_isSo_862 (by decide) (fun c_862 => ?_) (fun c_862 => ?_)
    · exact absurd rfl c_862
    · refine lv_aload hx hb dL_isSo_865 (lv_at hl 15 rfl) ?_
      refine lv_iconst (v := 1) hx hb dL_isSo_867 (by decide) ?_
      refine k_ild (ad := ad) (k := 17) (i := 10) Z X ct_17_10 (vp_in_nI (n := 1) (by first | assumption | omega) (by decide)) dL_isSo_868 ?_
      refine lv_topi (fun x_868 e_868 => ?_)
      obtain rfl : x_868 = T.1 11 1 := e_868.trans (by first | (simp only [nI_clamp (show 1 < 2 ^ 31 by omega)]; done) | rfl | (simp only [nI_clamp (show 1 < 2 ^ 31 by omega)]; rfl) | (simp only [nI_clamp (show 1 < 2 ^ 31 by omega)]; simp [sI, sN]; done))
      refine lv_topi (fun x_868 e_868 => ?_)
      obtain rfl : x_868 = nI (Sr.2 0 0) := e_868.trans (hT.g1)
      refine lv_if_eq (tgt := 888) hx hb dL_isSo_869 (by decide) (fun c_869 => ?_) (fun c_869 => ?_)
      · have c_869 : Sr.2 0 0 = 0 := (nI_eq (a := Sr.2 0 0) (b := 0) (by omega) (by omega)).mp c_869
        refine W.widen (k := 970) (n := 5820) (by omega) (by omega) ?_
        exact t_isSo_888 hE hn9 hx1 Z hr hlocks Sr hIr _ _ _ X (lv_sub hl [0, 4, 5, 6, 7, 8, 9, 10, 11, 12, 13, 14, 15, 16] rfl)
      · have c_869 : ¬ Sr.2 0 0 = 0 := fun h => c_869 ((nI_eq (a := Sr.2 0 0) (b := 0) (by omega) (by omega)).mpr h)
        refine lv_aload_n hx hb dL_isSo_872 rfl (lv_at hl 4 rfl) ?_
        refine lv_bipush (v := 16) hx hb dL_isSo_873 (by decide) ?_
        refine lv_iload hx hb dL_isSo_875 (lv_at hl 2 rfl) ?_
        refine lv_iload hx hb dL_isSo_877 (lv_at hl 3 rfl) ?_
        refine lv_iconst (v := 0) hx hb dL_isSo_879 (by decide) ?_
        refine lv_iconst (v := 0) hx hb dL_isSo_880 (by decide) ?_
        refine k_xRi X (k_xrunSW (As := [.ref (ad 0 0), .int 16, .int (nI (usr Sr x1)), .int (nI (opnN Sr (usr Sr x1) (Sr.2 0 3))), .int 0, .int 0]) (rest := []) Z X (c_L_does_16 l E G Sr T o ad (nI (usr Sr x1)) (nI (opnN Sr (usr Sr x1) (Sr.2 0 3))) 0 0 hE hS hL) (k_cwSW 6 Z.1.2.2.2.2 (inU_6 _ (List.mem_of_getElem? (i := 3) rfl)) (inU_6 _ (List.mem_of_getElem? (i := 4) rfl)) (inU_6 _ (List.mem_of_getElem? (i := 5) rfl)) (inU_6 _ (List.mem_of_getElem? (i := 6) rfl)) rfl rfl (by decide +kernel) ⟨(Nat.le_of_ble_eq_true rfl), (Nat.le_of_ble_eq_true rfl)⟩) rfl hl.1 rfl (Nat.le_of_ble_eq_true rfl) dL_isSo_881 ⟨(by show _ ≤ (_ : Nat); simp only [headSpec]; omega), (by show _ ≤ (_ : Nat); simp only [headSpec]; omega)⟩) (fun _ _ _ _ _ _ _ hp => hp.elim) (fun r_881 ad1 ct1 H locs hp X => ?_)
        obtain ⟨ha_, hq⟩ := hp
        have h0 := cNx_0 (S := Sr) (j := usr Sr x1) (usr_lt (by omega)) (by omega) (r := opnN Sr (usr Sr x1) (Sr.2 0 3)) (by have := opnN_le Sr (usr Sr x1) (Sr.2 0 3); omega)
        rcases hq with ⟨-, rfl, S1, hS1, hb_⟩ | ⟨z, -⟩ | ⟨z, -⟩ | ⟨z, -⟩
        case inr.inl => exact absurd (h0.symm.trans z) (by decide)
        case inr.inr.inl => exact absurd (h0.symm.trans z) (by decide)
        case inr.inr.inr => exact absurd (h0.symm.trans z) (by decide)
        rw [hb_, ← ha_, show S1 = Sr from hS1] at X
        refine lv_topi (fun x_9 e_9 => ?_)
        obtain rfl : x_9 = (-1) := e_9.trans (by rw [cl_n (by have := usr_lt (S := Sr) (x := x1) (by omega); omega)]; exact next_no (by omega))
        refine lv_iconst (v := (-1)) hx hb dL_isSo_884 (by decide) ?_
        refine lv_icmp_ne (tgt := 910) hx hb dL_isSo_885 (by decide) (fun c_885 => ?_) (fun c_885 => ?_)
        · exact absurd rfl c_885
        · refine W.widen (k := 970) (n := 5820) (by omega) (by omega) ?_
          exact t_isSo_888 hE hn9 hx1 Z hr hlocks Sr hIr _ _ _ X (lv_sub hl [0, 4, 5, 6, 7, 8, 9, 10, 11, 12, 13, 14, 15, 16] rfl)
set_option maxHeartbeats 4000000 in
set_option maxRecDepth 100000 in
theorem t_isSo_708 {p : Program} {l : Launch} {e : Env} {s : State} {m : MethodId} {below : List Frame} {meth : Method} {c : Code} {E : State} {G : kG} {T : kSt} {o : Int64} {ad : kAd} {n9 x1 : Nat} (hE : kE l E G) (hn9 : n9 ≤ 200) (hx1 : x1 < 60000) (Z : kZ p m c cL_isSo 20 s ([.ref (ad 0 0), .ref (ad 17 0), .ref (ad 17 1), .ref (ad 17 2), .ref (ad 17 3), .ref (ad 17 4), .ref (ad 17 5), .ref (ad 17 6), .ref (ad 17 7), .ref (ad 17 8), .ref (ad 17 9), .ref (ad 17 10), .int (nI x1)] : List Value).toArray wsL_law RL E G) (hr : meth.sig.returnType = some .boolean) (hlocks : meth.locks = false) : ∀ (Sr : kSt), (Inv n9 Sr T) → ∀ (H : Heap) (locs : List Loc) (ls : Array Slot), kX E G s H locs ad (cto G Sr T o ad) → lv_has ls 20 [(13, .int 1), (14, .int (tot Sr)), (15, .int (nI (usr Sr x1))), (16, .int (nI (opnN Sr (usr Sr x1) (Sr.2 0 3)))), (0, .ref (ad 0 0)), (1, .ref (ad 17 0)), (2, .ref (ad 17 1)), (3, .ref (ad 17 2)), (4, .ref (ad 17 3)), (5, .ref (ad 17 4)), (6, .ref (ad 17 5)), (7, .ref (ad 17 6)), (8, .ref (ad 17 7)), (9, .ref (ad 17 8)), (10, .ref (ad 17 9)), (11, .ref (ad 17 10)), (12, .int (nI x1))] → W p l e (headSpec (Cond.code yL_isSo cL_isSo 20 (some .boolean) :: wsL_law) ({ frames := 20, cells := 1000, slots := 6000, locals := 500 } : Room)).room s m ([.ref (ad 0 0), .ref (ad 17 0), .ref (ad 17 1), .ref (ad 17 2), .ref (ad 17 3), .ref (ad 17 4), .ref (ad 17 5), .ref (ad 17 6), .ref (ad 17 7), .ref (ad 17 8), .ref (ad 17 9), .ref (ad 17 10), .int (nI x1)] : List Value).toArray below meth c H locs 912 5472 (vx_MQ below (kQi E G (fun r ad1 ct1 => (r = 1 ∧ ad = ad1) ∧ ∃ S1, ct1 = cto G S1 T o ad ∧ Inv n9 S1 T)) (kXC E G (fun _ _ _ => False)) ([.ref (ad 0 0), .ref (ad 17 0), .ref (ad 17 1), .ref (ad 17 2), .ref (ad 17 3), .ref (ad 17 4), .ref (ad 17 5), .ref (ad 17 6), .ref (ad 17 7), .ref (ad 17 8), .ref (ad 17 9), .ref (ad 17 10), .int (nI x1)] : List Value).toArray s 1000 6000 (kB E.heap.size)) (F0 m 708 ls []) := by
  intro Sr hIr H locs ls X hl
  have hx := Z.1.1
  have hb := Z.1.2.1
  obtain ⟨hS, hL, hK9, hLg, hRp, hlog, hB⟩ := hIr.ok
  have hT := hIr.2.1
  have hN := hS
  obtain ⟨hc0, hc1, hc2, hc3⟩ := hT.c
  have htot := hIr.2.2
  refine lv_aload hx hb dL_isSo_708 (lv_at hl 15 rfl) ?_
  refine lv_iconst (v := 4) hx hb dL_isSo_710 (by decide) ?_
  refine k_ild (ad := ad) (k := 17) (i := 10) Z X ct_17_10 (vp_in_nI (n := 4) (by first | assumption | omega) (by decide)) dL_isSo_711 ?_
  refine lv_topi (fun x_711 e_711 => ?_)
  obtain rfl : x_711 = T.1 11 4 := e_711.trans (by first | (simp only [nI_clamp (show 4 < 2 ^ 31 by omega)]; done) | rfl | (simp only [nI_clamp (show 4 < 2 ^ 31 by omega)]; rfl) | (simp only [nI_clamp (show 4 < 2 ^ 31 by omega)]; simp [sI, sN]; done))
  refine lv_topi (fun x_711 e_711 => ?_)
  obtain rfl : x_711 = nI (Sr.2 0 3) := e_711.trans (hT.g4)
  refine lv_if_le (tgt := 851) hx hb dL_isSo_712 (by decide) (fun c_712 => ?_) (fun c_712 => ?_)
  · have c_712 : Sr.2 0 3 ≤ 0 := (nI_leI (a := Sr.2 0 3) (b := 0) (by omega) (by omega)).mp c_712
    refine W.widen (k := 968) (n := 5808) (by omega) (by omega) ?_
    exact t_isSo_851 hE hn9 hx1 Z hr hlocks Sr hIr _ _ _ X (lv_sub hl [0, 1, 2, 3, 4, 5, 6, 7, 8, 9, 10, 11, 12, 13, 14, 15, 16] rfl)
  · have c_712 : ¬ Sr.2 0 3 ≤ 0 := fun h => c_712 ((nI_leI (a := Sr.2 0 3) (b := 0) (by omega) (by omega)).mpr h)
    obtain ⟨tq, etq⟩ : ∃ y, y = x1 % Sr.2 0 3 := ⟨_, rfl⟩
    have htq : tq < Sr.2 0 3 := by rw [etq]; exact Nat.mod_lt _ (by omega)
    have e20 : Sr.1 20 tq = nI (Sr.1 20 tq).toNatClampNeg ∧ (Sr.1 20 tq).toNatClampNeg < 128 := by obtain ⟨-, -, ⟨v20, v201, v202⟩, -⟩ := hT.2.2.2.2.2.2.2 _ htq; rw [v202, show (nI v20).toNatClampNeg = v20 from nI_clamp (by omega)]; exact ⟨rfl, v201⟩
    have e13 : Sr.1 13 tq = nI (Sr.1 13 tq).toNatClampNeg ∧ (Sr.1 13 tq).toNatClampNeg < 1000000 := by obtain ⟨v13, v131, v132⟩ := hB.2.2.2 tq; rw [v132, show (nI v13).toNatClampNeg = v13 from nI_clamp (by omega)]; exact ⟨rfl, by omega⟩
    obtain ⟨e20, b20⟩ := e20
    obtain ⟨e13, b13⟩ := e13
    obtain ⟨t4, t5⟩ := hS.2.2.2.2.2.2 _ htq
    obtain ⟨lp_1, lp_2, lp_3⟩ := lbp_le Sr tq
    have hl13 := dgs_len 20 (Sr.1 13 tq).toNatClampNeg
    refine lv_iload hx hb dL_isSo_715 (lv_at hl 0 rfl) ?_
    refine lv_if_eq (tgt := 851) hx hb dL_isSo_717 (by decide) (fun c_717 => ?_) (fun c_717 => ?_)
    · exact absurd c_717 (by decide)
    · refine lv_iload hx hb dL_isSo_720 (lv_at hl 16 rfl) ?_
      refine lv_aload hx hb dL_isSo_722 (lv_at hl 15 rfl) ?_
      refine lv_iconst (v := 4) hx hb dL_isSo_724 (by decide) ?_
      refine k_ild (ad := ad) (k := 17) (i := 10) Z X ct_17_10 (vp_in_nI (n := 4) (by first | assumption | omega) (by decide)) dL_isSo_725 ?_
      refine lv_topi (fun x_725 e_725 => ?_)
      obtain rfl : x_725 = T.1 11 4 := e_725.trans (by first | (simp only [nI_clamp (show 4 < 2 ^ 31 by omega)]; done) | rfl | (simp only [nI_clamp (show 4 < 2 ^ 31 by omega)]; rfl) | (simp only [nI_clamp (show 4 < 2 ^ 31 by omega)]; simp [sI, sN]; done))
      refine lv_topi (fun x_725 e_725 => ?_)
      obtain rfl : x_725 = nI (Sr.2 0 3) := e_725.trans (hT.g4)
      refine lv_irem hx hb dL_isSo_726 (nI_ne0 (by omega) (by omega)) ?_
      refine lv_topi (fun x_726 e_726 => ?_)
      obtain rfl : x_726 = nI tq := e_726.trans ((pk_rem (a := x1) (d := (Sr.2 0 3)) (by omega) (by omega) (by omega)).trans (congrArg nI etq.symm))
      refine lv_istore (lv' := [(17, .int (nI tq)), (13, .int 1), (14, .int (tot Sr)), (15, .int (nI (usr Sr x1))), (16, .int (nI (opnN Sr (usr Sr x1) (Sr.2 0 3)))), (0, .ref (ad 0 0)), (1, .ref (ad 17 0)), (2, .ref (ad 17 1)), (3, .ref (ad 17 2)), (4, .ref (ad 17 3)), (5, .ref (ad 17 4)), (6, .ref (ad 17 5)), (7, .ref (ad 17 6)), (8, .ref (ad 17 7)), (9, .ref (ad 17 8)), (10, .ref (ad 17 9)), (11, .ref (ad 17 10)), (12, .int (nI x1))]) hx hb dL_isSo_727 hl (by decide) rfl (fun ls hl => ?_)
      refine lv_aload_n hx hb dL_isSo_729 rfl (lv_at hl 5 rfl) ?_
      refine lv_iload hx hb dL_isSo_730 (lv_at hl 0 rfl) ?_
      refine lv_iconst (v := 0) hx hb dL_isSo_732 (by decide) ?_
      refine lv_aload hx hb dL_isSo_733 (lv_at hl 14 rfl) ?_
      refine lv_iload hx hb dL_isSo_735 (lv_at hl 0 rfl) ?_
      refine k_ild (ad := ad) (k := 17) (i := 8) Z X ct_17_8 (vp_in_nI (n := tq) (by first | assumption | omega) (by decide)) dL_isSo_737 ?_
      refine lv_topi (fun x_737 e_737 => ?_)
      obtain rfl : x_737 = T.1 9 tq := e_737.trans (by first | (simp only [nI_clamp (show tq < 2 ^ 31 by omega)]; done) | rfl | (simp only [nI_clamp (show tq < 2 ^ 31 by omega)]; rfl) | (simp only [nI_clamp (show tq < 2 ^ 31 by omega)]; simp [sI, sN]; done))
      refine lv_topi (fun x_737 e_737 => ?_)
      obtain rfl : x_737 = nI (enct Sr tq) := e_737.trans (hT.t (by omega))
      refine lv_bipush (v := 64) hx hb dL_isSo_738 (by decide) ?_
      refine lv_irem hx hb dL_isSo_740 (by decide) ?_
      refine lv_topi (fun x_740 e_740 => ?_)
      obtain rfl : x_740 = nI (Sr.2 4 tq) := e_740.trans ((pk_rem (a := (enct Sr tq)) (d := 64) (by have := (hT.tt hN (j := tq) (by omega)).1; omega) (by omega) (by omega)).trans (congrArg nI (hT.tt hN (j := tq) (by omega)).2.1))
      refine lv_bipush (v := 46) hx hb dL_isSo_741 (by decide) ?_
      refine k_xRi X (k_xrunS (As := [.ref (ad 0 0), .int (nI tq), .int 0, .int (nI (Sr.2 4 tq)), .int 46]) (rest := []) Z X (c_L_reads l E G Sr T o ad hE hS hL tq 0 (Sr.2 4 tq) 46 htq (by omega) (by omega) (by decide) (lab_0 Sr tq).1 (lab_0 Sr tq).2) (k_cwS 5 Z.1.2.2.2.2 (inU_28 _ (List.mem_of_getElem? (i := 17) rfl)) (inU_28 _ (List.mem_of_getElem? (i := 18) rfl)) (inU_6 _ (List.mem_of_getElem? (i := 5) rfl)) (inU_28 _ (List.mem_of_getElem? (i := 19) rfl)) rfl rfl (by decide +kernel) ⟨Nat.le_of_ble_eq_true rfl, Nat.le_of_ble_eq_true rfl⟩) rfl hl.1 rfl (Nat.le_of_ble_eq_true rfl) dL_isSo_743 ⟨(by show _ ≤ (_ : Nat); simp only [headSpec]; omega), (by show _ ≤ (_ : Nat); simp only [headSpec]; omega)⟩) (fun _ _ _ _ _ _ _ hp => hp.elim) (fun r_743 ad1 ct1 H locs hp X => ?_)
      obtain ⟨rfl, ha_, hb_⟩ := hp
      rw [← ha_, hb_] at X
      refine lv_topi (fun y_743 f_743 => ?_)
      obtain rfl : y_743 = nI (lbp1 Sr tq) := f_743.trans (congrArg nI (by unfold lbp1; omega))
      refine lv_istore (lv' := [(18, .int (nI (lbp1 Sr tq))), (17, .int (nI tq)), (13, .int 1), (14, .int (tot Sr)), (15, .int (nI (usr Sr x1))), (16, .int (nI (opnN Sr (usr Sr x1) (Sr.2 0 3)))), (0, .ref (ad 0 0)), (1, .ref (ad 17 0)), (2, .ref (ad 17 1)), (3, .ref (ad 17 2)), (4, .ref (ad 17 3)), (5, .ref (ad 17 4)), (6, .ref (ad 17 5)), (7, .ref (ad 17 6)), (8, .ref (ad 17 7)), (9, .ref (ad 17 8)), (10, .ref (ad 17 9)), (11, .ref (ad 17 10)), (12, .int (nI x1))]) hx hb dL_isSo_746 hl (by decide) rfl (fun ls hl => ?_)
      refine lv_iload hx hb dL_isSo_748 (lv_at hl 0 rfl) ?_
      refine lv_if_ge (tgt := 757) hx hb dL_isSo_750 (by decide) (fun c_750 => ?_) (fun c_750 => ?_)
      · refine lv_aload_n hx hb dL_isSo_757 rfl (lv_at hl 6 rfl) ?_
        refine lv_iload hx hb dL_isSo_758 (lv_at hl 1 rfl) ?_
        refine lv_iload hx hb dL_isSo_760 (lv_at hl 0 rfl) ?_
        refine lv_aload hx hb dL_isSo_762 (lv_at hl 15 rfl) ?_
        refine lv_iload hx hb dL_isSo_764 (lv_at hl 1 rfl) ?_
        refine k_ild (ad := ad) (k := 17) (i := 8) Z X ct_17_8 (vp_in_nI (n := tq) (by first | assumption | omega) (by decide)) dL_isSo_766 ?_
        refine lv_topi (fun x_766 e_766 => ?_)
        obtain rfl : x_766 = T.1 9 tq := e_766.trans (by first | (simp only [nI_clamp (show tq < 2 ^ 31 by omega)]; done) | rfl | (simp only [nI_clamp (show tq < 2 ^ 31 by omega)]; rfl) | (simp only [nI_clamp (show tq < 2 ^ 31 by omega)]; simp [sI, sN]; done))
        refine lv_topi (fun x_766 e_766 => ?_)
        obtain rfl : x_766 = nI (enct Sr tq) := e_766.trans (hT.t (by omega))
        refine lv_bipush (v := 64) hx hb dL_isSo_767 (by decide) ?_
        refine lv_idiv hx hb dL_isSo_769 (by decide) ?_
        refine lv_topi (fun x_769 e_769 => ?_)
        obtain rfl : x_769 = nI ((enct Sr tq) / 64) := e_769.trans ((pk_div (a := (enct Sr tq)) (d := 64) (by have := (hT.tt hN (j := tq) (by omega)).1; omega) (by omega) (by omega)))
        refine lv_sipush (v := 128) hx hb dL_isSo_770 (by decide) ?_
        refine lv_irem hx hb dL_isSo_773 (by decide) ?_
        refine lv_topi (fun x_773 e_773 => ?_)
        obtain rfl : x_773 = nI (Sr.1 20 tq).toNatClampNeg := e_773.trans ((pk_rem (a := ((enct Sr tq) / 64)) (d := 128) (by have := (hT.tt hN (j := tq) (by omega)).1; omega) (by omega) (by omega)).trans (((hT.tt hN (j := tq) (by omega)).2.2.1).trans e20))
        refine lv_bipush (v := 62) hx hb dL_isSo_774 (by decide) ?_
        refine k_xRi X (k_xrunS (As := [.ref (ad 0 0), .int (nI tq), .int (nI (lbp1 Sr tq)), .int (nI (Sr.1 20 tq).toNatClampNeg), .int 62]) (rest := []) Z X (c_L_reads l E G Sr T o ad hE hS hL tq (lbp1 Sr tq) (Sr.1 20 tq).toNatClampNeg 62 htq (by omega) (by omega) (by decide) (lab_1 Sr tq).1 (lab_1 Sr tq).2) (k_cwS 5 Z.1.2.2.2.2 (inU_28 _ (List.mem_of_getElem? (i := 17) rfl)) (inU_28 _ (List.mem_of_getElem? (i := 18) rfl)) (inU_6 _ (List.mem_of_getElem? (i := 5) rfl)) (inU_28 _ (List.mem_of_getElem? (i := 19) rfl)) rfl rfl (by decide +kernel) ⟨Nat.le_of_ble_eq_true rfl, Nat.le_of_ble_eq_true rfl⟩) rfl hl.1 rfl (Nat.le_of_ble_eq_true rfl) dL_isSo_776 ⟨(by show _ ≤ (_ : Nat); simp only [headSpec]; omega), (by show _ ≤ (_ : Nat); simp only [headSpec]; omega)⟩) (fun _ _ _ _ _ _ _ hp => hp.elim) (fun r_776 ad1 ct1 H locs hp X => ?_)
        obtain ⟨rfl, ha_, hb_⟩ := hp
        rw [← ha_, hb_] at X
        refine lv_topi (fun y_776 f_776 => ?_)
        obtain rfl : y_776 = nI (lbp2 Sr tq) := f_776.trans (congrArg nI (by unfold lbp2; omega))
        refine lv_istore (lv' := [(18, .int (nI (lbp2 Sr tq))), (17, .int (nI tq)), (13, .int 1), (14, .int (tot Sr)), (15, .int (nI (usr Sr x1))), (16, .int (nI (opnN Sr (usr Sr x1) (Sr.2 0 3)))), (0, .ref (ad 0 0)), (1, .ref (ad 17 0)), (2, .ref (ad 17 1)), (3, .ref (ad 17 2)), (4, .ref (ad 17 3)), (5, .ref (ad 17 4)), (6, .ref (ad 17 5)), (7, .ref (ad 17 6)), (8, .ref (ad 17 7)), (9, .ref (ad 17 8)), (10, .ref (ad 17 9)), (11, .ref (ad 17 10)), (12, .int (nI x1))]) hx hb dL_isSo_779 hl (by decide) rfl (fun ls hl => ?_)
        refine lv_iload hx hb dL_isSo_781 (lv_at hl 0 rfl) ?_
        refine lv_if_ge (tgt := 790) hx hb dL_isSo_783 (by decide) (fun c_783 => ?_) (fun c_783 => ?_)
        · refine lv_aload_n hx hb dL_isSo_790 rfl (lv_at hl 6 rfl) ?_
          refine lv_iload hx hb dL_isSo_791 (lv_at hl 1 rfl) ?_
          refine lv_iload hx hb dL_isSo_793 (lv_at hl 0 rfl) ?_
          refine lv_aload hx hb dL_isSo_795 (lv_at hl 15 rfl) ?_
          refine lv_iload hx hb dL_isSo_797 (lv_at hl 1 rfl) ?_
          refine k_ild (ad := ad) (k := 17) (i := 8) Z X ct_17_8 (vp_in_nI (n := tq) (by first | assumption | omega) (by decide)) dL_isSo_799 ?_
          refine lv_topi (fun x_799 e_799 => ?_)
          obtain rfl : x_799 = T.1 9 tq := e_799.trans (by first | (simp only [nI_clamp (show tq < 2 ^ 31 by omega)]; done) | rfl | (simp only [nI_clamp (show tq < 2 ^ 31 by omega)]; rfl) | (simp only [nI_clamp (show tq < 2 ^ 31 by omega)]; simp [sI, sN]; done))
          refine lv_topi (fun x_799 e_799 => ?_)
          obtain rfl : x_799 = nI (enct Sr tq) := e_799.trans (hT.t (by omega))
          refine lv_sipush (v := 8192) hx hb dL_isSo_800 (by decide) ?_
          refine lv_idiv hx hb dL_isSo_803 (by decide) ?_
          refine lv_topi (fun x_803 e_803 => ?_)
          obtain rfl : x_803 = nI ((enct Sr tq) / 8192) := e_803.trans ((pk_div (a := (enct Sr tq)) (d := 8192) (by have := (hT.tt hN (j := tq) (by omega)).1; omega) (by omega) (by omega)))
          refine lv_bipush (v := 16) hx hb dL_isSo_804 (by decide) ?_
          refine lv_irem hx hb dL_isSo_806 (by decide) ?_
          refine lv_topi (fun x_806 e_806 => ?_)
          obtain rfl : x_806 = nI (Sr.2 5 tq) := e_806.trans ((pk_rem (a := ((enct Sr tq) / 8192)) (d := 16) (by have := (hT.tt hN (j := tq) (by omega)).1; omega) (by omega) (by omega)).trans (congrArg nI (hT.tt hN (j := tq) (by omega)).2.2.2.1))
          refine lv_bipush (v := 64) hx hb dL_isSo_807 (by decide) ?_
          refine k_xRi X (k_xrunS (As := [.ref (ad 0 0), .int (nI tq), .int (nI (lbp2 Sr tq)), .int (nI (Sr.2 5 tq)), .int 64]) (rest := []) Z X (c_L_reads l E G Sr T o ad hE hS hL tq (lbp2 Sr tq) (Sr.2 5 tq) 64 htq (by omega) (by omega) (by decide) (lab_2 Sr tq).1 (lab_2 Sr tq).2) (k_cwS 5 Z.1.2.2.2.2 (inU_28 _ (List.mem_of_getElem? (i := 17) rfl)) (inU_28 _ (List.mem_of_getElem? (i := 18) rfl)) (inU_6 _ (List.mem_of_getElem? (i := 5) rfl)) (inU_28 _ (List.mem_of_getElem? (i := 19) rfl)) rfl rfl (by decide +kernel) ⟨Nat.le_of_ble_eq_true rfl, Nat.le_of_ble_eq_true rfl⟩) rfl hl.1 rfl (Nat.le_of_ble_eq_true rfl) dL_isSo_809 ⟨(by show _ ≤ (_ : Nat); simp only [headSpec]; omega), (by show _ ≤ (_ : Nat); simp only [headSpec]; omega)⟩) (fun _ _ _ _ _ _ _ hp => hp.elim) (fun r_809 ad1 ct1 H locs hp X => ?_)
          obtain ⟨rfl, ha_, hb_⟩ := hp
          rw [← ha_, hb_] at X
          refine lv_topi (fun y_809 f_809 => ?_)
          obtain rfl : y_809 = nI (lbp3 Sr tq) := f_809.trans (congrArg nI (by unfold lbp3; omega))
          refine lv_istore (lv' := [(18, .int (nI (lbp3 Sr tq))), (17, .int (nI tq)), (13, .int 1), (14, .int (tot Sr)), (15, .int (nI (usr Sr x1))), (16, .int (nI (opnN Sr (usr Sr x1) (Sr.2 0 3)))), (0, .ref (ad 0 0)), (1, .ref (ad 17 0)), (2, .ref (ad 17 1)), (3, .ref (ad 17 2)), (4, .ref (ad 17 3)), (5, .ref (ad 17 4)), (6, .ref (ad 17 5)), (7, .ref (ad 17 6)), (8, .ref (ad 17 7)), (9, .ref (ad 17 8)), (10, .ref (ad 17 9)), (11, .ref (ad 17 10)), (12, .int (nI x1))]) hx hb dL_isSo_812 hl (by decide) rfl (fun ls hl => ?_)
          refine lv_iload hx hb dL_isSo_814 (lv_at hl 0 rfl) ?_
          refine lv_if_ge (tgt := 823) hx hb dL_isSo_816 (by decide) (fun c_816 => ?_) (fun c_816 => ?_)
          · refine lv_aload_n hx hb dL_isSo_823 rfl (lv_at hl 6 rfl) ?_
            refine lv_iload hx hb dL_isSo_824 (lv_at hl 1 rfl) ?_
            refine lv_iload hx hb dL_isSo_826 (lv_at hl 0 rfl) ?_
            refine lv_aload hx hb dL_isSo_828 (lv_at hl 16 rfl) ?_
            refine lv_iload hx hb dL_isSo_830 (lv_at hl 1 rfl) ?_
            refine k_ild (ad := ad) (k := 17) (i := 9) Z X ct_17_9 (vp_in_nI (n := tq) (by first | assumption | omega) (by decide)) dL_isSo_832 ?_
            refine lv_topi (fun x_832 e_832 => ?_)
            obtain rfl : x_832 = T.1 10 tq := e_832.trans (by first | (simp only [nI_clamp (show tq < 2 ^ 31 by omega)]; done) | rfl | (simp only [nI_clamp (show tq < 2 ^ 31 by omega)]; rfl) | (simp only [nI_clamp (show tq < 2 ^ 31 by omega)]; simp [sI, sN]; done))
            refine lv_topi (fun x_832 e_832 => ?_)
            obtain rfl : x_832 = nI (Sr.1 13 tq).toNatClampNeg := e_832.trans ((hT.w (by omega)).trans e13)
            refine lv_iconst (v := 0) hx hb dL_isSo_833 (by decide) ?_
            refine k_xRi X (k_xrunS (As := [.ref (ad 0 0), .int (nI tq), .int (nI (lbp3 Sr tq)), .int (nI (Sr.1 13 tq).toNatClampNeg), .int 0]) (rest := []) Z X (c_L_reads l E G Sr T o ad hE hS hL tq (lbp3 Sr tq) (Sr.1 13 tq).toNatClampNeg 0 htq (by omega) (by omega) (by decide) (lab_3 Sr tq).1 (lab_3 Sr tq).2) (k_cwS 5 Z.1.2.2.2.2 (inU_28 _ (List.mem_of_getElem? (i := 17) rfl)) (inU_28 _ (List.mem_of_getElem? (i := 18) rfl)) (inU_6 _ (List.mem_of_getElem? (i := 5) rfl)) (inU_28 _ (List.mem_of_getElem? (i := 19) rfl)) rfl rfl (by decide +kernel) ⟨Nat.le_of_ble_eq_true rfl, Nat.le_of_ble_eq_true rfl⟩) rfl hl.1 rfl (Nat.le_of_ble_eq_true rfl) dL_isSo_834 ⟨(by show _ ≤ (_ : Nat); simp only [headSpec]; omega), (by show _ ≤ (_ : Nat); simp only [headSpec]; omega)⟩) (fun _ _ _ _ _ _ _ hp => hp.elim) (fun r_834 ad1 ct1 H locs hp X => ?_)
            obtain ⟨rfl, ha_, hb_⟩ := hp
            rw [← ha_, hb_] at X
            refine lv_istore (lv' := [(18, .int (nI (lbp3 Sr tq + (dgs 20 (Sr.1 13 tq).toNatClampNeg).length + 1))), (17, .int (nI tq)), (13, .int 1), (14, .int (tot Sr)), (15, .int (nI (usr Sr x1))), (16, .int (nI (opnN Sr (usr Sr x1) (Sr.2 0 3)))), (0, .ref (ad 0 0)), (1, .ref (ad 17 0)), (2, .ref (ad 17 1)), (3, .ref (ad 17 2)), (4, .ref (ad 17 3)), (5, .ref (ad 17 4)), (6, .ref (ad 17 5)), (7, .ref (ad 17 6)), (8, .ref (ad 17 7)), (9, .ref (ad 17 8)), (10, .ref (ad 17 9)), (11, .ref (ad 17 10)), (12, .int (nI x1))]) hx hb dL_isSo_837 hl (by decide) rfl (fun ls hl => ?_)
            refine lv_iload hx hb dL_isSo_839 (lv_at hl 0 rfl) ?_
            refine lv_if_le (tgt := 848) hx hb dL_isSo_841 (by decide) (fun c_841 => ?_) (fun c_841 => ?_)
            · exact absurd ((nI_leI (a := lbp3 Sr tq + (dgs 20 (Sr.1 13 tq).toNatClampNeg).length + 1) (b := 0) (by omega) (by decide)).mp c_841) (by omega)
            · refine lv_iconst (v := 1) hx hb dL_isSo_844 (by decide) ?_
              refine lv_goto (tgt := 849) hx hb dL_isSo_845 (by decide) ?_
              refine lv_istore (lv' := [(13, .int 1), (18, .int (nI (lbp3 Sr tq + (dgs 20 (Sr.1 13 tq).toNatClampNeg).length + 1))), (17, .int (nI tq)), (14, .int (tot Sr)), (15, .int (nI (usr Sr x1))), (16, .int (nI (opnN Sr (usr Sr x1) (Sr.2 0 3)))), (0, .ref (ad 0 0)), (1, .ref (ad 17 0)), (2, .ref (ad 17 1)), (3, .ref (ad 17 2)), (4, .ref (ad 17 3)), (5, .ref (ad 17 4)), (6, .ref (ad 17 5)), (7, .ref (ad 17 6)), (8, .ref (ad 17 7)), (9, .ref (ad 17 8)), (10, .ref (ad 17 9)), (11, .ref (ad 17 10)), (12, .int (nI x1))]) hx hb dL_isSo_849 hl (by decide) rfl (fun ls hl => ?_)
              refine W.widen (k := 968) (n := 5808) (by omega) (by omega) ?_
              exact t_isSo_851 hE hn9 hx1 Z hr hlocks Sr hIr _ _ _ X (lv_sub hl [0, 3, 4, 5, 6, 7, 8, 9, 10, 11, 12, 13, 14, 15, 16, 17, 18] rfl)
          · exact absurd (nI_pos' (n := lbp3 Sr tq) (by omega)) c_816
        · exact absurd (nI_pos' (n := lbp2 Sr tq) (by omega)) c_783
      · exact absurd (nI_pos' (n := lbp1 Sr tq) (by omega)) c_750
set_option maxHeartbeats 4000000 in
set_option maxRecDepth 100000 in
theorem t_isSo_478 {p : Program} {l : Launch} {e : Env} {s : State} {m : MethodId} {below : List Frame} {meth : Method} {c : Code} {E : State} {G : kG} {T : kSt} {o : Int64} {ad : kAd} {n9 x1 : Nat} (hE : kE l E G) (hn9 : n9 ≤ 200) (hx1 : x1 < 60000) (Z : kZ p m c cL_isSo 20 s ([.ref (ad 0 0), .ref (ad 17 0), .ref (ad 17 1), .ref (ad 17 2), .ref (ad 17 3), .ref (ad 17 4), .ref (ad 17 5), .ref (ad 17 6), .ref (ad 17 7), .ref (ad 17 8), .ref (ad 17 9), .ref (ad 17 10), .int (nI x1)] : List Value).toArray wsL_law RL E G) (hr : meth.sig.returnType = some .boolean) (hlocks : meth.locks = false) : ∀ (Sr : kSt), (Inv n9 Sr T) → ∀ (H : Heap) (locs : List Loc) (ls : Array Slot), kX E G s H locs ad (cto G Sr T o ad) → lv_has ls 20 [(13, .int 1), (14, .int (tot Sr)), (0, .ref (ad 0 0)), (1, .ref (ad 17 0)), (2, .ref (ad 17 1)), (3, .ref (ad 17 2)), (4, .ref (ad 17 3)), (5, .ref (ad 17 4)), (6, .ref (ad 17 5)), (7, .ref (ad 17 6)), (8, .ref (ad 17 7)), (9, .ref (ad 17 8)), (10, .ref (ad 17 9)), (11, .ref (ad 17 10)), (12, .int (nI x1))] → W p l e (headSpec (Cond.code yL_isSo cL_isSo 20 (some .boolean) :: wsL_law) ({ frames := 20, cells := 1000, slots := 6000, locals := 500 } : Room)).room s m ([.ref (ad 0 0), .ref (ad 17 0), .ref (ad 17 1), .ref (ad 17 2), .ref (ad 17 3), .ref (ad 17 4), .ref (ad 17 5), .ref (ad 17 6), .ref (ad 17 7), .ref (ad 17 8), .ref (ad 17 9), .ref (ad 17 10), .int (nI x1)] : List Value).toArray below meth c H locs 792 4752 (vx_MQ below (kQi E G (fun r ad1 ct1 => (r = 1 ∧ ad = ad1) ∧ ∃ S1, ct1 = cto G S1 T o ad ∧ Inv n9 S1 T)) (kXC E G (fun _ _ _ => False)) ([.ref (ad 0 0), .ref (ad 17 0), .ref (ad 17 1), .ref (ad 17 2), .ref (ad 17 3), .ref (ad 17 4), .ref (ad 17 5), .ref (ad 17 6), .ref (ad 17 7), .ref (ad 17 8), .ref (ad 17 9), .ref (ad 17 10), .int (nI x1)] : List Value).toArray s 1000 6000 (kB E.heap.size)) (F0 m 478 ls []) := by
  intro Sr hIr H locs ls X hl
  have hx := Z.1.1
  have hb := Z.1.2.1
  obtain ⟨hS, hL, hK9, hLg, hRp, hlog, hB⟩ := hIr.ok
  have hT := hIr.2.1
  have hN := hS
  obtain ⟨hc0, hc1, hc2, hc3⟩ := hT.c
  have htot := hIr.2.2
  have M_496 : ∀ (H : Heap) (locs : List Loc), kX E G s H locs ad (cto G Sr T o ad) → W p l e (headSpec (Cond.code yL_isSo cL_isSo 20 (some .boolean) :: wsL_law) ({ frames := 20, cells := 1000, slots := 6000, locals := 500 } : Room)).room s m ([.ref (ad 0 0), .ref (ad 17 0), .ref (ad 17 1), .ref (ad 17 2), .ref (ad 17 3), .ref (ad 17 4), .ref (ad 17 5), .ref (ad 17 6), .ref (ad 17 7), .ref (ad 17 8), .ref (ad 17 9), .ref (ad 17 10), .int (nI x1)] : List Value).toArray below meth c H locs 792 4752 (vx_MQ below (kQi E G (fun r ad1 ct1 => (r = 1 ∧ ad = ad1) ∧ ∃ S1, ct1 = cto G S1 T o ad ∧ Inv n9 S1 T)) (kXC E G (fun _ _ _ => False)) ([.ref (ad 0 0), .ref (ad 17 0), .ref (ad 17 1), .ref (ad 17 2), .ref (ad 17 3), .ref (ad 17 4), .ref (ad 17 5), .ref (ad 17 6), .ref (ad 17 7), .ref (ad 17 8), .ref (ad 17 9), .ref (ad 17 10), .int (nI x1)] : List Value).toArray s 1000 6000 (kB E.heap.size)) (F0 m 496 ls [.int (nI (usr Sr x1))]) := by
    intro H locs X
    refine lv_istore (lv' := [(15, .int (nI (usr Sr x1))), (13, .int 1), (14, .int (tot Sr)), (0, .ref (ad 0 0)), (1, .ref (ad 17 0)), (2, .ref (ad 17 1)), (3, .ref (ad 17 2)), (4, .ref (ad 17 3)), (5, .ref (ad 17 4)), (6, .ref (ad 17 5)), (7, .ref (ad 17 6)), (8, .ref (ad 17 7)), (9, .ref (ad 17 8)), (10, .ref (ad 17 9)), (11, .ref (ad 17 10)), (12, .int (nI x1))]) hx hb dL_isSo_496 hl (by decide) rfl (fun ls hl => ?_)
    refine lv_iconst (v := 0) hx hb dL_isSo_498 (by decide) ?_
    refine lv_istore (lv' := [(16, .int 0), (15, .int (nI (usr Sr x1))), (13, .int 1), (14, .int (tot Sr)), (0, .ref (ad 0 0)), (1, .ref (ad 17 0)), (2, .ref (ad 17 1)), (3, .ref (ad 17 2)), (4, .ref (ad 17 3)), (5, .ref (ad 17 4)), (6, .ref (ad 17 5)), (7, .ref (ad 17 6)), (8, .ref (ad 17 7)), (9, .ref (ad 17 8)), (10, .ref (ad 17 9)), (11, .ref (ad 17 10)), (12, .int (nI x1))]) hx hb dL_isSo_499 hl (by decide) rfl (fun ls hl => ?_)
    refine lv_iconst (v := 0) hx hb dL_isSo_501 (by decide) ?_
    refine lv_istore (lv' := [(17, .int 0), (16, .int 0), (15, .int (nI (usr Sr x1))), (13, .int 1), (14, .int (tot Sr)), (0, .ref (ad 0 0)), (1, .ref (ad 17 0)), (2, .ref (ad 17 1)), (3, .ref (ad 17 2)), (4, .ref (ad 17 3)), (5, .ref (ad 17 4)), (6, .ref (ad 17 5)), (7, .ref (ad 17 6)), (8, .ref (ad 17 7)), (9, .ref (ad 17 8)), (10, .ref (ad 17 9)), (11, .ref (ad 17 10)), (12, .int (nI x1))]) hx hb dL_isSo_502 hl (by decide) rfl (fun ls hl => ?_)
    have LOOP_504 : ∀ (d : Nat) (i : Nat), i ≤ Sr.2 0 3 → Sr.2 0 3 < i + d → ∀ (H : Heap) (locs : List Loc) (ls : Array Slot), kX E G s H locs ad (cto G Sr T o ad) → lv_has ls 20 [(17, .int (nI i)), (16, .int (nI (opnN Sr (usr Sr x1) i))), (15, .int (nI (usr Sr x1))), (13, .int 1), (14, .int (tot Sr)), (0, .ref (ad 0 0)), (1, .ref (ad 17 0)), (2, .ref (ad 17 1)), (3, .ref (ad 17 2)), (4, .ref (ad 17 3)), (5, .ref (ad 17 4)), (6, .ref (ad 17 5)), (7, .ref (ad 17 6)), (8, .ref (ad 17 7)), (9, .ref (ad 17 8)), (10, .ref (ad 17 9)), (11, .ref (ad 17 10)), (12, .int (nI x1))] → W p l e (headSpec (Cond.code yL_isSo cL_isSo 20 (some .boolean) :: wsL_law) ({ frames := 20, cells := 1000, slots := 6000, locals := 500 } : Room)).room s m ([.ref (ad 0 0), .ref (ad 17 0), .ref (ad 17 1), .ref (ad 17 2), .ref (ad 17 3), .ref (ad 17 4), .ref (ad 17 5), .ref (ad 17 6), .ref (ad 17 7), .ref (ad 17 8), .ref (ad 17 9), .ref (ad 17 10), .int (nI x1)] : List Value).toArray below meth c H locs (792 + 4 * i) (4752 + 24 * i) (vx_MQ below (kQi E G (fun r ad1 ct1 => (r = 1 ∧ ad = ad1) ∧ ∃ S1, ct1 = cto G S1 T o ad ∧ Inv n9 S1 T)) (kXC E G (fun _ _ _ => False)) ([.ref (ad 0 0), .ref (ad 17 0), .ref (ad 17 1), .ref (ad 17 2), .ref (ad 17 3), .ref (ad 17 4), .ref (ad 17 5), .ref (ad 17 6), .ref (ad 17 7), .ref (ad 17 8), .ref (ad 17 9), .ref (ad 17 10), .int (nI x1)] : List Value).toArray s 1000 6000 (kB E.heap.size)) (F0 m 504 ls []) := by
      intro d
      induction d with
      | zero => intro i h1 h2; intros; exact absurd h2 (by omega)
      | succ d ih =>
        intro i h1 h2 H locs ls X hl
        refine lv_iload hx hb dL_isSo_504 (lv_at hl 0 rfl) ?_
        refine lv_aload hx hb dL_isSo_506 (lv_at hl 16 rfl) ?_
        refine lv_iconst (v := 4) hx hb dL_isSo_508 (by decide) ?_
        refine k_ild (ad := ad) (k := 17) (i := 10) Z X ct_17_10 (vp_in_nI (n := 4) (by first | assumption | omega) (by decide)) dL_isSo_509 ?_
        refine lv_topi (fun x_509 e_509 => ?_)
        obtain rfl : x_509 = T.1 11 4 := e_509.trans (by first | (simp only [nI_clamp (show 4 < 2 ^ 31 by omega)]; done) | rfl | (simp only [nI_clamp (show 4 < 2 ^ 31 by omega)]; rfl) | (simp only [nI_clamp (show 4 < 2 ^ 31 by omega)]; simp [sI, sN]; done))
        refine lv_topi (fun x_509 e_509 => ?_)
        obtain rfl : x_509 = nI (Sr.2 0 3) := e_509.trans (hT.g4)
        refine lv_icmp_ge (tgt := 708) hx hb dL_isSo_510 (by decide) (fun c_510 => ?_) (fun c_510 => ?_)
        · have c_510 : Sr.2 0 3 ≤ i := (nI_leI (a := Sr.2 0 3) (b := i) (by omega) (by omega)).mp c_510
          have hn : i = Sr.2 0 3 := by omega
          rw [hn] at hl
          refine W.widen (k := 912) (n := 5472) (by omega) (by omega) ?_
          exact t_isSo_708 hE hn9 hx1 Z hr hlocks Sr hIr _ _ _ X (lv_sub hl [3, 4, 2, 1, 5, 6, 7, 8, 9, 10, 11, 12, 13, 14, 15, 16, 17] rfl)
        · have c_510 : ¬ Sr.2 0 3 ≤ i := fun h => c_510 ((nI_leI (a := Sr.2 0 3) (b := i) (by omega) (by omega)).mpr h)
          have hti := hT.tt hN (j := i) (by omega)
          have hti1 := hti.1
          have hui := hN.2.2.2.2.2.2 i (by omega)
          have hop := opnN_le Sr (usr Sr x1) i
          refine lv_iload hx hb dL_isSo_513 (lv_at hl 3 rfl) ?_
          refine lv_if_eq (tgt := 708) hx hb dL_isSo_515 (by decide) (fun c_515 => ?_) (fun c_515 => ?_)
          · exact absurd c_515 (by decide)
          · refine lv_iconst (v := 0) hx hb dL_isSo_518 (by decide) ?_
            refine lv_istore (lv' := [(18, .int 0), (17, .int (nI i)), (16, .int (nI (opnN Sr (usr Sr x1) i))), (15, .int (nI (usr Sr x1))), (13, .int 1), (14, .int (tot Sr)), (0, .ref (ad 0 0)), (1, .ref (ad 17 0)), (2, .ref (ad 17 1)), (3, .ref (ad 17 2)), (4, .ref (ad 17 3)), (5, .ref (ad 17 4)), (6, .ref (ad 17 5)), (7, .ref (ad 17 6)), (8, .ref (ad 17 7)), (9, .ref (ad 17 8)), (10, .ref (ad 17 9)), (11, .ref (ad 17 10)), (12, .int (nI x1))]) hx hb dL_isSo_519 hl (by decide) rfl (fun ls hl => ?_)
            refine lv_iconst (v := 0) hx hb dL_isSo_521 (by decide) ?_
            refine lv_istore (lv' := [(19, .int 0), (18, .int 0), (17, .int (nI i)), (16, .int (nI (opnN Sr (usr Sr x1) i))), (15, .int (nI (usr Sr x1))), (13, .int 1), (14, .int (tot Sr)), (0, .ref (ad 0 0)), (1, .ref (ad 17 0)), (2, .ref (ad 17 1)), (3, .ref (ad 17 2)), (4, .ref (ad 17 3)), (5, .ref (ad 17 4)), (6, .ref (ad 17 5)), (7, .ref (ad 17 6)), (8, .ref (ad 17 7)), (9, .ref (ad 17 8)), (10, .ref (ad 17 9)), (11, .ref (ad 17 10)), (12, .int (nI x1))]) hx hb dL_isSo_522 hl (by decide) rfl (fun ls hl => ?_)
            have LOOP_524 : ∀ (d6 : Nat) (j : Nat), j ≤ Sr.2 0 3 → Sr.2 0 3 < j + d6 → ∀ (H : Heap) (locs : List Loc) (ls : Array Slot), kX E G s H locs ad (cto G Sr T o ad) → lv_has ls 20 [(19, .int (nI j)), (18, .int (nI (rnk Sr (usr Sr x1) i j))), (17, .int (nI i)), (16, .int (nI (opnN Sr (usr Sr x1) i))), (15, .int (nI (usr Sr x1))), (13, .int 1), (14, .int (tot Sr)), (0, .ref (ad 0 0)), (1, .ref (ad 17 0)), (2, .ref (ad 17 1)), (3, .ref (ad 17 2)), (4, .ref (ad 17 3)), (5, .ref (ad 17 4)), (6, .ref (ad 17 5)), (7, .ref (ad 17 6)), (8, .ref (ad 17 7)), (9, .ref (ad 17 8)), (10, .ref (ad 17 9)), (11, .ref (ad 17 10)), (12, .int (nI x1))] → W p l e (headSpec (Cond.code yL_isSo cL_isSo 20 (some .boolean) :: wsL_law) ({ frames := 20, cells := 1000, slots := 6000, locals := 500 } : Room)).room s m ([.ref (ad 0 0), .ref (ad 17 0), .ref (ad 17 1), .ref (ad 17 2), .ref (ad 17 3), .ref (ad 17 4), .ref (ad 17 5), .ref (ad 17 6), .ref (ad 17 7), .ref (ad 17 8), .ref (ad 17 9), .ref (ad 17 10), .int (nI x1)] : List Value).toArray below meth c H locs (792 + 4 * i) (4752 + 24 * i) (vx_MQ below (kQi E G (fun r ad1 ct1 => (r = 1 ∧ ad = ad1) ∧ ∃ S1, ct1 = cto G S1 T o ad ∧ Inv n9 S1 T)) (kXC E G (fun _ _ _ => False)) ([.ref (ad 0 0), .ref (ad 17 0), .ref (ad 17 1), .ref (ad 17 2), .ref (ad 17 3), .ref (ad 17 4), .ref (ad 17 5), .ref (ad 17 6), .ref (ad 17 7), .ref (ad 17 8), .ref (ad 17 9), .ref (ad 17 10), .int (nI x1)] : List Value).toArray s 1000 6000 (kB E.heap.size)) (F0 m 524 ls []) := by
              intro d6
              induction d6 with
              | zero => intro j hj1 hj2; intros; exact absurd hj2 (by omega)
              | succ d6 ih6 =>
                intro j hj1 hj2 H locs ls X hl
                refine lv_iload hx hb dL_isSo_524 (lv_at hl 0 rfl) ?_
                refine lv_aload hx hb dL_isSo_526 (lv_at hl 18 rfl) ?_
                refine lv_iconst (v := 4) hx hb dL_isSo_528 (by decide) ?_
                refine k_ild (ad := ad) (k := 17) (i := 10) Z X ct_17_10 (vp_in_nI (n := 4) (by first | assumption | omega) (by decide)) dL_isSo_529 ?_
                refine lv_topi (fun x_529 e_529 => ?_)
                obtain rfl : x_529 = T.1 11 4 := e_529.trans (by first | (simp only [nI_clamp (show 4 < 2 ^ 31 by omega)]; done) | rfl | (simp only [nI_clamp (show 4 < 2 ^ 31 by omega)]; rfl) | (simp only [nI_clamp (show 4 < 2 ^ 31 by omega)]; simp [sI, sN]; done))
                refine lv_topi (fun x_529 e_529 => ?_)
                obtain rfl : x_529 = nI (Sr.2 0 3) := e_529.trans (hT.g4)
                refine lv_icmp_ge (tgt := 610) hx hb dL_isSo_530 (by decide) (fun c_530 => ?_) (fun c_530 => ?_)
                · have c_530 : Sr.2 0 3 ≤ j := (nI_leI (a := Sr.2 0 3) (b := j) (by omega) (by omega)).mp c_530
                  have hj : j = Sr.2 0 3 := by omega
                  rw [hj] at hl
                  have M_643 : ∀ (H : Heap) (locs : List Loc), kX E G s H locs ad (cto G Sr T o ad) → W p l e (headSpec (Cond.code yL_isSo cL_isSo 20 (some .boolean) :: wsL_law) ({ frames := 20, cells := 1000, slots := 6000, locals := 500 } : Room)).room s m ([.ref (ad 0 0), .ref (ad 17 0), .ref (ad 17 1), .ref (ad 17 2), .ref (ad 17 3), .ref (ad 17 4), .ref (ad 17 5), .ref (ad 17 6), .ref (ad 17 7), .ref (ad 17 8), .ref (ad 17 9), .ref (ad 17 10), .int (nI x1)] : List Value).toArray below meth c H locs (792 + 4 * i) (4752 + 24 * i) (vx_MQ below (kQi E G (fun r ad1 ct1 => (r = 1 ∧ ad = ad1) ∧ ∃ S1, ct1 = cto G S1 T o ad ∧ Inv n9 S1 T)) (kXC E G (fun _ _ _ => False)) ([.ref (ad 0 0), .ref (ad 17 0), .ref (ad 17 1), .ref (ad 17 2), .ref (ad 17 3), .ref (ad 17 4), .ref (ad 17 5), .ref (ad 17 6), .ref (ad 17 7), .ref (ad 17 8), .ref (ad 17 9), .ref (ad 17 10), .int (nI x1)] : List Value).toArray s 1000 6000 (kB E.heap.size)) (F0 m 643 ls [.int (bI (opn Sr (usr Sr x1) i))]) := by
                    intro H locs X
                    refine lv_istore (lv' := [(19, .int (bI (opn Sr (usr Sr x1) i))), (18, .int (nI (rnk Sr (usr Sr x1) i (Sr.2 0 3)))), (17, .int (nI i)), (16, .int (nI (opnN Sr (usr Sr x1) i))), (15, .int (nI (usr Sr x1))), (13, .int 1), (14, .int (tot Sr)), (0, .ref (ad 0 0)), (1, .ref (ad 17 0)), (2, .ref (ad 17 1)), (3, .ref (ad 17 2)), (4, .ref (ad 17 3)), (5, .ref (ad 17 4)), (6, .ref (ad 17 5)), (7, .ref (ad 17 6)), (8, .ref (ad 17 7)), (9, .ref (ad 17 8)), (10, .ref (ad 17 9)), (11, .ref (ad 17 10)), (12, .int (nI x1))]) hx hb dL_isSo_643 hl (by decide) rfl (fun ls hl => ?_)
                    refine lv_iload hx hb dL_isSo_645 (lv_at hl 3 rfl) ?_
                    have M_657 : ∀ (H : Heap) (locs : List Loc), kX E G s H locs ad (cto G Sr T o ad) → W p l e (headSpec (Cond.code yL_isSo cL_isSo 20 (some .boolean) :: wsL_law) ({ frames := 20, cells := 1000, slots := 6000, locals := 500 } : Room)).room s m ([.ref (ad 0 0), .ref (ad 17 0), .ref (ad 17 1), .ref (ad 17 2), .ref (ad 17 3), .ref (ad 17 4), .ref (ad 17 5), .ref (ad 17 6), .ref (ad 17 7), .ref (ad 17 8), .ref (ad 17 9), .ref (ad 17 10), .int (nI x1)] : List Value).toArray below meth c H locs (792 + 4 * i) (4752 + 24 * i) (vx_MQ below (kQi E G (fun r ad1 ct1 => (r = 1 ∧ ad = ad1) ∧ ∃ S1, ct1 = cto G S1 T o ad ∧ Inv n9 S1 T)) (kXC E G (fun _ _ _ => False)) ([.ref (ad 0 0), .ref (ad 17 0), .ref (ad 17 1), .ref (ad 17 2), .ref (ad 17 3), .ref (ad 17 4), .ref (ad 17 5), .ref (ad 17 6), .ref (ad 17 7), .ref (ad 17 8), .ref (ad 17 9), .ref (ad 17 10), .int (nI x1)] : List Value).toArray s 1000 6000 (kB E.heap.size)) (F0 m 657 ls [.int (bI (opn Sr (usr Sr x1) i)), .int (nI (opnN Sr (usr Sr x1) i))]) := by
                      intro H locs X
                      refine lv_iadd hx hb dL_isSo_657 ?_
                      refine lv_topi (fun x_657 e_657 => ?_)
                      obtain rfl : x_657 = nI (opnN Sr (usr Sr x1) (i + 1)) := e_657.trans (n_bI _ _)
                      refine lv_istore (lv' := [(16, .int (nI (opnN Sr (usr Sr x1) (i + 1)))), (19, .int (bI (opn Sr (usr Sr x1) i))), (18, .int (nI (rnk Sr (usr Sr x1) i (Sr.2 0 3)))), (17, .int (nI i)), (15, .int (nI (usr Sr x1))), (13, .int 1), (14, .int (tot Sr)), (0, .ref (ad 0 0)), (1, .ref (ad 17 0)), (2, .ref (ad 17 1)), (3, .ref (ad 17 2)), (4, .ref (ad 17 3)), (5, .ref (ad 17 4)), (6, .ref (ad 17 5)), (7, .ref (ad 17 6)), (8, .ref (ad 17 7)), (9, .ref (ad 17 8)), (10, .ref (ad 17 9)), (11, .ref (ad 17 10)), (12, .int (nI x1))]) hx hb dL_isSo_658 hl (by decide) rfl (fun ls hl => ?_)
                      refine lv_aload_n hx hb dL_isSo_660 rfl (lv_at hl 7 rfl) ?_
                      refine lv_iload hx hb dL_isSo_661 (lv_at hl 3 rfl) ?_
                      refine k_xRi X (k_xrunV (As := [.int (nI i)]) (rest := []) Z X (c_X7_taskOf l E G Sr T o ad (nI i) hE hS hL) (k_cwV 1 Z.1.2.2.2.2 (inU_26 _ (List.mem_of_getElem? (i := 22) rfl)) (inU_26 _ (List.mem_of_getElem? (i := 23) rfl)) (inU_27 _ (List.mem_of_getElem? (i := 0) rfl)) (inU_1 _ (List.mem_of_getElem? (i := 2) rfl)) (inU_27 _ (List.mem_of_getElem? (i := 1) rfl)) rfl rfl (by decide +kernel) ⟨Nat.le_of_ble_eq_true rfl, Nat.le_of_ble_eq_true rfl⟩) (k_recv Z X ct_0 rfl) rfl hl.1 rfl (Nat.le_of_ble_eq_true rfl) dL_isSo_663 ⟨(by show _ ≤ (_ : Nat); simp only [headSpec]; omega), (by show _ ≤ (_ : Nat); simp only [headSpec]; omega)⟩) (fun x ce q9 ad1 ct1 H locs hp X x1 x2 x3 => ?_) (fun r_663 ad1 ct1 H locs hp X => ?_)
                      · exact absurd ((cTk_0 (by omega) (by omega)).symm.trans hp.1.1) (by decide)
                      obtain ⟨⟨-, rfl⟩, ha_, hb_⟩ := hp
                      rw [← ha_, hb_] at X
                      refine lv_topi (fun x_663 e_663 => ?_)
                      obtain rfl : x_663 = Sr.1 14 i := e_663.trans (by rw [cl_n (by omega)])
                      refine lv_aload hx hb dL_isSo_666 (lv_at hl 16 rfl) ?_
                      refine lv_iload hx hb dL_isSo_668 (lv_at hl 3 rfl) ?_
                      refine k_ild (ad := ad) (k := 17) (i := 8) Z X ct_17_8 (vp_in_nI (n := i) (by first | assumption | omega) (by decide)) dL_isSo_670 ?_
                      refine lv_topi (fun x_670 e_670 => ?_)
                      obtain rfl : x_670 = T.1 9 i := e_670.trans (by first | (simp only [nI_clamp (show i < 2 ^ 31 by omega)]; done) | rfl | (simp only [nI_clamp (show i < 2 ^ 31 by omega)]; rfl) | (simp only [nI_clamp (show i < 2 ^ 31 by omega)]; simp [sI, sN]; done))
                      refine lv_topi (fun x_670 e_670 => ?_)
                      obtain rfl : x_670 = nI (enct Sr i) := e_670.trans (hT.t (by omega))
                      refine lv_ldc (v := 131072) hx hb Z.1.2.2.2.1 (Z.1.2.2.2.2 _ (inU_27 _ (List.mem_of_getElem? (i := 9) rfl))) dL_isSo_671 ?_
                      refine lv_idiv hx hb dL_isSo_673 (by decide) ?_
                      refine lv_topi (fun x_673 e_673 => ?_)
                      obtain rfl : x_673 = Sr.1 14 i := e_673.trans ((pk_div (a := (enct Sr i)) (d := 131072) (by have := (hT.tt hN (j := i) (by omega)).1; omega) (by omega) (by omega)).trans (hti.2.2.2.2.1))
                      refine lv_icmp_ne (tgt := 699) hx hb dL_isSo_674 (by decide) (fun c_674 => ?_) (fun c_674 => ?_)
                      · exact absurd rfl c_674
                      · refine lv_iload hx hb dL_isSo_677 (lv_at hl 1 rfl) ?_
                        refine lv_if_eq (tgt := 695) hx hb dL_isSo_679 (by decide) (fun c_679 => ?_) (fun c_679 => ?_)
                        · have c_679 : (opn Sr (usr Sr x1) i) = false := bI_0 c_679
                          refine lv_iconst (v := 1) hx hb dL_isSo_695 (by decide) ?_
                          refine lv_goto (tgt := 700) hx hb dL_isSo_696 (by decide) ?_
                          refine lv_istore (lv' := [(13, .int 1), (16, .int (nI (opnN Sr (usr Sr x1) (i + 1)))), (19, .int (bI (opn Sr (usr Sr x1) i))), (18, .int (nI (rnk Sr (usr Sr x1) i (Sr.2 0 3)))), (17, .int (nI i)), (15, .int (nI (usr Sr x1))), (14, .int (tot Sr)), (0, .ref (ad 0 0)), (1, .ref (ad 17 0)), (2, .ref (ad 17 1)), (3, .ref (ad 17 2)), (4, .ref (ad 17 3)), (5, .ref (ad 17 4)), (6, .ref (ad 17 5)), (7, .ref (ad 17 6)), (8, .ref (ad 17 7)), (9, .ref (ad 17 8)), (10, .ref (ad 17 9)), (11, .ref (ad 17 10)), (12, .int (nI x1))]) hx hb dL_isSo_700 hl (by decide) rfl (fun ls hl => ?_)
                          refine lv_iinc (v := (nI (i + 1))) (lv' := [(17, .int (nI (i + 1))), (13, .int 1), (16, .int (nI (opnN Sr (usr Sr x1) (i + 1)))), (19, .int (bI (opn Sr (usr Sr x1) i))), (18, .int (nI (rnk Sr (usr Sr x1) i (Sr.2 0 3)))), (15, .int (nI (usr Sr x1))), (14, .int (tot Sr)), (0, .ref (ad 0 0)), (1, .ref (ad 17 0)), (2, .ref (ad 17 1)), (3, .ref (ad 17 2)), (4, .ref (ad 17 3)), (5, .ref (ad 17 4)), (6, .ref (ad 17 5)), (7, .ref (ad 17 6)), (8, .ref (ad 17 7)), (9, .ref (ad 17 8)), (10, .ref (ad 17 9)), (11, .ref (ad 17 10)), (12, .int (nI x1))]) hx hb dL_isSo_702 hl (k := 4) rfl (nI_1 _) (by decide) rfl (fun ls hl => ?_)
                          refine lv_goto (tgt := 504) hx hb dL_isSo_705 (by decide) ?_
                          refine W.widen (k := 792 + 4 * (i + 1)) (n := 4752 + 24 * (i + 1)) (by omega) (by omega) ?_
                          exact ih (i + 1) (by omega) (by omega) _ _ _ X (lv_sub hl [0, 2, 5, 1, 6, 7, 8, 9, 10, 11, 12, 13, 14, 15, 16, 17, 18, 19] rfl)
                        · have c_679 : (opn Sr (usr Sr x1) i) = true := bI_1 c_679
                          refine lv_aload_n hx hb dL_isSo_682 rfl (lv_at hl 7 rfl) ?_
                          refine lv_iload hx hb dL_isSo_683 (lv_at hl 4 rfl) ?_
                          refine lv_iload hx hb dL_isSo_685 (lv_at hl 2 rfl) ?_
                          have hus : Sr.2 5 i = usr Sr x1 := by have z := c_679; rw [opn, Bool.and_eq_true, decide_eq_true_eq] at z; exact z.1
                          have hrl := rnk_le (S := Sr) (usr Sr x1) i (Sr.2 0 3)
                          refine k_xRi X (k_xrunV (As := [.int (nI (usr Sr x1)), .int (nI (rnk Sr (usr Sr x1) i (Sr.2 0 3)))]) (rest := []) Z X (c_X7_next l E G Sr T o ad (nI (usr Sr x1)) (nI (rnk Sr (usr Sr x1) i (Sr.2 0 3))) hE hS hL) (k_cwV 2 Z.1.2.2.2.2 (inU_26 _ (List.mem_of_getElem? (i := 6) rfl)) (inU_26 _ (List.mem_of_getElem? (i := 7) rfl)) (inU_26 _ (List.mem_of_getElem? (i := 8) rfl)) (inU_1 _ (List.mem_of_getElem? (i := 2) rfl)) (inU_26 _ (List.mem_of_getElem? (i := 9) rfl)) rfl rfl (by decide +kernel) ⟨Nat.le_of_ble_eq_true rfl, Nat.le_of_ble_eq_true rfl⟩) (k_recv Z X ct_0 rfl) rfl hl.1 rfl (Nat.le_of_ble_eq_true rfl) dL_isSo_687 ⟨(by show _ ≤ (_ : Nat); simp only [headSpec]; omega), (by show _ ≤ (_ : Nat); simp only [headSpec]; omega)⟩) (fun x ce q9 ad1 ct1 H locs hp X x1 x2 x3 => ?_) (fun r_687 ad1 ct1 H locs hp X => ?_)
                          · exact absurd ((cNx_0 (by omega) (by omega) (by omega)).symm.trans hp.1.1) (by decide)
                          obtain ⟨⟨-, rfl⟩, ha_, hb_⟩ := hp
                          rw [← ha_, hb_] at X
                          refine lv_topi (fun x_687 e_687 => ?_)
                          obtain rfl : x_687 = nI i := e_687.trans (by rw [cl_n (by omega)]; exact next_at (by omega) (by omega) c_679)
                          refine lv_iload hx hb dL_isSo_690 (lv_at hl 3 rfl) ?_
                          refine lv_icmp_ne (tgt := 699) hx hb dL_isSo_692 (by decide) (fun c_692 => ?_) (fun c_692 => ?_)
                          · exact absurd rfl c_692
                          · refine lv_iconst (v := 1) hx hb dL_isSo_695 (by decide) ?_
                            refine lv_goto (tgt := 700) hx hb dL_isSo_696 (by decide) ?_
                            refine lv_istore (lv' := [(13, .int 1), (16, .int (nI (opnN Sr (usr Sr x1) (i + 1)))), (19, .int (bI (opn Sr (usr Sr x1) i))), (18, .int (nI (rnk Sr (usr Sr x1) i (Sr.2 0 3)))), (17, .int (nI i)), (15, .int (nI (usr Sr x1))), (14, .int (tot Sr)), (0, .ref (ad 0 0)), (1, .ref (ad 17 0)), (2, .ref (ad 17 1)), (3, .ref (ad 17 2)), (4, .ref (ad 17 3)), (5, .ref (ad 17 4)), (6, .ref (ad 17 5)), (7, .ref (ad 17 6)), (8, .ref (ad 17 7)), (9, .ref (ad 17 8)), (10, .ref (ad 17 9)), (11, .ref (ad 17 10)), (12, .int (nI x1))]) hx hb dL_isSo_700 hl (by decide) rfl (fun ls hl => ?_)
                            refine lv_iinc (v := (nI (i + 1))) (lv' := [(17, .int (nI (i + 1))), (13, .int 1), (16, .int (nI (opnN Sr (usr Sr x1) (i + 1)))), (19, .int (bI (opn Sr (usr Sr x1) i))), (18, .int (nI (rnk Sr (usr Sr x1) i (Sr.2 0 3)))), (15, .int (nI (usr Sr x1))), (14, .int (tot Sr)), (0, .ref (ad 0 0)), (1, .ref (ad 17 0)), (2, .ref (ad 17 1)), (3, .ref (ad 17 2)), (4, .ref (ad 17 3)), (5, .ref (ad 17 4)), (6, .ref (ad 17 5)), (7, .ref (ad 17 6)), (8, .ref (ad 17 7)), (9, .ref (ad 17 8)), (10, .ref (ad 17 9)), (11, .ref (ad 17 10)), (12, .int (nI x1))]) hx hb dL_isSo_702 hl (k := 4) rfl (nI_1 _) (by decide) rfl (fun ls hl => ?_)
                            refine lv_goto (tgt := 504) hx hb dL_isSo_705 (by decide) ?_
                            refine W.widen (k := 792 + 4 * (i + 1)) (n := 4752 + 24 * (i + 1)) (by omega) (by omega) ?_
                            exact ih (i + 1) (by omega) (by omega) _ _ _ X (lv_sub hl [0, 2, 5, 1, 6, 7, 8, 9, 10, 11, 12, 13, 14, 15, 16, 17, 18, 19] rfl)
                    refine lv_iload hx hb dL_isSo_647 (lv_at hl 0 rfl) ?_
                    refine lv_if_eq (tgt := 656) hx hb dL_isSo_649 (by decide) (fun c_649 => ?_) (fun c_649 => ?_)
                    · have c_649 : (opn Sr (usr Sr x1) i) = false := bI_0 c_649
                      refine lv_iconst (v := 0) hx hb dL_isSo_656 (by decide) ?_
                      exact W.eq (congrArg (fun z => F0 m 657 ls (.int z :: [.int (nI (opnN Sr (usr Sr x1) i))])) (bI_f c_649)) (M_657 _ _ X)
                    · have c_649 : (opn Sr (usr Sr x1) i) = true := bI_1 c_649
                      refine lv_iconst (v := 1) hx hb dL_isSo_652 (by decide) ?_
                      refine lv_goto (tgt := 657) hx hb dL_isSo_653 (by decide) ?_
                      exact W.eq (congrArg (fun z => F0 m 657 ls (.int z :: [.int (nI (opnN Sr (usr Sr x1) i))])) (bI_t c_649)) (M_657 _ _ X)
                  refine lv_aload hx hb dL_isSo_610 (lv_at hl 16 rfl) ?_
                  refine lv_iload hx hb dL_isSo_612 (lv_at hl 2 rfl) ?_
                  refine k_ild (ad := ad) (k := 17) (i := 8) Z X ct_17_8 (vp_in_nI (n := i) (by first | assumption | omega) (by decide)) dL_isSo_614 ?_
                  refine lv_topi (fun x_614 e_614 => ?_)
                  obtain rfl : x_614 = T.1 9 i := e_614.trans (by first | (simp only [nI_clamp (show i < 2 ^ 31 by omega)]; done) | rfl | (simp only [nI_clamp (show i < 2 ^ 31 by omega)]; rfl) | (simp only [nI_clamp (show i < 2 ^ 31 by omega)]; simp [sI, sN]; done))
                  refine lv_topi (fun x_614 e_614 => ?_)
                  obtain rfl : x_614 = nI (enct Sr i) := e_614.trans (hT.t (by omega))
                  refine lv_ldc (v := 131072) hx hb Z.1.2.2.2.1 (Z.1.2.2.2.2 _ (inU_27 _ (List.mem_of_getElem? (i := 9) rfl))) dL_isSo_615 ?_
                  refine lv_idiv hx hb dL_isSo_617 (by decide) ?_
                  refine lv_topi (fun x_617 e_617 => ?_)
                  obtain rfl : x_617 = nI ((enct Sr i) / 131072) := e_617.trans ((pk_div (a := (enct Sr i)) (d := 131072) (by have := (hT.tt hN (j := i) (by omega)).1; omega) (by omega) (by omega)))
                  refine lv_if_ne (tgt := 642) hx hb dL_isSo_618 (by decide) (fun c_618 => ?_) (fun c_618 => ?_)
                  · have c_618 : ¬ (enct Sr i) / 131072 = 0 := fun h => c_618 ((nI_eq (a := (enct Sr i) / 131072) (b := 0) (by omega) (by omega)).mpr h)
                    have s_618 : ¬ Sr.1 14 i = 0 := fun z => c_618 (hti.2.2.2.2.2.1.mpr z)
                    refine lv_iconst (v := 0) hx hb dL_isSo_642 (by decide) ?_
                    exact W.eq (congrArg (fun z => F0 m 643 ls (.int z :: [])) (bI_f (by simp [opn, s_618]))) (M_643 _ _ X)
                  · have c_618 : (enct Sr i) / 131072 = 0 := (nI_eq (a := (enct Sr i) / 131072) (b := 0) (by omega) (by omega)).mp c_618
                    have s_618 : Sr.1 14 i = 0 := hti.2.2.2.2.2.1.mp c_618
                    refine lv_aload hx hb dL_isSo_621 (lv_at hl 16 rfl) ?_
                    refine lv_iload hx hb dL_isSo_623 (lv_at hl 2 rfl) ?_
                    refine k_ild (ad := ad) (k := 17) (i := 8) Z X ct_17_8 (vp_in_nI (n := i) (by first | assumption | omega) (by decide)) dL_isSo_625 ?_
                    refine lv_topi (fun x_625 e_625 => ?_)
                    obtain rfl : x_625 = T.1 9 i := e_625.trans (by first | (simp only [nI_clamp (show i < 2 ^ 31 by omega)]; done) | rfl | (simp only [nI_clamp (show i < 2 ^ 31 by omega)]; rfl) | (simp only [nI_clamp (show i < 2 ^ 31 by omega)]; simp [sI, sN]; done))
                    refine lv_topi (fun x_625 e_625 => ?_)
                    obtain rfl : x_625 = nI (enct Sr i) := e_625.trans (hT.t (by omega))
                    refine lv_sipush (v := 8192) hx hb dL_isSo_626 (by decide) ?_
                    refine lv_idiv hx hb dL_isSo_629 (by decide) ?_
                    refine lv_topi (fun x_629 e_629 => ?_)
                    obtain rfl : x_629 = nI ((enct Sr i) / 8192) := e_629.trans ((pk_div (a := (enct Sr i)) (d := 8192) (by have := (hT.tt hN (j := i) (by omega)).1; omega) (by omega) (by omega)))
                    refine lv_bipush (v := 16) hx hb dL_isSo_630 (by decide) ?_
                    refine lv_irem hx hb dL_isSo_632 (by decide) ?_
                    refine lv_topi (fun x_632 e_632 => ?_)
                    obtain rfl : x_632 = nI (Sr.2 5 i) := e_632.trans ((pk_rem (a := ((enct Sr i) / 8192)) (d := 16) (by have := (hT.tt hN (j := i) (by omega)).1; omega) (by omega) (by omega)).trans (congrArg nI (hT.tt hN (j := i) (by omega)).2.2.2.1))
                    have hun : usr Sr x1 < 2 ^ 31 := by unfold usr; split; decide; exact Nat.lt_of_le_of_lt (Nat.mod_le _ _) (by omega)
                    refine lv_iload hx hb dL_isSo_633 (lv_at hl 4 rfl) ?_
                    refine lv_icmp_ne (tgt := 642) hx hb dL_isSo_635 (by decide) (fun c_635 => ?_) (fun c_635 => ?_)
                    · have c_635 : ¬ Sr.2 5 i = usr Sr x1 := fun h => c_635 ((nI_eq (a := Sr.2 5 i) (b := usr Sr x1) (by omega) (by omega)).mpr h)
                      have s_635 := c_635
                      refine lv_iconst (v := 0) hx hb dL_isSo_642 (by decide) ?_
                      exact W.eq (congrArg (fun z => F0 m 643 ls (.int z :: [])) (bI_f (by simp [opn, s_618, s_635]))) (M_643 _ _ X)
                    · have c_635 : Sr.2 5 i = usr Sr x1 := (nI_eq (a := Sr.2 5 i) (b := usr Sr x1) (by omega) (by omega)).mp c_635
                      have s_635 := c_635
                      refine lv_iconst (v := 1) hx hb dL_isSo_638 (by decide) ?_
                      refine lv_goto (tgt := 643) hx hb dL_isSo_639 (by decide) ?_
                      exact W.eq (congrArg (fun z => F0 m 643 ls (.int z :: [])) (bI_t (by simp [opn, s_618, s_635]))) (M_643 _ _ X)
                · have c_530 : ¬ Sr.2 0 3 ≤ j := fun h => c_530 ((nI_leI (a := Sr.2 0 3) (b := j) (by omega) (by omega)).mpr h)
                  have htj := hT.tt hN (j := j) (by omega)
                  have htj1 := htj.1
                  have huj := hN.2.2.2.2.2.2 j (by omega)
                  have hun : usr Sr x1 < 2 ^ 31 := by unfold usr; split; decide; exact Nat.lt_of_le_of_lt (Nat.mod_le _ _) (by omega)
                  refine lv_iload hx hb dL_isSo_533 (lv_at hl 1 rfl) ?_
                  have M_601 : ∀ (H : Heap) (locs : List Loc), kX E G s H locs ad (cto G Sr T o ad) → W p l e (headSpec (Cond.code yL_isSo cL_isSo 20 (some .boolean) :: wsL_law) ({ frames := 20, cells := 1000, slots := 6000, locals := 500 } : Room)).room s m ([.ref (ad 0 0), .ref (ad 17 0), .ref (ad 17 1), .ref (ad 17 2), .ref (ad 17 3), .ref (ad 17 4), .ref (ad 17 5), .ref (ad 17 6), .ref (ad 17 7), .ref (ad 17 8), .ref (ad 17 9), .ref (ad 17 10), .int (nI x1)] : List Value).toArray below meth c H locs (792 + 4 * i) (4752 + 24 * i) (vx_MQ below (kQi E G (fun r ad1 ct1 => (r = 1 ∧ ad = ad1) ∧ ∃ S1, ct1 = cto G S1 T o ad ∧ Inv n9 S1 T)) (kXC E G (fun _ _ _ => False)) ([.ref (ad 0 0), .ref (ad 17 0), .ref (ad 17 1), .ref (ad 17 2), .ref (ad 17 3), .ref (ad 17 4), .ref (ad 17 5), .ref (ad 17 6), .ref (ad 17 7), .ref (ad 17 8), .ref (ad 17 9), .ref (ad 17 10), .int (nI x1)] : List Value).toArray s 1000 6000 (kB E.heap.size)) (F0 m 601 ls [.int (bI (opn Sr (usr Sr x1) j && ahead Sr i j)), .int (nI (rnk Sr (usr Sr x1) i j))]) := by
                    intro H locs X
                    refine lv_iadd hx hb dL_isSo_601 ?_
                    refine lv_topi (fun x_601 e_601 => ?_)
                    obtain rfl : x_601 = nI (rnk Sr (usr Sr x1) i (j + 1)) := e_601.trans (n_bI _ _)
                    refine lv_istore (lv' := [(18, .int (nI (rnk Sr (usr Sr x1) i (j + 1)))), (19, .int (nI j)), (17, .int (nI i)), (16, .int (nI (opnN Sr (usr Sr x1) i))), (15, .int (nI (usr Sr x1))), (13, .int 1), (14, .int (tot Sr)), (0, .ref (ad 0 0)), (1, .ref (ad 17 0)), (2, .ref (ad 17 1)), (3, .ref (ad 17 2)), (4, .ref (ad 17 3)), (5, .ref (ad 17 4)), (6, .ref (ad 17 5)), (7, .ref (ad 17 6)), (8, .ref (ad 17 7)), (9, .ref (ad 17 8)), (10, .ref (ad 17 9)), (11, .ref (ad 17 10)), (12, .int (nI x1))]) hx hb dL_isSo_602 hl (by decide) rfl (fun ls hl => ?_)
                    refine lv_iinc (v := (nI (j + 1))) (lv' := [(19, .int (nI (j + 1))), (18, .int (nI (rnk Sr (usr Sr x1) i (j + 1)))), (17, .int (nI i)), (16, .int (nI (opnN Sr (usr Sr x1) i))), (15, .int (nI (usr Sr x1))), (13, .int 1), (14, .int (tot Sr)), (0, .ref (ad 0 0)), (1, .ref (ad 17 0)), (2, .ref (ad 17 1)), (3, .ref (ad 17 2)), (4, .ref (ad 17 3)), (5, .ref (ad 17 4)), (6, .ref (ad 17 5)), (7, .ref (ad 17 6)), (8, .ref (ad 17 7)), (9, .ref (ad 17 8)), (10, .ref (ad 17 9)), (11, .ref (ad 17 10)), (12, .int (nI x1))]) hx hb dL_isSo_604 hl (k := 1) rfl (nI_1 _) (by decide) rfl (fun ls hl => ?_)
                    refine lv_goto (tgt := 524) hx hb dL_isSo_607 (by decide) ?_
                    exact ih6 (j + 1) (by omega) (by omega) _ _ _ X (lv_sub hl [0, 1, 2, 3, 4, 5, 6, 7, 8, 9, 10, 11, 12, 13, 14, 15, 16, 17, 18, 19] rfl)
                  refine lv_aload hx hb dL_isSo_535 (lv_at hl 16 rfl) ?_
                  refine lv_iload hx hb dL_isSo_537 (lv_at hl 0 rfl) ?_
                  refine k_ild (ad := ad) (k := 17) (i := 8) Z X ct_17_8 (vp_in_nI (n := j) (by first | assumption | omega) (by decide)) dL_isSo_539 ?_
                  refine lv_topi (fun x_539 e_539 => ?_)
                  obtain rfl : x_539 = T.1 9 j := e_539.trans (by first | (simp only [nI_clamp (show j < 2 ^ 31 by omega)]; done) | rfl | (simp only [nI_clamp (show j < 2 ^ 31 by omega)]; rfl) | (simp only [nI_clamp (show j < 2 ^ 31 by omega)]; simp [sI, sN]; done))
                  refine lv_topi (fun x_539 e_539 => ?_)
                  obtain rfl : x_539 = nI (enct Sr j) := e_539.trans (hT.t (by omega))
                  refine lv_ldc (v := 131072) hx hb Z.1.2.2.2.1 (Z.1.2.2.2.2 _ (inU_27 _ (List.mem_of_getElem? (i := 9) rfl))) dL_isSo_540 ?_
                  refine lv_idiv hx hb dL_isSo_542 (by decide) ?_
                  refine lv_topi (fun x_542 e_542 => ?_)
                  obtain rfl : x_542 = nI ((enct Sr j) / 131072) := e_542.trans ((pk_div (a := (enct Sr j)) (d := 131072) (by have := (hT.tt hN (j := j) (by omega)).1; omega) (by omega) (by omega)))
                  refine lv_if_ne (tgt := 600) hx hb dL_isSo_543 (by decide) (fun c_543 => ?_) (fun c_543 => ?_)
                  · have c_543 : ¬ (enct Sr j) / 131072 = 0 := fun h => c_543 ((nI_eq (a := (enct Sr j) / 131072) (b := 0) (by omega) (by omega)).mpr h)
                    have s_543 : ¬ Sr.1 14 j = 0 := fun z => c_543 (htj.2.2.2.2.2.1.mpr z)
                    refine lv_iconst (v := 0) hx hb dL_isSo_600 (by decide) ?_
                    exact W.eq (congrArg (fun z => F0 m 601 ls (.int z :: [.int (nI (rnk Sr (usr Sr x1) i j))])) (bI_f (by simp [opn, ahead, s_543]))) (M_601 _ _ X)
                  · have c_543 : (enct Sr j) / 131072 = 0 := (nI_eq (a := (enct Sr j) / 131072) (b := 0) (by omega) (by omega)).mp c_543
                    have s_543 : Sr.1 14 j = 0 := htj.2.2.2.2.2.1.mp c_543
                    refine lv_aload hx hb dL_isSo_546 (lv_at hl 16 rfl) ?_
                    refine lv_iload hx hb dL_isSo_548 (lv_at hl 0 rfl) ?_
                    refine k_ild (ad := ad) (k := 17) (i := 8) Z X ct_17_8 (vp_in_nI (n := j) (by first | assumption | omega) (by decide)) dL_isSo_550 ?_
                    refine lv_topi (fun x_550 e_550 => ?_)
                    obtain rfl : x_550 = T.1 9 j := e_550.trans (by first | (simp only [nI_clamp (show j < 2 ^ 31 by omega)]; done) | rfl | (simp only [nI_clamp (show j < 2 ^ 31 by omega)]; rfl) | (simp only [nI_clamp (show j < 2 ^ 31 by omega)]; simp [sI, sN]; done))
                    refine lv_topi (fun x_550 e_550 => ?_)
                    obtain rfl : x_550 = nI (enct Sr j) := e_550.trans (hT.t (by omega))
                    refine lv_sipush (v := 8192) hx hb dL_isSo_551 (by decide) ?_
                    refine lv_idiv hx hb dL_isSo_554 (by decide) ?_
                    refine lv_topi (fun x_554 e_554 => ?_)
                    obtain rfl : x_554 = nI ((enct Sr j) / 8192) := e_554.trans ((pk_div (a := (enct Sr j)) (d := 8192) (by have := (hT.tt hN (j := j) (by omega)).1; omega) (by omega) (by omega)))
                    refine lv_bipush (v := 16) hx hb dL_isSo_555 (by decide) ?_
                    refine lv_irem hx hb dL_isSo_557 (by decide) ?_
                    refine lv_topi (fun x_557 e_557 => ?_)
                    obtain rfl : x_557 = nI (Sr.2 5 j) := e_557.trans ((pk_rem (a := ((enct Sr j) / 8192)) (d := 16) (by have := (hT.tt hN (j := j) (by omega)).1; omega) (by omega) (by omega)).trans (congrArg nI (hT.tt hN (j := j) (by omega)).2.2.2.1))
                    refine lv_iload hx hb dL_isSo_558 (lv_at hl 4 rfl) ?_
                    refine lv_icmp_ne (tgt := 600) hx hb dL_isSo_560 (by decide) (fun c_560 => ?_) (fun c_560 => ?_)
                    · have c_560 : ¬ Sr.2 5 j = usr Sr x1 := fun h => c_560 ((nI_eq (a := Sr.2 5 j) (b := usr Sr x1) (by omega) (by omega)).mpr h)
                      have s_560 := c_560
                      refine lv_iconst (v := 0) hx hb dL_isSo_600 (by decide) ?_
                      exact W.eq (congrArg (fun z => F0 m 601 ls (.int z :: [.int (nI (rnk Sr (usr Sr x1) i j))])) (bI_f (by simp [opn, ahead, s_543, s_560]))) (M_601 _ _ X)
                    · have c_560 : Sr.2 5 j = usr Sr x1 := (nI_eq (a := Sr.2 5 j) (b := usr Sr x1) (by omega) (by omega)).mp c_560
                      have s_560 := c_560
                      refine lv_aload hx hb dL_isSo_563 (lv_at hl 17 rfl) ?_
                      refine lv_iload hx hb dL_isSo_565 (lv_at hl 0 rfl) ?_
                      refine k_ild (ad := ad) (k := 17) (i := 9) Z X ct_17_9 (vp_in_nI (n := j) (by first | assumption | omega) (by decide)) dL_isSo_567 ?_
                      refine lv_topi (fun x_567 e_567 => ?_)
                      obtain rfl : x_567 = T.1 10 j := e_567.trans (by first | (simp only [nI_clamp (show j < 2 ^ 31 by omega)]; done) | rfl | (simp only [nI_clamp (show j < 2 ^ 31 by omega)]; rfl) | (simp only [nI_clamp (show j < 2 ^ 31 by omega)]; simp [sI, sN]; done))
                      refine lv_topi (fun x_567 e_567 => ?_)
                      obtain rfl : x_567 = Sr.1 13 j := e_567.trans (hT.w (by omega))
                      refine lv_aload hx hb dL_isSo_568 (lv_at hl 17 rfl) ?_
                      refine lv_iload hx hb dL_isSo_570 (lv_at hl 2 rfl) ?_
                      refine k_ild (ad := ad) (k := 17) (i := 9) Z X ct_17_9 (vp_in_nI (n := i) (by first | assumption | omega) (by decide)) dL_isSo_572 ?_
                      refine lv_topi (fun x_572 e_572 => ?_)
                      obtain rfl : x_572 = T.1 10 i := e_572.trans (by first | (simp only [nI_clamp (show i < 2 ^ 31 by omega)]; done) | rfl | (simp only [nI_clamp (show i < 2 ^ 31 by omega)]; rfl) | (simp only [nI_clamp (show i < 2 ^ 31 by omega)]; simp [sI, sN]; done))
                      refine lv_topi (fun x_572 e_572 => ?_)
                      obtain rfl : x_572 = Sr.1 13 i := e_572.trans (hT.w (by omega))
                      refine lv_icmp_lt (tgt := 596) hx hb dL_isSo_573 (by decide) (fun c_573 => ?_) (fun c_573 => ?_)
                      · refine lv_iconst (v := 1) hx hb dL_isSo_596 (by decide) ?_
                        refine lv_goto (tgt := 601) hx hb dL_isSo_597 (by decide) ?_
                        exact W.eq (congrArg (fun z => F0 m 601 ls (.int z :: [.int (nI (rnk Sr (usr Sr x1) i j))])) (bI_t (by simp [opn, ahead, s_543, s_560, c_573]))) (M_601 _ _ X)
                      · refine lv_aload hx hb dL_isSo_576 (lv_at hl 17 rfl) ?_
                        refine lv_iload hx hb dL_isSo_578 (lv_at hl 0 rfl) ?_
                        refine k_ild (ad := ad) (k := 17) (i := 9) Z X ct_17_9 (vp_in_nI (n := j) (by first | assumption | omega) (by decide)) dL_isSo_580 ?_
                        refine lv_topi (fun x_580 e_580 => ?_)
                        obtain rfl : x_580 = T.1 10 j := e_580.trans (by first | (simp only [nI_clamp (show j < 2 ^ 31 by omega)]; done) | rfl | (simp only [nI_clamp (show j < 2 ^ 31 by omega)]; rfl) | (simp only [nI_clamp (show j < 2 ^ 31 by omega)]; simp [sI, sN]; done))
                        refine lv_topi (fun x_580 e_580 => ?_)
                        obtain rfl : x_580 = Sr.1 13 j := e_580.trans (hT.w (by omega))
                        refine lv_aload hx hb dL_isSo_581 (lv_at hl 17 rfl) ?_
                        refine lv_iload hx hb dL_isSo_583 (lv_at hl 2 rfl) ?_
                        refine k_ild (ad := ad) (k := 17) (i := 9) Z X ct_17_9 (vp_in_nI (n := i) (by first | assumption | omega) (by decide)) dL_isSo_585 ?_
                        refine lv_topi (fun x_585 e_585 => ?_)
                        obtain rfl : x_585 = T.1 10 i := e_585.trans (by first | (simp only [nI_clamp (show i < 2 ^ 31 by omega)]; done) | rfl | (simp only [nI_clamp (show i < 2 ^ 31 by omega)]; rfl) | (simp only [nI_clamp (show i < 2 ^ 31 by omega)]; simp [sI, sN]; done))
                        refine lv_topi (fun x_585 e_585 => ?_)
                        obtain rfl : x_585 = Sr.1 13 i := e_585.trans (hT.w (by omega))
                        refine lv_icmp_ne (tgt := 600) hx hb dL_isSo_586 (by decide) (fun c_586 => ?_) (fun c_586 => ?_)
                        · refine lv_iconst (v := 0) hx hb dL_isSo_600 (by decide) ?_
                          exact W.eq (congrArg (fun z => F0 m 601 ls (.int z :: [.int (nI (rnk Sr (usr Sr x1) i j))])) (bI_f (by simp [opn, ahead, s_543, s_560, c_573, c_586]))) (M_601 _ _ X)
                        · refine lv_iload hx hb dL_isSo_589 (lv_at hl 0 rfl) ?_
                          refine lv_iload hx hb dL_isSo_591 (lv_at hl 2 rfl) ?_
                          refine lv_icmp_ge (tgt := 600) hx hb dL_isSo_593 (by decide) (fun c_593 => ?_) (fun c_593 => ?_)
                          · have c_593 : i ≤ j := (nI_leI (a := i) (b := j) (by omega) (by omega)).mp c_593
                            have s_593 : ¬ j < i := by omega
                            refine lv_iconst (v := 0) hx hb dL_isSo_600 (by decide) ?_
                            exact W.eq (congrArg (fun z => F0 m 601 ls (.int z :: [.int (nI (rnk Sr (usr Sr x1) i j))])) (bI_f (by simp [opn, ahead, s_543, s_560, c_573, c_586, s_593]))) (M_601 _ _ X)
                          · have c_593 : ¬ i ≤ j := fun h => c_593 ((nI_leI (a := i) (b := j) (by omega) (by omega)).mpr h)
                            have s_593 : j < i := by omega
                            refine lv_iconst (v := 1) hx hb dL_isSo_596 (by decide) ?_
                            refine lv_goto (tgt := 601) hx hb dL_isSo_597 (by decide) ?_
                            exact W.eq (congrArg (fun z => F0 m 601 ls (.int z :: [.int (nI (rnk Sr (usr Sr x1) i j))])) (bI_t (by simp [opn, ahead, s_543, s_560, c_573, c_586, s_593]))) (M_601 _ _ X)
            exact LOOP_524 (Sr.2 0 3 + 1) 0 (Nat.zero_le _) (by omega) _ _ _ X (lv_sub hl [0, 1, 2, 3, 4, 5, 6, 7, 8, 9, 10, 11, 12, 13, 14, 15, 16, 17, 18, 19] rfl)
    exact LOOP_504 (Sr.2 0 3 + 1) 0 (Nat.zero_le _) (by omega) _ _ _ X (lv_sub hl [0, 1, 2, 3, 4, 5, 6, 7, 8, 9, 10, 11, 12, 13, 14, 15, 16, 17] rfl)
  refine lv_aload hx hb dL_isSo_478 (lv_at hl 13 rfl) ?_
  refine lv_iconst (v := 1) hx hb dL_isSo_480 (by decide) ?_
  refine k_ild (ad := ad) (k := 17) (i := 10) Z X ct_17_10 (vp_in_nI (n := 1) (by first | assumption | omega) (by decide)) dL_isSo_481 ?_
  refine lv_topi (fun x_481 e_481 => ?_)
  obtain rfl : x_481 = T.1 11 1 := e_481.trans (by first | (simp only [nI_clamp (show 1 < 2 ^ 31 by omega)]; done) | rfl | (simp only [nI_clamp (show 1 < 2 ^ 31 by omega)]; rfl) | (simp only [nI_clamp (show 1 < 2 ^ 31 by omega)]; simp [sI, sN]; done))
  refine lv_topi (fun x_481 e_481 => ?_)
  obtain rfl : x_481 = nI (Sr.2 0 0) := e_481.trans (hT.g1)
  refine lv_if_ne (tgt := 489) hx hb dL_isSo_482 (by decide) (fun c_482 => ?_) (fun c_482 => ?_)
  · have c_482 : ¬ Sr.2 0 0 = 0 := fun h => c_482 ((nI_eq (a := Sr.2 0 0) (b := 0) (by omega) (by omega)).mpr h)
    refine lv_iload hx hb dL_isSo_489 (lv_at hl 14 rfl) ?_
    refine lv_aload hx hb dL_isSo_491 (lv_at hl 13 rfl) ?_
    refine lv_iconst (v := 1) hx hb dL_isSo_493 (by decide) ?_
    refine k_ild (ad := ad) (k := 17) (i := 10) Z X ct_17_10 (vp_in_nI (n := 1) (by first | assumption | omega) (by decide)) dL_isSo_494 ?_
    refine lv_topi (fun x_494 e_494 => ?_)
    obtain rfl : x_494 = T.1 11 1 := e_494.trans (by first | (simp only [nI_clamp (show 1 < 2 ^ 31 by omega)]; done) | rfl | (simp only [nI_clamp (show 1 < 2 ^ 31 by omega)]; rfl) | (simp only [nI_clamp (show 1 < 2 ^ 31 by omega)]; simp [sI, sN]; done))
    refine lv_topi (fun x_494 e_494 => ?_)
    obtain rfl : x_494 = nI (Sr.2 0 0) := e_494.trans (hT.g1)
    refine lv_irem hx hb dL_isSo_495 (nI_ne0 (by omega) (by omega)) ?_
    refine lv_topi (fun x_495 e_495 => ?_)
    obtain rfl : x_495 = nI (x1 % (Sr.2 0 0)) := e_495.trans ((pk_rem (a := x1) (d := (Sr.2 0 0)) (by omega) (by omega) (by omega)))
    exact W.eq (congrArg (fun z => F0 m 496 ls (.int z :: [])) (by rw [usr, if_neg c_482])) (M_496 _ _ X)
  · have c_482 : Sr.2 0 0 = 0 := (nI_eq (a := Sr.2 0 0) (b := 0) (by omega) (by omega)).mp c_482
    refine lv_iconst (v := 0) hx hb dL_isSo_485 (by decide) ?_
    refine lv_goto (tgt := 496) hx hb dL_isSo_486 (by decide) ?_
    exact W.eq (congrArg (fun z => F0 m 496 ls (.int z :: [])) (by rw [usr, if_pos c_482]; rfl)) (M_496 _ _ X)
set_option maxHeartbeats 4000000 in
set_option maxRecDepth 100000 in
theorem t_isSo_426 {p : Program} {l : Launch} {e : Env} {s : State} {m : MethodId} {below : List Frame} {meth : Method} {c : Code} {E : State} {G : kG} {T : kSt} {o : Int64} {ad : kAd} {n9 x1 : Nat} (hE : kE l E G) (hn9 : n9 ≤ 200) (hx1 : x1 < 60000) (Z : kZ p m c cL_isSo 20 s ([.ref (ad 0 0), .ref (ad 17 0), .ref (ad 17 1), .ref (ad 17 2), .ref (ad 17 3), .ref (ad 17 4), .ref (ad 17 5), .ref (ad 17 6), .ref (ad 17 7), .ref (ad 17 8), .ref (ad 17 9), .ref (ad 17 10), .int (nI x1)] : List Value).toArray wsL_law RL E G) (hr : meth.sig.returnType = some .boolean) (hlocks : meth.locks = false) : ∀ (Sr : kSt), (Inv n9 Sr T) → ∀ (H : Heap) (locs : List Loc) (ls : Array Slot), kX E G s H locs ad (cto G Sr T o ad) → lv_has ls 20 [(13, .int 1), (14, .int (totC Sr 0)), (0, .ref (ad 0 0)), (1, .ref (ad 17 0)), (2, .ref (ad 17 1)), (3, .ref (ad 17 2)), (4, .ref (ad 17 3)), (5, .ref (ad 17 4)), (6, .ref (ad 17 5)), (7, .ref (ad 17 6)), (8, .ref (ad 17 7)), (9, .ref (ad 17 8)), (10, .ref (ad 17 9)), (11, .ref (ad 17 10)), (12, .int (nI x1))] → W p l e (headSpec (Cond.code yL_isSo cL_isSo 20 (some .boolean) :: wsL_law) ({ frames := 20, cells := 1000, slots := 6000, locals := 500 } : Room)).room s m ([.ref (ad 0 0), .ref (ad 17 0), .ref (ad 17 1), .ref (ad 17 2), .ref (ad 17 3), .ref (ad 17 4), .ref (ad 17 5), .ref (ad 17 6), .ref (ad 17 7), .ref (ad 17 8), .ref (ad 17 9), .ref (ad 17 10), .int (nI x1)] : List Value).toArray below meth c H locs 780 4680 (vx_MQ below (kQi E G (fun r ad1 ct1 => (r = 1 ∧ ad = ad1) ∧ ∃ S1, ct1 = cto G S1 T o ad ∧ Inv n9 S1 T)) (kXC E G (fun _ _ _ => False)) ([.ref (ad 0 0), .ref (ad 17 0), .ref (ad 17 1), .ref (ad 17 2), .ref (ad 17 3), .ref (ad 17 4), .ref (ad 17 5), .ref (ad 17 6), .ref (ad 17 7), .ref (ad 17 8), .ref (ad 17 9), .ref (ad 17 10), .int (nI x1)] : List Value).toArray s 1000 6000 (kB E.heap.size)) (F0 m 426 ls []) := by
  intro Sr hIr H locs ls X hl
  have hx := Z.1.1
  have hb := Z.1.2.1
  obtain ⟨hS, hL, hK9, hLg, hRp, hlog, hB⟩ := hIr.ok
  have hT := hIr.2.1
  have hN := hS
  obtain ⟨hc0, hc1, hc2, hc3⟩ := hT.c
  have htot := hIr.2.2
  refine lv_iconst (v := 0) hx hb dL_isSo_426 (by decide) ?_
  refine lv_istore (lv' := [(15, .int 0), (13, .int 1), (14, .int (totC Sr 0)), (0, .ref (ad 0 0)), (1, .ref (ad 17 0)), (2, .ref (ad 17 1)), (3, .ref (ad 17 2)), (4, .ref (ad 17 3)), (5, .ref (ad 17 4)), (6, .ref (ad 17 5)), (7, .ref (ad 17 6)), (8, .ref (ad 17 7)), (9, .ref (ad 17 8)), (10, .ref (ad 17 9)), (11, .ref (ad 17 10)), (12, .int (nI x1))]) hx hb dL_isSo_427 hl (by decide) rfl (fun ls hl => ?_)
  have LOOP_429 : ∀ (d : Nat) (i : Nat), i ≤ 6 → 6 < i + d → ∀ (H : Heap) (locs : List Loc) (ls : Array Slot), kX E G s H locs ad (cto G Sr T o ad) → lv_has ls 20 [(15, .int (nI i)), (14, .int (totC Sr i)), (13, .int 1), (0, .ref (ad 0 0)), (1, .ref (ad 17 0)), (2, .ref (ad 17 1)), (3, .ref (ad 17 2)), (4, .ref (ad 17 3)), (5, .ref (ad 17 4)), (6, .ref (ad 17 5)), (7, .ref (ad 17 6)), (8, .ref (ad 17 7)), (9, .ref (ad 17 8)), (10, .ref (ad 17 9)), (11, .ref (ad 17 10)), (12, .int (nI x1))] → W p l e (headSpec (Cond.code yL_isSo cL_isSo 20 (some .boolean) :: wsL_law) ({ frames := 20, cells := 1000, slots := 6000, locals := 500 } : Room)).room s m ([.ref (ad 0 0), .ref (ad 17 0), .ref (ad 17 1), .ref (ad 17 2), .ref (ad 17 3), .ref (ad 17 4), .ref (ad 17 5), .ref (ad 17 6), .ref (ad 17 7), .ref (ad 17 8), .ref (ad 17 9), .ref (ad 17 10), .int (nI x1)] : List Value).toArray below meth c H locs (780 + 2 * i) (4680 + 12 * i) (vx_MQ below (kQi E G (fun r ad1 ct1 => (r = 1 ∧ ad = ad1) ∧ ∃ S1, ct1 = cto G S1 T o ad ∧ Inv n9 S1 T)) (kXC E G (fun _ _ _ => False)) ([.ref (ad 0 0), .ref (ad 17 0), .ref (ad 17 1), .ref (ad 17 2), .ref (ad 17 3), .ref (ad 17 4), .ref (ad 17 5), .ref (ad 17 6), .ref (ad 17 7), .ref (ad 17 8), .ref (ad 17 9), .ref (ad 17 10), .int (nI x1)] : List Value).toArray s 1000 6000 (kB E.heap.size)) (F0 m 429 ls []) := by
    intro d
    induction d with
    | zero => intro i h1 h2; intros; exact absurd h2 (by omega)
    | succ d ih =>
      intro i h1 h2 H locs ls X hl
      refine lv_iload hx hb dL_isSo_429 (lv_at hl 0 rfl) ?_
      refine lv_bipush (v := 6) hx hb dL_isSo_431 (by decide) ?_
      refine lv_icmp_ge (tgt := 478) hx hb dL_isSo_433 (by decide) (fun c_433 => ?_) (fun c_433 => ?_)
      · have c_433 : 6 ≤ i := (nI_leI (a := 6) (b := i) (by omega) (by omega)).mp c_433
        have hn : i = 6 := by omega
        rw [hn] at hl
        refine W.widen (k := 792) (n := 4752) (by omega) (by omega) ?_
        exact t_isSo_478 hE hn9 hx1 Z hr hlocks Sr hIr _ _ _ X (lv_sub hl [2, 1, 3, 4, 5, 6, 7, 8, 9, 10, 11, 12, 13, 14, 15] rfl)
      · have c_433 : ¬ 6 ≤ i := fun h => c_433 ((nI_leI (a := 6) (b := i) (by omega) (by omega)).mpr h)
        refine lv_iload hx hb dL_isSo_436 (lv_at hl 2 rfl) ?_
        refine lv_if_eq (tgt := 478) hx hb dL_isSo_438 (by decide) (fun c_438 => ?_) (fun c_438 => ?_)
        · exact absurd c_438 (by decide)
        · refine lv_aload_n hx hb dL_isSo_441 rfl (lv_at hl 3 rfl) ?_
          refine lv_iload hx hb dL_isSo_442 (lv_at hl 0 rfl) ?_
          refine k_xRi X (k_xrunV (As := [.int (nI i)]) (rest := []) Z X (c_X7_left l E G Sr T o ad (nI i) hE hS hL) (k_cwV 1 Z.1.2.2.2.2 (inU_28 _ (List.mem_of_getElem? (i := 13) rfl)) (inU_28 _ (List.mem_of_getElem? (i := 14) rfl)) (inU_28 _ (List.mem_of_getElem? (i := 15) rfl)) (inU_1 _ (List.mem_of_getElem? (i := 2) rfl)) (inU_28 _ (List.mem_of_getElem? (i := 16) rfl)) rfl rfl (by decide +kernel) ⟨Nat.le_of_ble_eq_true rfl, Nat.le_of_ble_eq_true rfl⟩) (k_recv Z X ct_0 rfl) rfl hl.1 rfl (Nat.le_of_ble_eq_true rfl) dL_isSo_444 ⟨(by show _ ≤ (_ : Nat); simp only [headSpec]; omega), (by show _ ≤ (_ : Nat); simp only [headSpec]; omega)⟩) (fun x ce q9 ad1 ct1 H locs hp X x1 x2 x3 => ?_) (fun r_444 ad1 ct1 H locs hp X => ?_)
          · exact absurd ((cLf_0 (by omega)).symm.trans hp.1.1) (by decide)
          obtain ⟨⟨-, rfl⟩, ha_, hb_⟩ := hp
          rw [← ha_, hb_] at X
          refine lv_topi (fun x_444 e_444 => ?_)
          obtain rfl : x_444 = Sr.1 3 i := e_444.trans (by rw [cl_n (by omega)])
          refine lv_aload hx hb dL_isSo_447 (lv_at hl 9 rfl) ?_
          refine lv_iload hx hb dL_isSo_449 (lv_at hl 0 rfl) ?_
          refine k_ild (ad := ad) (k := 17) (i := 5) Z X ct_17_5 (vp_in_nI (n := i) (by first | assumption | omega) (by decide)) dL_isSo_451 ?_
          refine lv_topi (fun x_451 e_451 => ?_)
          obtain rfl : x_451 = T.1 6 i := e_451.trans (by first | (simp only [nI_clamp (show i < 2 ^ 31 by omega)]; done) | rfl | (simp only [nI_clamp (show i < 2 ^ 31 by omega)]; rfl) | (simp only [nI_clamp (show i < 2 ^ 31 by omega)]; simp [sI, sN]; done))
          refine lv_topi (fun x_451 e_451 => ?_)
          obtain rfl : x_451 = Sr.1 3 i := e_451.trans (hT.b (by omega))
          refine lv_icmp_ne (tgt := 459) hx hb dL_isSo_452 (by decide) (fun c_452 => ?_) (fun c_452 => ?_)
          · exact absurd rfl c_452
          · refine lv_iconst (v := 1) hx hb dL_isSo_455 (by decide) ?_
            refine lv_goto (tgt := 460) hx hb dL_isSo_456 (by decide) ?_
            refine lv_istore (lv' := [(13, .int 1), (15, .int (nI i)), (14, .int (totC Sr i)), (0, .ref (ad 0 0)), (1, .ref (ad 17 0)), (2, .ref (ad 17 1)), (3, .ref (ad 17 2)), (4, .ref (ad 17 3)), (5, .ref (ad 17 4)), (6, .ref (ad 17 5)), (7, .ref (ad 17 6)), (8, .ref (ad 17 7)), (9, .ref (ad 17 8)), (10, .ref (ad 17 9)), (11, .ref (ad 17 10)), (12, .int (nI x1))]) hx hb dL_isSo_460 hl (by decide) rfl (fun ls hl => ?_)
            refine lv_iload hx hb dL_isSo_462 (lv_at hl 2 rfl) ?_
            refine lv_aload hx hb dL_isSo_464 (lv_at hl 9 rfl) ?_
            refine lv_iload hx hb dL_isSo_466 (lv_at hl 1 rfl) ?_
            refine k_ild (ad := ad) (k := 17) (i := 5) Z X ct_17_5 (vp_in_nI (n := i) (by first | assumption | omega) (by decide)) dL_isSo_468 ?_
            refine lv_topi (fun x_468 e_468 => ?_)
            obtain rfl : x_468 = T.1 6 i := e_468.trans (by first | (simp only [nI_clamp (show i < 2 ^ 31 by omega)]; done) | rfl | (simp only [nI_clamp (show i < 2 ^ 31 by omega)]; rfl) | (simp only [nI_clamp (show i < 2 ^ 31 by omega)]; simp [sI, sN]; done))
            refine lv_topi (fun x_468 e_468 => ?_)
            obtain rfl : x_468 = Sr.1 3 i := e_468.trans (hT.b (by omega))
            refine lv_iadd hx hb dL_isSo_469 ?_
            refine lv_topi (fun x_469 e_469 => ?_)
            obtain rfl : x_469 = totC Sr (i + 1) := e_469.trans (totC_s)
            refine lv_istore (lv' := [(14, .int (totC Sr (i + 1))), (13, .int 1), (15, .int (nI i)), (0, .ref (ad 0 0)), (1, .ref (ad 17 0)), (2, .ref (ad 17 1)), (3, .ref (ad 17 2)), (4, .ref (ad 17 3)), (5, .ref (ad 17 4)), (6, .ref (ad 17 5)), (7, .ref (ad 17 6)), (8, .ref (ad 17 7)), (9, .ref (ad 17 8)), (10, .ref (ad 17 9)), (11, .ref (ad 17 10)), (12, .int (nI x1))]) hx hb dL_isSo_470 hl (by decide) rfl (fun ls hl => ?_)
            refine lv_iinc (v := (nI (i + 1))) (lv' := [(15, .int (nI (i + 1))), (14, .int (totC Sr (i + 1))), (13, .int 1), (0, .ref (ad 0 0)), (1, .ref (ad 17 0)), (2, .ref (ad 17 1)), (3, .ref (ad 17 2)), (4, .ref (ad 17 3)), (5, .ref (ad 17 4)), (6, .ref (ad 17 5)), (7, .ref (ad 17 6)), (8, .ref (ad 17 7)), (9, .ref (ad 17 8)), (10, .ref (ad 17 9)), (11, .ref (ad 17 10)), (12, .int (nI x1))]) hx hb dL_isSo_472 hl (k := 2) rfl (nI_1 _) (by decide) rfl (fun ls hl => ?_)
            refine lv_goto (tgt := 429) hx hb dL_isSo_475 (by decide) ?_
            refine W.widen (k := 780 + 2 * (i + 1)) (n := 4680 + 12 * (i + 1)) (by omega) (by omega) ?_
            exact ih (i + 1) (by omega) (by omega) _ _ _ X (lv_sub hl [0, 1, 2, 3, 4, 5, 6, 7, 8, 9, 10, 11, 12, 13, 14, 15] rfl)
  exact LOOP_429 7 0 (Nat.zero_le _) (by omega) _ _ _ X (lv_sub hl [0, 2, 1, 3, 4, 5, 6, 7, 8, 9, 10, 11, 12, 13, 14, 15] rfl)
set_option maxHeartbeats 4000000 in
set_option maxRecDepth 100000 in
theorem t_isSo_299 {p : Program} {l : Launch} {e : Env} {s : State} {m : MethodId} {below : List Frame} {meth : Method} {c : Code} {E : State} {G : kG} {T : kSt} {o : Int64} {ad : kAd} {n9 x1 : Nat} (hE : kE l E G) (hn9 : n9 ≤ 200) (hx1 : x1 < 60000) (Z : kZ p m c cL_isSo 20 s ([.ref (ad 0 0), .ref (ad 17 0), .ref (ad 17 1), .ref (ad 17 2), .ref (ad 17 3), .ref (ad 17 4), .ref (ad 17 5), .ref (ad 17 6), .ref (ad 17 7), .ref (ad 17 8), .ref (ad 17 9), .ref (ad 17 10), .int (nI x1)] : List Value).toArray wsL_law RL E G) (hr : meth.sig.returnType = some .boolean) (hlocks : meth.locks = false) : ∀ (Sr : kSt), (Inv n9 Sr T) → ∀ (H : Heap) (locs : List Loc) (ls : Array Slot), kX E G s H locs ad (cto G Sr T o ad) → lv_has ls 20 [(13, .int 1), (14, .int 0), (0, .ref (ad 0 0)), (1, .ref (ad 17 0)), (2, .ref (ad 17 1)), (3, .ref (ad 17 2)), (4, .ref (ad 17 3)), (5, .ref (ad 17 4)), (6, .ref (ad 17 5)), (7, .ref (ad 17 6)), (8, .ref (ad 17 7)), (9, .ref (ad 17 8)), (10, .ref (ad 17 9)), (11, .ref (ad 17 10)), (12, .int (nI x1))] → W p l e (headSpec (Cond.code yL_isSo cL_isSo 20 (some .boolean) :: wsL_law) ({ frames := 20, cells := 1000, slots := 6000, locals := 500 } : Room)).room s m ([.ref (ad 0 0), .ref (ad 17 0), .ref (ad 17 1), .ref (ad 17 2), .ref (ad 17 3), .ref (ad 17 4), .ref (ad 17 5), .ref (ad 17 6), .ref (ad 17 7), .ref (ad 17 8), .ref (ad 17 9), .ref (ad 17 10), .int (nI x1)] : List Value).toArray below meth c H locs 540 3240 (vx_MQ below (kQi E G (fun r ad1 ct1 => (r = 1 ∧ ad = ad1) ∧ ∃ S1, ct1 = cto G S1 T o ad ∧ Inv n9 S1 T)) (kXC E G (fun _ _ _ => False)) ([.ref (ad 0 0), .ref (ad 17 0), .ref (ad 17 1), .ref (ad 17 2), .ref (ad 17 3), .ref (ad 17 4), .ref (ad 17 5), .ref (ad 17 6), .ref (ad 17 7), .ref (ad 17 8), .ref (ad 17 9), .ref (ad 17 10), .int (nI x1)] : List Value).toArray s 1000 6000 (kB E.heap.size)) (F0 m 299 ls []) := by
  intro Sr hIr H locs ls X hl
  have hx := Z.1.1
  have hb := Z.1.2.1
  obtain ⟨hS, hL, hK9, hLg, hRp, hlog, hB⟩ := hIr.ok
  have hT := hIr.2.1
  have hN := hS
  obtain ⟨hc0, hc1, hc2, hc3⟩ := hT.c
  have htot := hIr.2.2
  refine lv_iconst (v := 0) hx hb dL_isSo_299 (by decide) ?_
  refine lv_istore (lv' := [(15, .int 0), (13, .int 1), (14, .int 0), (0, .ref (ad 0 0)), (1, .ref (ad 17 0)), (2, .ref (ad 17 1)), (3, .ref (ad 17 2)), (4, .ref (ad 17 3)), (5, .ref (ad 17 4)), (6, .ref (ad 17 5)), (7, .ref (ad 17 6)), (8, .ref (ad 17 7)), (9, .ref (ad 17 8)), (10, .ref (ad 17 9)), (11, .ref (ad 17 10)), (12, .int (nI x1))]) hx hb dL_isSo_300 hl (by decide) rfl (fun ls hl => ?_)
  have LOOP_302 : ∀ (d : Nat) (i : Nat), i ≤ Sr.2 0 2 → Sr.2 0 2 < i + d → ∀ (H : Heap) (locs : List Loc) (ls : Array Slot), kX E G s H locs ad (cto G Sr T o ad) → lv_has ls 20 [(15, .int (nI i)), (14, .int (spS Sr i)), (13, .int 1), (0, .ref (ad 0 0)), (1, .ref (ad 17 0)), (2, .ref (ad 17 1)), (3, .ref (ad 17 2)), (4, .ref (ad 17 3)), (5, .ref (ad 17 4)), (6, .ref (ad 17 5)), (7, .ref (ad 17 6)), (8, .ref (ad 17 7)), (9, .ref (ad 17 8)), (10, .ref (ad 17 9)), (11, .ref (ad 17 10)), (12, .int (nI x1))] → W p l e (headSpec (Cond.code yL_isSo cL_isSo 20 (some .boolean) :: wsL_law) ({ frames := 20, cells := 1000, slots := 6000, locals := 500 } : Room)).room s m ([.ref (ad 0 0), .ref (ad 17 0), .ref (ad 17 1), .ref (ad 17 2), .ref (ad 17 3), .ref (ad 17 4), .ref (ad 17 5), .ref (ad 17 6), .ref (ad 17 7), .ref (ad 17 8), .ref (ad 17 9), .ref (ad 17 10), .int (nI x1)] : List Value).toArray below meth c H locs (540 + 8 * i) (3240 + 48 * i) (vx_MQ below (kQi E G (fun r ad1 ct1 => (r = 1 ∧ ad = ad1) ∧ ∃ S1, ct1 = cto G S1 T o ad ∧ Inv n9 S1 T)) (kXC E G (fun _ _ _ => False)) ([.ref (ad 0 0), .ref (ad 17 0), .ref (ad 17 1), .ref (ad 17 2), .ref (ad 17 3), .ref (ad 17 4), .ref (ad 17 5), .ref (ad 17 6), .ref (ad 17 7), .ref (ad 17 8), .ref (ad 17 9), .ref (ad 17 10), .int (nI x1)] : List Value).toArray s 1000 6000 (kB E.heap.size)) (F0 m 302 ls []) := by
    intro d
    induction d with
    | zero => intro i h1 h2; intros; exact absurd h2 (by omega)
    | succ d ih =>
      intro i h1 h2 H locs ls X hl
      refine lv_iload hx hb dL_isSo_302 (lv_at hl 0 rfl) ?_
      refine lv_aload hx hb dL_isSo_304 (lv_at hl 14 rfl) ?_
      refine lv_iconst (v := 3) hx hb dL_isSo_306 (by decide) ?_
      refine k_ild (ad := ad) (k := 17) (i := 10) Z X ct_17_10 (vp_in_nI (n := 3) (by first | assumption | omega) (by decide)) dL_isSo_307 ?_
      refine lv_topi (fun x_307 e_307 => ?_)
      obtain rfl : x_307 = T.1 11 3 := e_307.trans (by first | (simp only [nI_clamp (show 3 < 2 ^ 31 by omega)]; done) | rfl | (simp only [nI_clamp (show 3 < 2 ^ 31 by omega)]; rfl) | (simp only [nI_clamp (show 3 < 2 ^ 31 by omega)]; simp [sI, sN]; done))
      refine lv_topi (fun x_307 e_307 => ?_)
      obtain rfl : x_307 = nI (Sr.2 0 2) := e_307.trans (hT.g3)
      refine lv_icmp_ge (tgt := 426) hx hb dL_isSo_308 (by decide) (fun c_308 => ?_) (fun c_308 => ?_)
      · have c_308 : Sr.2 0 2 ≤ i := (nI_leI (a := Sr.2 0 2) (b := i) (by omega) (by omega)).mp c_308
        have hn : i = Sr.2 0 2 := by omega
        rw [hn, totC_0] at hl
        refine W.widen (k := 780) (n := 4680) (by omega) (by omega) ?_
        exact t_isSo_426 hE hn9 hx1 Z hr hlocks Sr hIr _ _ _ X (lv_sub hl [2, 1, 3, 4, 5, 6, 7, 8, 9, 10, 11, 12, 13, 14, 15] rfl)
      · have c_308 : ¬ Sr.2 0 2 ≤ i := fun h => c_308 ((nI_leI (a := Sr.2 0 2) (b := i) (by omega) (by omega)).mpr h)
        have hsi := hT.ss hN (j := i) (by omega)
        have hsi1 := hsi.1
        have hsm := hN.2.2.2.2.2.1 i (by omega)
        refine lv_iload hx hb dL_isSo_311 (lv_at hl 2 rfl) ?_
        refine lv_if_eq (tgt := 426) hx hb dL_isSo_313 (by decide) (fun c_313 => ?_) (fun c_313 => ?_)
        · exact absurd c_313 (by decide)
        · refine lv_aload_n hx hb dL_isSo_316 rfl (lv_at hl 3 rfl) ?_
          refine lv_iload hx hb dL_isSo_317 (lv_at hl 0 rfl) ?_
          refine lv_iconst (v := 0) hx hb dL_isSo_319 (by decide) ?_
          refine k_xRi X (k_xrunV (As := [.int (nI i), .int 0]) (rest := []) Z X (c_X7_spendOf l E G Sr T o ad (nI i) 0 hE hS hL) (k_cwV 2 Z.1.2.2.2.2 (inU_25 _ (List.mem_of_getElem? (i := 22) rfl)) (inU_25 _ (List.mem_of_getElem? (i := 23) rfl)) (inU_26 _ (List.mem_of_getElem? (i := 0) rfl)) (inU_1 _ (List.mem_of_getElem? (i := 2) rfl)) (inU_26 _ (List.mem_of_getElem? (i := 1) rfl)) rfl rfl (by decide +kernel) ⟨Nat.le_of_ble_eq_true rfl, Nat.le_of_ble_eq_true rfl⟩) (k_recv Z X ct_0 rfl) rfl hl.1 rfl (Nat.le_of_ble_eq_true rfl) dL_isSo_320 ⟨(by show _ ≤ (_ : Nat); simp only [headSpec]; omega), (by show _ ≤ (_ : Nat); simp only [headSpec]; omega)⟩) (fun x ce q9 ad1 ct1 H locs hp X x1 x2 x3 => ?_) (fun r_320 ad1 ct1 H locs hp X => ?_)
          · rcases hp.1 with z | z <;> exact absurd ((cSp_0 (by omega) (by omega) (by decide)).symm.trans z.1) (by decide)
          obtain ⟨⟨-, rfl⟩, ha_, hb_⟩ := hp
          rw [← ha_, hb_] at X
          refine lv_topi (fun x_320 e_320 => ?_)
          obtain rfl : x_320 = Sr.1 12 i := e_320.trans (rS0 (by omega))
          refine lv_aload hx hb dL_isSo_323 (lv_at hl 10 rfl) ?_
          refine lv_iload hx hb dL_isSo_325 (lv_at hl 0 rfl) ?_
          refine k_ild (ad := ad) (k := 17) (i := 6) Z X ct_17_6 (vp_in_nI (n := i) (by first | assumption | omega) (by decide)) dL_isSo_327 ?_
          refine lv_topi (fun x_327 e_327 => ?_)
          obtain rfl : x_327 = T.1 7 i := e_327.trans (by first | (simp only [nI_clamp (show i < 2 ^ 31 by omega)]; done) | rfl | (simp only [nI_clamp (show i < 2 ^ 31 by omega)]; rfl) | (simp only [nI_clamp (show i < 2 ^ 31 by omega)]; simp [sI, sN]; done))
          refine lv_topi (fun x_327 e_327 => ?_)
          obtain rfl : x_327 = nI (encs Sr i) := e_327.trans (hT.s (by omega))
          refine lv_ldc (v := 65536) hx hb Z.1.2.2.2.1 (Z.1.2.2.2.2 _ (inU_28 _ (List.mem_of_getElem? (i := 8) rfl))) dL_isSo_328 ?_
          refine lv_idiv hx hb dL_isSo_330 (by decide) ?_
          refine lv_topi (fun x_330 e_330 => ?_)
          obtain rfl : x_330 = Sr.1 12 i := e_330.trans ((pk_div (a := (encs Sr i)) (d := 65536) (by have := (hT.ss hN (j := i) (by omega)).1; omega) (by omega) (by omega)).trans ((hT.ss hN (j := i) (by omega)).2.2.1))
          refine lv_icmp_ne (tgt := 393) hx hb dL_isSo_331 (by decide) (fun c_331 => ?_) (fun c_331 => ?_)
          · exact absurd rfl c_331
          · refine lv_aload_n hx hb dL_isSo_334 rfl (lv_at hl 3 rfl) ?_
            refine lv_iload hx hb dL_isSo_335 (lv_at hl 0 rfl) ?_
            refine lv_iconst (v := 1) hx hb dL_isSo_337 (by decide) ?_
            refine k_xRi X (k_xrunV (As := [.int (nI i), .int 1]) (rest := []) Z X (c_X7_spendOf l E G Sr T o ad (nI i) 1 hE hS hL) (k_cwV 2 Z.1.2.2.2.2 (inU_25 _ (List.mem_of_getElem? (i := 22) rfl)) (inU_25 _ (List.mem_of_getElem? (i := 23) rfl)) (inU_26 _ (List.mem_of_getElem? (i := 0) rfl)) (inU_1 _ (List.mem_of_getElem? (i := 2) rfl)) (inU_26 _ (List.mem_of_getElem? (i := 1) rfl)) rfl rfl (by decide +kernel) ⟨Nat.le_of_ble_eq_true rfl, Nat.le_of_ble_eq_true rfl⟩) (k_recv Z X ct_0 rfl) rfl hl.1 rfl (Nat.le_of_ble_eq_true rfl) dL_isSo_338 ⟨(by show _ ≤ (_ : Nat); simp only [headSpec]; omega), (by show _ ≤ (_ : Nat); simp only [headSpec]; omega)⟩) (fun x ce q9 ad1 ct1 H locs hp X x1 x2 x3 => ?_) (fun r_338 ad1 ct1 H locs hp X => ?_)
            · rcases hp.1 with z | z <;> exact absurd ((cSp_0 (by omega) (by omega) (by decide)).symm.trans z.1) (by decide)
            obtain ⟨⟨-, rfl⟩, ha_, hb_⟩ := hp
            rw [← ha_, hb_] at X
            refine lv_topi (fun x_338 e_338 => ?_)
            obtain rfl : x_338 = nI (Sr.2 3 i) := e_338.trans (rS1 (by omega))
            refine lv_aload hx hb dL_isSo_341 (lv_at hl 10 rfl) ?_
            refine lv_iload hx hb dL_isSo_343 (lv_at hl 0 rfl) ?_
            refine k_ild (ad := ad) (k := 17) (i := 6) Z X ct_17_6 (vp_in_nI (n := i) (by first | assumption | omega) (by decide)) dL_isSo_345 ?_
            refine lv_topi (fun x_345 e_345 => ?_)
            obtain rfl : x_345 = T.1 7 i := e_345.trans (by first | (simp only [nI_clamp (show i < 2 ^ 31 by omega)]; done) | rfl | (simp only [nI_clamp (show i < 2 ^ 31 by omega)]; rfl) | (simp only [nI_clamp (show i < 2 ^ 31 by omega)]; simp [sI, sN]; done))
            refine lv_topi (fun x_345 e_345 => ?_)
            obtain rfl : x_345 = nI (encs Sr i) := e_345.trans (hT.s (by omega))
            refine lv_bipush (v := 64) hx hb dL_isSo_346 (by decide) ?_
            refine lv_irem hx hb dL_isSo_348 (by decide) ?_
            refine lv_topi (fun x_348 e_348 => ?_)
            obtain rfl : x_348 = nI (Sr.2 3 i) := e_348.trans ((pk_rem (a := (encs Sr i)) (d := 64) (by have := (hT.ss hN (j := i) (by omega)).1; omega) (by omega) (by omega)).trans (congrArg nI (hT.ss hN (j := i) (by omega)).2.1))
            refine lv_icmp_ne (tgt := 393) hx hb dL_isSo_349 (by decide) (fun c_349 => ?_) (fun c_349 => ?_)
            · exact absurd rfl c_349
            · refine lv_aload_n hx hb dL_isSo_352 rfl (lv_at hl 3 rfl) ?_
              refine lv_iload hx hb dL_isSo_353 (lv_at hl 0 rfl) ?_
              refine lv_iconst (v := 2) hx hb dL_isSo_355 (by decide) ?_
              refine k_xRi X (k_xrunV (As := [.int (nI i), .int 2]) (rest := []) Z X (c_X7_spendOf l E G Sr T o ad (nI i) 2 hE hS hL) (k_cwV 2 Z.1.2.2.2.2 (inU_25 _ (List.mem_of_getElem? (i := 22) rfl)) (inU_25 _ (List.mem_of_getElem? (i := 23) rfl)) (inU_26 _ (List.mem_of_getElem? (i := 0) rfl)) (inU_1 _ (List.mem_of_getElem? (i := 2) rfl)) (inU_26 _ (List.mem_of_getElem? (i := 1) rfl)) rfl rfl (by decide +kernel) ⟨Nat.le_of_ble_eq_true rfl, Nat.le_of_ble_eq_true rfl⟩) (k_recv Z X ct_0 rfl) rfl hl.1 rfl (Nat.le_of_ble_eq_true rfl) dL_isSo_356 ⟨(by show _ ≤ (_ : Nat); simp only [headSpec]; omega), (by show _ ≤ (_ : Nat); simp only [headSpec]; omega)⟩) (fun x ce q9 ad1 ct1 H locs hp X x1 x2 x3 => ?_) (fun r_356 ad1 ct1 H locs hp X => ?_)
              · rcases hp.1 with z | z <;> exact absurd ((cSp_0 (by omega) (by omega) (by decide)).symm.trans z.1) (by decide)
              obtain ⟨⟨-, rfl⟩, ha_, hb_⟩ := hp
              rw [← ha_, hb_] at X
              refine lv_topi (fun x_356 e_356 => ?_)
              obtain rfl : x_356 = Sr.1 10 i := e_356.trans (rS2 (by omega))
              refine lv_aload hx hb dL_isSo_359 (lv_at hl 10 rfl) ?_
              refine lv_iload hx hb dL_isSo_361 (lv_at hl 0 rfl) ?_
              refine k_ild (ad := ad) (k := 17) (i := 6) Z X ct_17_6 (vp_in_nI (n := i) (by first | assumption | omega) (by decide)) dL_isSo_363 ?_
              refine lv_topi (fun x_363 e_363 => ?_)
              obtain rfl : x_363 = T.1 7 i := e_363.trans (by first | (simp only [nI_clamp (show i < 2 ^ 31 by omega)]; done) | rfl | (simp only [nI_clamp (show i < 2 ^ 31 by omega)]; rfl) | (simp only [nI_clamp (show i < 2 ^ 31 by omega)]; simp [sI, sN]; done))
              refine lv_topi (fun x_363 e_363 => ?_)
              obtain rfl : x_363 = nI (encs Sr i) := e_363.trans (hT.s (by omega))
              refine lv_bipush (v := 64) hx hb dL_isSo_364 (by decide) ?_
              refine lv_idiv hx hb dL_isSo_366 (by decide) ?_
              refine lv_topi (fun x_366 e_366 => ?_)
              obtain rfl : x_366 = nI ((encs Sr i) / 64) := e_366.trans ((pk_div (a := (encs Sr i)) (d := 64) (by have := (hT.ss hN (j := i) (by omega)).1; omega) (by omega) (by omega)))
              refine lv_sipush (v := 1024) hx hb dL_isSo_367 (by decide) ?_
              refine lv_irem hx hb dL_isSo_370 (by decide) ?_
              refine lv_topi (fun x_370 e_370 => ?_)
              obtain rfl : x_370 = Sr.1 10 i := e_370.trans ((pk_rem (a := ((encs Sr i) / 64)) (d := 1024) (by have := (hT.ss hN (j := i) (by omega)).1; omega) (by omega) (by omega)).trans ((hT.ss hN (j := i) (by omega)).2.2.2.2.1))
              refine lv_icmp_ne (tgt := 393) hx hb dL_isSo_371 (by decide) (fun c_371 => ?_) (fun c_371 => ?_)
              · exact absurd rfl c_371
              · refine lv_aload_n hx hb dL_isSo_374 rfl (lv_at hl 3 rfl) ?_
                refine lv_iload hx hb dL_isSo_375 (lv_at hl 0 rfl) ?_
                refine lv_iconst (v := 3) hx hb dL_isSo_377 (by decide) ?_
                refine k_xRi X (k_xrunV (As := [.int (nI i), .int 3]) (rest := []) Z X (c_X7_spendOf l E G Sr T o ad (nI i) 3 hE hS hL) (k_cwV 2 Z.1.2.2.2.2 (inU_25 _ (List.mem_of_getElem? (i := 22) rfl)) (inU_25 _ (List.mem_of_getElem? (i := 23) rfl)) (inU_26 _ (List.mem_of_getElem? (i := 0) rfl)) (inU_1 _ (List.mem_of_getElem? (i := 2) rfl)) (inU_26 _ (List.mem_of_getElem? (i := 1) rfl)) rfl rfl (by decide +kernel) ⟨Nat.le_of_ble_eq_true rfl, Nat.le_of_ble_eq_true rfl⟩) (k_recv Z X ct_0 rfl) rfl hl.1 rfl (Nat.le_of_ble_eq_true rfl) dL_isSo_378 ⟨(by show _ ≤ (_ : Nat); simp only [headSpec]; omega), (by show _ ≤ (_ : Nat); simp only [headSpec]; omega)⟩) (fun x ce q9 ad1 ct1 H locs hp X x1 x2 x3 => ?_) (fun r_378 ad1 ct1 H locs hp X => ?_)
                · rcases hp.1 with z | z <;> exact absurd ((cSp_0 (by omega) (by omega) (by decide)).symm.trans z.1) (by decide)
                obtain ⟨⟨-, rfl⟩, ha_, hb_⟩ := hp
                rw [← ha_, hb_] at X
                refine lv_topi (fun x_378 e_378 => ?_)
                obtain rfl : x_378 = Sr.1 11 i := e_378.trans (rS3 (by omega))
                refine lv_aload hx hb dL_isSo_381 (lv_at hl 11 rfl) ?_
                refine lv_iload hx hb dL_isSo_383 (lv_at hl 0 rfl) ?_
                refine k_ild (ad := ad) (k := 17) (i := 7) Z X ct_17_7 (vp_in_nI (n := i) (by first | assumption | omega) (by decide)) dL_isSo_385 ?_
                refine lv_topi (fun x_385 e_385 => ?_)
                obtain rfl : x_385 = T.1 8 i := e_385.trans (by first | (simp only [nI_clamp (show i < 2 ^ 31 by omega)]; done) | rfl | (simp only [nI_clamp (show i < 2 ^ 31 by omega)]; rfl) | (simp only [nI_clamp (show i < 2 ^ 31 by omega)]; simp [sI, sN]; done))
                refine lv_topi (fun x_385 e_385 => ?_)
                obtain rfl : x_385 = Sr.1 11 i := e_385.trans (hT.a (by omega))
                refine lv_icmp_ne (tgt := 393) hx hb dL_isSo_386 (by decide) (fun c_386 => ?_) (fun c_386 => ?_)
                · exact absurd rfl c_386
                · refine lv_iconst (v := 1) hx hb dL_isSo_389 (by decide) ?_
                  refine lv_goto (tgt := 394) hx hb dL_isSo_390 (by decide) ?_
                  refine lv_istore (lv' := [(13, .int 1), (15, .int (nI i)), (14, .int (spS Sr i)), (0, .ref (ad 0 0)), (1, .ref (ad 17 0)), (2, .ref (ad 17 1)), (3, .ref (ad 17 2)), (4, .ref (ad 17 3)), (5, .ref (ad 17 4)), (6, .ref (ad 17 5)), (7, .ref (ad 17 6)), (8, .ref (ad 17 7)), (9, .ref (ad 17 8)), (10, .ref (ad 17 9)), (11, .ref (ad 17 10)), (12, .int (nI x1))]) hx hb dL_isSo_394 hl (by decide) rfl (fun ls hl => ?_)
                  refine lv_iload hx hb dL_isSo_396 (lv_at hl 2 rfl) ?_
                  have M_417 : ∀ (H : Heap) (locs : List Loc), kX E G s H locs ad (cto G Sr T o ad) → W p l e (headSpec (Cond.code yL_isSo cL_isSo 20 (some .boolean) :: wsL_law) ({ frames := 20, cells := 1000, slots := 6000, locals := 500 } : Room)).room s m ([.ref (ad 0 0), .ref (ad 17 0), .ref (ad 17 1), .ref (ad 17 2), .ref (ad 17 3), .ref (ad 17 4), .ref (ad 17 5), .ref (ad 17 6), .ref (ad 17 7), .ref (ad 17 8), .ref (ad 17 9), .ref (ad 17 10), .int (nI x1)] : List Value).toArray below meth c H locs (540 + 8 * i + 2 + 2 + 2 + 2) (3240 + 48 * i + 12 + 12 + 12 + 12) (vx_MQ below (kQi E G (fun r ad1 ct1 => (r = 1 ∧ ad = ad1) ∧ ∃ S1, ct1 = cto G S1 T o ad ∧ Inv n9 S1 T)) (kXC E G (fun _ _ _ => False)) ([.ref (ad 0 0), .ref (ad 17 0), .ref (ad 17 1), .ref (ad 17 2), .ref (ad 17 3), .ref (ad 17 4), .ref (ad 17 5), .ref (ad 17 6), .ref (ad 17 7), .ref (ad 17 8), .ref (ad 17 9), .ref (ad 17 10), .int (nI x1)] : List Value).toArray s 1000 6000 (kB E.heap.size)) (F0 m 417 ls [.int (if Sr.1 12 i = 0 then Sr.1 11 i else 0), .int (spS Sr i)]) := by
                    intro H locs X
                    refine lv_iadd hx hb dL_isSo_417 ?_
                    refine lv_topi (fun x_417 e_417 => ?_)
                    obtain rfl : x_417 = spS Sr (i + 1) := e_417.trans (rfl)
                    refine lv_istore (lv' := [(14, .int (spS Sr (i + 1))), (13, .int 1), (15, .int (nI i)), (0, .ref (ad 0 0)), (1, .ref (ad 17 0)), (2, .ref (ad 17 1)), (3, .ref (ad 17 2)), (4, .ref (ad 17 3)), (5, .ref (ad 17 4)), (6, .ref (ad 17 5)), (7, .ref (ad 17 6)), (8, .ref (ad 17 7)), (9, .ref (ad 17 8)), (10, .ref (ad 17 9)), (11, .ref (ad 17 10)), (12, .int (nI x1))]) hx hb dL_isSo_418 hl (by decide) rfl (fun ls hl => ?_)
                    refine lv_iinc (v := (nI (i + 1))) (lv' := [(15, .int (nI (i + 1))), (14, .int (spS Sr (i + 1))), (13, .int 1), (0, .ref (ad 0 0)), (1, .ref (ad 17 0)), (2, .ref (ad 17 1)), (3, .ref (ad 17 2)), (4, .ref (ad 17 3)), (5, .ref (ad 17 4)), (6, .ref (ad 17 5)), (7, .ref (ad 17 6)), (8, .ref (ad 17 7)), (9, .ref (ad 17 8)), (10, .ref (ad 17 9)), (11, .ref (ad 17 10)), (12, .int (nI x1))]) hx hb dL_isSo_420 hl (k := 2) rfl (nI_1 _) (by decide) rfl (fun ls hl => ?_)
                    refine lv_goto (tgt := 302) hx hb dL_isSo_423 (by decide) ?_
                    refine W.widen (k := 540 + 8 * (i + 1)) (n := 3240 + 48 * (i + 1)) (by omega) (by omega) ?_
                    exact ih (i + 1) (by omega) (by omega) _ _ _ X (lv_sub hl [0, 1, 2, 3, 4, 5, 6, 7, 8, 9, 10, 11, 12, 13, 14, 15] rfl)
                  refine lv_aload hx hb dL_isSo_398 (lv_at hl 10 rfl) ?_
                  refine lv_iload hx hb dL_isSo_400 (lv_at hl 1 rfl) ?_
                  refine k_ild (ad := ad) (k := 17) (i := 6) Z X ct_17_6 (vp_in_nI (n := i) (by first | assumption | omega) (by decide)) dL_isSo_402 ?_
                  refine lv_topi (fun x_402 e_402 => ?_)
                  obtain rfl : x_402 = T.1 7 i := e_402.trans (by first | (simp only [nI_clamp (show i < 2 ^ 31 by omega)]; done) | rfl | (simp only [nI_clamp (show i < 2 ^ 31 by omega)]; rfl) | (simp only [nI_clamp (show i < 2 ^ 31 by omega)]; simp [sI, sN]; done))
                  refine lv_topi (fun x_402 e_402 => ?_)
                  obtain rfl : x_402 = nI (encs Sr i) := e_402.trans (hT.s (by omega))
                  refine lv_ldc (v := 65536) hx hb Z.1.2.2.2.1 (Z.1.2.2.2.2 _ (inU_28 _ (List.mem_of_getElem? (i := 8) rfl))) dL_isSo_403 ?_
                  refine lv_icmp_ge (tgt := 416) hx hb dL_isSo_405 (by decide) (fun c_405 => ?_) (fun c_405 => ?_)
                  · have c_405 : 65536 ≤ encs Sr i := (nI_leI (a := 65536) (b := encs Sr i) (by omega) (by omega)).mp c_405
                    have s_405 : ¬ Sr.1 12 i = 0 := fun z => absurd (hsi.2.2.2.1.mpr z) (by omega)
                    refine lv_iconst (v := 0) hx hb dL_isSo_416 (by decide) ?_
                    exact W.eq (congrArg (fun z => F0 m 417 ls (.int z :: [.int (spS Sr i)])) ((if_neg s_405).symm)) (M_417 _ _ X)
                  · have c_405 : ¬ 65536 ≤ encs Sr i := fun h => c_405 ((nI_leI (a := 65536) (b := encs Sr i) (by omega) (by omega)).mpr h)
                    have s_405 : Sr.1 12 i = 0 := hsi.2.2.2.1.mp (by omega)
                    refine lv_aload hx hb dL_isSo_408 (lv_at hl 11 rfl) ?_
                    refine lv_iload hx hb dL_isSo_410 (lv_at hl 1 rfl) ?_
                    refine k_ild (ad := ad) (k := 17) (i := 7) Z X ct_17_7 (vp_in_nI (n := i) (by first | assumption | omega) (by decide)) dL_isSo_412 ?_
                    refine lv_topi (fun x_412 e_412 => ?_)
                    obtain rfl : x_412 = T.1 8 i := e_412.trans (by first | (simp only [nI_clamp (show i < 2 ^ 31 by omega)]; done) | rfl | (simp only [nI_clamp (show i < 2 ^ 31 by omega)]; rfl) | (simp only [nI_clamp (show i < 2 ^ 31 by omega)]; simp [sI, sN]; done))
                    refine lv_topi (fun x_412 e_412 => ?_)
                    obtain rfl : x_412 = Sr.1 11 i := e_412.trans (hT.a (by omega))
                    refine lv_goto (tgt := 417) hx hb dL_isSo_413 (by decide) ?_
                    exact W.eq (congrArg (fun z => F0 m 417 ls (.int z :: [.int (spS Sr i)])) ((if_pos s_405).symm)) (M_417 _ _ X)
  exact LOOP_302 (Sr.2 0 2 + 1) 0 (Nat.zero_le _) (by omega) _ _ _ X (lv_sub hl [0, 2, 1, 3, 4, 5, 6, 7, 8, 9, 10, 11, 12, 13, 14, 15] rfl)
set_option maxHeartbeats 4000000 in
set_option maxRecDepth 100000 in
theorem t_isSo_191 {p : Program} {l : Launch} {e : Env} {s : State} {m : MethodId} {below : List Frame} {meth : Method} {c : Code} {E : State} {G : kG} {T : kSt} {o : Int64} {ad : kAd} {n9 x1 : Nat} (hE : kE l E G) (hn9 : n9 ≤ 200) (hx1 : x1 < 60000) (Z : kZ p m c cL_isSo 20 s ([.ref (ad 0 0), .ref (ad 17 0), .ref (ad 17 1), .ref (ad 17 2), .ref (ad 17 3), .ref (ad 17 4), .ref (ad 17 5), .ref (ad 17 6), .ref (ad 17 7), .ref (ad 17 8), .ref (ad 17 9), .ref (ad 17 10), .int (nI x1)] : List Value).toArray wsL_law RL E G) (hr : meth.sig.returnType = some .boolean) (hlocks : meth.locks = false) : ∀ (Sr : kSt), (Inv n9 Sr T) → ∀ (H : Heap) (locs : List Loc) (ls : Array Slot), kX E G s H locs ad (cto G Sr T o ad) → lv_has ls 20 [(13, .int 1), (14, .int 0), (0, .ref (ad 0 0)), (1, .ref (ad 17 0)), (2, .ref (ad 17 1)), (3, .ref (ad 17 2)), (4, .ref (ad 17 3)), (5, .ref (ad 17 4)), (6, .ref (ad 17 5)), (7, .ref (ad 17 6)), (8, .ref (ad 17 7)), (9, .ref (ad 17 8)), (10, .ref (ad 17 9)), (11, .ref (ad 17 10)), (12, .int (nI x1))] → W p l e (headSpec (Cond.code yL_isSo cL_isSo 20 (some .boolean) :: wsL_law) ({ frames := 20, cells := 1000, slots := 6000, locals := 500 } : Room)).room s m ([.ref (ad 0 0), .ref (ad 17 0), .ref (ad 17 1), .ref (ad 17 2), .ref (ad 17 3), .ref (ad 17 4), .ref (ad 17 5), .ref (ad 17 6), .ref (ad 17 7), .ref (ad 17 8), .ref (ad 17 9), .ref (ad 17 10), .int (nI x1)] : List Value).toArray below meth c H locs 420 2520 (vx_MQ below (kQi E G (fun r ad1 ct1 => (r = 1 ∧ ad = ad1) ∧ ∃ S1, ct1 = cto G S1 T o ad ∧ Inv n9 S1 T)) (kXC E G (fun _ _ _ => False)) ([.ref (ad 0 0), .ref (ad 17 0), .ref (ad 17 1), .ref (ad 17 2), .ref (ad 17 3), .ref (ad 17 4), .ref (ad 17 5), .ref (ad 17 6), .ref (ad 17 7), .ref (ad 17 8), .ref (ad 17 9), .ref (ad 17 10), .int (nI x1)] : List Value).toArray s 1000 6000 (kB E.heap.size)) (F0 m 191 ls []) := by
  intro Sr hIr H locs ls X hl
  have hx := Z.1.1
  have hb := Z.1.2.1
  obtain ⟨hS, hL, hK9, hLg, hRp, hlog, hB⟩ := hIr.ok
  have hT := hIr.2.1
  have hN := hS
  obtain ⟨hc0, hc1, hc2, hc3⟩ := hT.c
  have htot := hIr.2.2
  refine lv_iload hx hb dL_isSo_191 (lv_at hl 14 rfl) ?_
  refine lv_iconst (v := 2) hx hb dL_isSo_193 (by decide) ?_
  refine lv_irem hx hb dL_isSo_194 (by decide) ?_
  refine lv_topi (fun x_194 e_194 => ?_)
  obtain rfl : x_194 = nI (x1 % 2) := e_194.trans ((pk_rem (a := x1) (d := 2) (by omega) (by omega) (by omega)))
  refine lv_istore (lv' := [(15, .int (nI (x1 % 2))), (13, .int 1), (14, .int 0), (0, .ref (ad 0 0)), (1, .ref (ad 17 0)), (2, .ref (ad 17 1)), (3, .ref (ad 17 2)), (4, .ref (ad 17 3)), (5, .ref (ad 17 4)), (6, .ref (ad 17 5)), (7, .ref (ad 17 6)), (8, .ref (ad 17 7)), (9, .ref (ad 17 8)), (10, .ref (ad 17 9)), (11, .ref (ad 17 10)), (12, .int (nI x1))]) hx hb dL_isSo_195 hl (by decide) rfl (fun ls hl => ?_)
  have LOOP_197 : ∀ (d : Nat) (i : Nat) (q : Nat), i ≤ 31 → 2 * q ≤ i → 31 < i + d → ∀ (H : Heap) (locs : List Loc) (ls : Array Slot), kX E G s H locs ad (cto G Sr T o ad) → lv_has ls 20 [(15, .int (nI i)), (13, .int 1), (14, .int 0), (0, .ref (ad 0 0)), (1, .ref (ad 17 0)), (2, .ref (ad 17 1)), (3, .ref (ad 17 2)), (4, .ref (ad 17 3)), (5, .ref (ad 17 4)), (6, .ref (ad 17 5)), (7, .ref (ad 17 6)), (8, .ref (ad 17 7)), (9, .ref (ad 17 8)), (10, .ref (ad 17 9)), (11, .ref (ad 17 10)), (12, .int (nI x1))] → W p l e (headSpec (Cond.code yL_isSo cL_isSo 20 (some .boolean) :: wsL_law) ({ frames := 20, cells := 1000, slots := 6000, locals := 500 } : Room)).room s m ([.ref (ad 0 0), .ref (ad 17 0), .ref (ad 17 1), .ref (ad 17 2), .ref (ad 17 3), .ref (ad 17 4), .ref (ad 17 5), .ref (ad 17 6), .ref (ad 17 7), .ref (ad 17 8), .ref (ad 17 9), .ref (ad 17 10), .int (nI x1)] : List Value).toArray below meth c H locs (420 + 8 * q) (2520 + 48 * q) (vx_MQ below (kQi E G (fun r ad1 ct1 => (r = 1 ∧ ad = ad1) ∧ ∃ S1, ct1 = cto G S1 T o ad ∧ Inv n9 S1 T)) (kXC E G (fun _ _ _ => False)) ([.ref (ad 0 0), .ref (ad 17 0), .ref (ad 17 1), .ref (ad 17 2), .ref (ad 17 3), .ref (ad 17 4), .ref (ad 17 5), .ref (ad 17 6), .ref (ad 17 7), .ref (ad 17 8), .ref (ad 17 9), .ref (ad 17 10), .int (nI x1)] : List Value).toArray s 1000 6000 (kB E.heap.size)) (F0 m 197 ls []) := by
    intro d
    induction d with
    | zero => intro i q h1 hq2 h2; intros; exact absurd h2 (by omega)
    | succ d ih =>
      intro i q h1 hq2 h2 H locs ls X hl
      refine lv_iload hx hb dL_isSo_197 (lv_at hl 0 rfl) ?_
      refine lv_aload hx hb dL_isSo_199 (lv_at hl 14 rfl) ?_
      refine lv_iconst (v := 2) hx hb dL_isSo_201 (by decide) ?_
      refine k_ild (ad := ad) (k := 17) (i := 10) Z X ct_17_10 (vp_in_nI (n := 2) (by first | assumption | omega) (by decide)) dL_isSo_202 ?_
      refine lv_topi (fun x_202 e_202 => ?_)
      obtain rfl : x_202 = T.1 11 2 := e_202.trans (by first | (simp only [nI_clamp (show 2 < 2 ^ 31 by omega)]; done) | rfl | (simp only [nI_clamp (show 2 < 2 ^ 31 by omega)]; rfl) | (simp only [nI_clamp (show 2 < 2 ^ 31 by omega)]; simp [sI, sN]; done))
      refine lv_topi (fun x_202 e_202 => ?_)
      obtain rfl : x_202 = nI (Sr.2 0 1) := e_202.trans (hT.g2)
      refine lv_icmp_ge (tgt := 299) hx hb dL_isSo_203 (by decide) (fun c_203 => ?_) (fun c_203 => ?_)
      · have c_203 : Sr.2 0 1 ≤ i := (nI_leI (a := Sr.2 0 1) (b := i) (by omega) (by omega)).mp c_203
        refine W.widen (k := 540) (n := 3240) (by omega) (by omega) ?_
        exact t_isSo_299 hE hn9 hx1 Z hr hlocks Sr hIr _ _ _ X (lv_sub hl [1, 2, 3, 4, 5, 6, 7, 8, 9, 10, 11, 12, 13, 14, 15] rfl)
      · have c_203 : ¬ Sr.2 0 1 ≤ i := fun h => c_203 ((nI_leI (a := Sr.2 0 1) (b := i) (by omega) (by omega)).mpr h)
        have hmi := hT.mm hN (j := i) (by omega)
        have hmi1 := hmi.1
        have hma := hN.2.2.2.2.1 i (by omega)
        refine lv_iload hx hb dL_isSo_206 (lv_at hl 1 rfl) ?_
        refine lv_if_eq (tgt := 299) hx hb dL_isSo_208 (by decide) (fun c_208 => ?_) (fun c_208 => ?_)
        · exact absurd c_208 (by decide)
        · refine lv_aload_n hx hb dL_isSo_211 rfl (lv_at hl 3 rfl) ?_
          refine lv_iload hx hb dL_isSo_212 (lv_at hl 0 rfl) ?_
          refine lv_iconst (v := 0) hx hb dL_isSo_214 (by decide) ?_
          refine k_xRi X (k_xrunV (As := [.int (nI i), .int 0]) (rest := []) Z X (c_X7_messageOf l E G Sr T o ad (nI i) 0 hE hS hL) (k_cwV 2 Z.1.2.2.2.2 (inU_25 _ (List.mem_of_getElem? (i := 8) rfl)) (inU_25 _ (List.mem_of_getElem? (i := 9) rfl)) (inU_25 _ (List.mem_of_getElem? (i := 10) rfl)) (inU_1 _ (List.mem_of_getElem? (i := 2) rfl)) (inU_25 _ (List.mem_of_getElem? (i := 11) rfl)) rfl rfl (by decide +kernel) ⟨Nat.le_of_ble_eq_true rfl, Nat.le_of_ble_eq_true rfl⟩) (k_recv Z X ct_0 rfl) rfl hl.1 rfl (Nat.le_of_ble_eq_true rfl) dL_isSo_215 ⟨(by show _ ≤ (_ : Nat); simp only [headSpec]; omega), (by show _ ≤ (_ : Nat); simp only [headSpec]; omega)⟩) (fun x ce q9 ad1 ct1 H locs hp X x1 x2 x3 => ?_) (fun r_215 ad1 ct1 H locs hp X => ?_)
          · rcases hp.1 with z | z <;> exact absurd ((cMsg_0 (by omega) (by omega) (by decide)).symm.trans z.1) (by decide)
          obtain ⟨⟨-, rfl⟩, ha_, hb_⟩ := hp
          rw [← ha_, hb_] at X
          refine lv_topi (fun x_215 e_215 => ?_)
          obtain rfl : x_215 = nI (Sr.2 1 i) := e_215.trans (rM0 (by omega))
          refine lv_aload_n hx hb dL_isSo_218 rfl (lv_at hl 5 rfl) ?_
          refine lv_iload hx hb dL_isSo_219 (lv_at hl 0 rfl) ?_
          refine k_ild (ad := ad) (k := 17) (i := 1) Z X ct_17_1 (vp_in_nI (n := i) (by first | assumption | omega) (by decide)) dL_isSo_221 ?_
          refine lv_topi (fun x_221 e_221 => ?_)
          obtain rfl : x_221 = T.1 2 i := e_221.trans (by first | (simp only [nI_clamp (show i < 2 ^ 31 by omega)]; done) | rfl | (simp only [nI_clamp (show i < 2 ^ 31 by omega)]; rfl) | (simp only [nI_clamp (show i < 2 ^ 31 by omega)]; simp [sI, sN]; done))
          refine lv_topi (fun x_221 e_221 => ?_)
          obtain rfl : x_221 = nI (encm Sr i) := e_221.trans (hT.m (by omega))
          refine lv_bipush (v := 16) hx hb dL_isSo_222 (by decide) ?_
          refine lv_irem hx hb dL_isSo_224 (by decide) ?_
          refine lv_topi (fun x_224 e_224 => ?_)
          obtain rfl : x_224 = nI (Sr.2 1 i) := e_224.trans ((pk_rem (a := (encm Sr i)) (d := 16) (by have := (hT.mm hN (j := i) (by omega)).1; omega) (by omega) (by omega)).trans (congrArg nI (hT.mm hN (j := i) (by omega)).2.1))
          refine lv_icmp_ne (tgt := 290) hx hb dL_isSo_225 (by decide) (fun c_225 => ?_) (fun c_225 => ?_)
          · exact absurd rfl c_225
          · refine lv_aload_n hx hb dL_isSo_228 rfl (lv_at hl 3 rfl) ?_
            refine lv_iload hx hb dL_isSo_229 (lv_at hl 0 rfl) ?_
            refine lv_iconst (v := 1) hx hb dL_isSo_231 (by decide) ?_
            refine k_xRi X (k_xrunV (As := [.int (nI i), .int 1]) (rest := []) Z X (c_X7_messageOf l E G Sr T o ad (nI i) 1 hE hS hL) (k_cwV 2 Z.1.2.2.2.2 (inU_25 _ (List.mem_of_getElem? (i := 8) rfl)) (inU_25 _ (List.mem_of_getElem? (i := 9) rfl)) (inU_25 _ (List.mem_of_getElem? (i := 10) rfl)) (inU_1 _ (List.mem_of_getElem? (i := 2) rfl)) (inU_25 _ (List.mem_of_getElem? (i := 11) rfl)) rfl rfl (by decide +kernel) ⟨Nat.le_of_ble_eq_true rfl, Nat.le_of_ble_eq_true rfl⟩) (k_recv Z X ct_0 rfl) rfl hl.1 rfl (Nat.le_of_ble_eq_true rfl) dL_isSo_232 ⟨(by show _ ≤ (_ : Nat); simp only [headSpec]; omega), (by show _ ≤ (_ : Nat); simp only [headSpec]; omega)⟩) (fun x ce q9 ad1 ct1 H locs hp X x1 x2 x3 => ?_) (fun r_232 ad1 ct1 H locs hp X => ?_)
            · rcases hp.1 with z | z <;> exact absurd ((cMsg_0 (by omega) (by omega) (by decide)).symm.trans z.1) (by decide)
            obtain ⟨⟨-, rfl⟩, ha_, hb_⟩ := hp
            rw [← ha_, hb_] at X
            refine lv_topi (fun x_232 e_232 => ?_)
            obtain rfl : x_232 = nI (Sr.2 2 i) := e_232.trans (rM1 (by omega))
            refine lv_aload_n hx hb dL_isSo_235 rfl (lv_at hl 5 rfl) ?_
            refine lv_iload hx hb dL_isSo_236 (lv_at hl 0 rfl) ?_
            refine k_ild (ad := ad) (k := 17) (i := 1) Z X ct_17_1 (vp_in_nI (n := i) (by first | assumption | omega) (by decide)) dL_isSo_238 ?_
            refine lv_topi (fun x_238 e_238 => ?_)
            obtain rfl : x_238 = T.1 2 i := e_238.trans (by first | (simp only [nI_clamp (show i < 2 ^ 31 by omega)]; done) | rfl | (simp only [nI_clamp (show i < 2 ^ 31 by omega)]; rfl) | (simp only [nI_clamp (show i < 2 ^ 31 by omega)]; simp [sI, sN]; done))
            refine lv_topi (fun x_238 e_238 => ?_)
            obtain rfl : x_238 = nI (encm Sr i) := e_238.trans (hT.m (by omega))
            refine lv_bipush (v := 16) hx hb dL_isSo_239 (by decide) ?_
            refine lv_idiv hx hb dL_isSo_241 (by decide) ?_
            refine lv_topi (fun x_241 e_241 => ?_)
            obtain rfl : x_241 = nI ((encm Sr i) / 16) := e_241.trans ((pk_div (a := (encm Sr i)) (d := 16) (by have := (hT.mm hN (j := i) (by omega)).1; omega) (by omega) (by omega)))
            refine lv_bipush (v := 8) hx hb dL_isSo_242 (by decide) ?_
            refine lv_irem hx hb dL_isSo_244 (by decide) ?_
            refine lv_topi (fun x_244 e_244 => ?_)
            obtain rfl : x_244 = nI (Sr.2 2 i) := e_244.trans ((pk_rem (a := ((encm Sr i) / 16)) (d := 8) (by have := (hT.mm hN (j := i) (by omega)).1; omega) (by omega) (by omega)).trans (congrArg nI (hT.mm hN (j := i) (by omega)).2.2.1))
            refine lv_icmp_ne (tgt := 290) hx hb dL_isSo_245 (by decide) (fun c_245 => ?_) (fun c_245 => ?_)
            · exact absurd rfl c_245
            · refine lv_aload_n hx hb dL_isSo_248 rfl (lv_at hl 3 rfl) ?_
              refine lv_iload hx hb dL_isSo_249 (lv_at hl 0 rfl) ?_
              refine lv_iconst (v := 2) hx hb dL_isSo_251 (by decide) ?_
              refine k_xRi X (k_xrunV (As := [.int (nI i), .int 2]) (rest := []) Z X (c_X7_messageOf l E G Sr T o ad (nI i) 2 hE hS hL) (k_cwV 2 Z.1.2.2.2.2 (inU_25 _ (List.mem_of_getElem? (i := 8) rfl)) (inU_25 _ (List.mem_of_getElem? (i := 9) rfl)) (inU_25 _ (List.mem_of_getElem? (i := 10) rfl)) (inU_1 _ (List.mem_of_getElem? (i := 2) rfl)) (inU_25 _ (List.mem_of_getElem? (i := 11) rfl)) rfl rfl (by decide +kernel) ⟨Nat.le_of_ble_eq_true rfl, Nat.le_of_ble_eq_true rfl⟩) (k_recv Z X ct_0 rfl) rfl hl.1 rfl (Nat.le_of_ble_eq_true rfl) dL_isSo_252 ⟨(by show _ ≤ (_ : Nat); simp only [headSpec]; omega), (by show _ ≤ (_ : Nat); simp only [headSpec]; omega)⟩) (fun x ce q9 ad1 ct1 H locs hp X x1 x2 x3 => ?_) (fun r_252 ad1 ct1 H locs hp X => ?_)
              · rcases hp.1 with z | z <;> exact absurd ((cMsg_0 (by omega) (by omega) (by decide)).symm.trans z.1) (by decide)
              obtain ⟨⟨-, rfl⟩, ha_, hb_⟩ := hp
              rw [← ha_, hb_] at X
              refine lv_topi (fun x_252 e_252 => ?_)
              obtain rfl : x_252 = Sr.1 5 i := e_252.trans (rM2 (by omega))
              refine lv_aload_n hx hb dL_isSo_255 rfl (lv_at hl 5 rfl) ?_
              refine lv_iload hx hb dL_isSo_256 (lv_at hl 0 rfl) ?_
              refine k_ild (ad := ad) (k := 17) (i := 1) Z X ct_17_1 (vp_in_nI (n := i) (by first | assumption | omega) (by decide)) dL_isSo_258 ?_
              refine lv_topi (fun x_258 e_258 => ?_)
              obtain rfl : x_258 = T.1 2 i := e_258.trans (by first | (simp only [nI_clamp (show i < 2 ^ 31 by omega)]; done) | rfl | (simp only [nI_clamp (show i < 2 ^ 31 by omega)]; rfl) | (simp only [nI_clamp (show i < 2 ^ 31 by omega)]; simp [sI, sN]; done))
              refine lv_topi (fun x_258 e_258 => ?_)
              obtain rfl : x_258 = nI (encm Sr i) := e_258.trans (hT.m (by omega))
              refine lv_sipush (v := 128) hx hb dL_isSo_259 (by decide) ?_
              refine lv_idiv hx hb dL_isSo_262 (by decide) ?_
              refine lv_topi (fun x_262 e_262 => ?_)
              obtain rfl : x_262 = nI ((encm Sr i) / 128) := e_262.trans ((pk_div (a := (encm Sr i)) (d := 128) (by have := (hT.mm hN (j := i) (by omega)).1; omega) (by omega) (by omega)))
              refine lv_bipush (v := 64) hx hb dL_isSo_263 (by decide) ?_
              refine lv_irem hx hb dL_isSo_265 (by decide) ?_
              refine lv_topi (fun x_265 e_265 => ?_)
              obtain rfl : x_265 = nI (pm Sr i) := e_265.trans ((pk_rem (a := ((encm Sr i) / 128)) (d := 64) (by have := (hT.mm hN (j := i) (by omega)).1; omega) (by omega) (by omega)).trans (congrArg nI (hT.mm hN (j := i) (by omega)).2.2.2.1))
              refine lv_iconst (v := 1) hx hb dL_isSo_266 (by decide) ?_
              refine lv_isub hx hb dL_isSo_267 ?_
              refine lv_topi (fun x_267 e_267 => ?_)
              obtain rfl : x_267 = Sr.1 5 i := e_267.trans ((hT.2.2.2.1 i (by omega)).2.2.2.2.1.2.symm)
              refine lv_icmp_ne (tgt := 290) hx hb dL_isSo_268 (by decide) (fun c_268 => ?_) (fun c_268 => ?_)
              · exact absurd rfl c_268
              · refine lv_aload_n hx hb dL_isSo_271 rfl (lv_at hl 3 rfl) ?_
                refine lv_iload hx hb dL_isSo_272 (lv_at hl 0 rfl) ?_
                refine lv_iconst (v := 4) hx hb dL_isSo_274 (by decide) ?_
                refine k_xRi X (k_xrunV (As := [.int (nI i), .int 4]) (rest := []) Z X (c_X7_messageOf l E G Sr T o ad (nI i) 4 hE hS hL) (k_cwV 2 Z.1.2.2.2.2 (inU_25 _ (List.mem_of_getElem? (i := 8) rfl)) (inU_25 _ (List.mem_of_getElem? (i := 9) rfl)) (inU_25 _ (List.mem_of_getElem? (i := 10) rfl)) (inU_1 _ (List.mem_of_getElem? (i := 2) rfl)) (inU_25 _ (List.mem_of_getElem? (i := 11) rfl)) rfl rfl (by decide +kernel) ⟨Nat.le_of_ble_eq_true rfl, Nat.le_of_ble_eq_true rfl⟩) (k_recv Z X ct_0 rfl) rfl hl.1 rfl (Nat.le_of_ble_eq_true rfl) dL_isSo_275 ⟨(by show _ ≤ (_ : Nat); simp only [headSpec]; omega), (by show _ ≤ (_ : Nat); simp only [headSpec]; omega)⟩) (fun x ce q9 ad1 ct1 H locs hp X x1 x2 x3 => ?_) (fun r_275 ad1 ct1 H locs hp X => ?_)
                · rcases hp.1 with z | z <;> exact absurd ((cMsg_0 (by omega) (by omega) (by decide)).symm.trans z.1) (by decide)
                obtain ⟨⟨-, rfl⟩, ha_, hb_⟩ := hp
                rw [← ha_, hb_] at X
                refine lv_topi (fun x_275 e_275 => ?_)
                obtain rfl : x_275 = Sr.1 6 i := e_275.trans (rM4 (by omega))
                refine lv_aload hx hb dL_isSo_278 (lv_at hl 7 rfl) ?_
                refine lv_iload hx hb dL_isSo_280 (lv_at hl 0 rfl) ?_
                refine k_ild (ad := ad) (k := 17) (i := 3) Z X ct_17_3 (vp_in_nI (n := i) (by first | assumption | omega) (by decide)) dL_isSo_282 ?_
                refine lv_topi (fun x_282 e_282 => ?_)
                obtain rfl : x_282 = T.1 4 i := e_282.trans (by first | (simp only [nI_clamp (show i < 2 ^ 31 by omega)]; done) | rfl | (simp only [nI_clamp (show i < 2 ^ 31 by omega)]; rfl) | (simp only [nI_clamp (show i < 2 ^ 31 by omega)]; simp [sI, sN]; done))
                refine lv_topi (fun x_282 e_282 => ?_)
                obtain rfl : x_282 = Sr.1 6 i := e_282.trans (hT.h (by omega))
                refine lv_icmp_ne (tgt := 290) hx hb dL_isSo_283 (by decide) (fun c_283 => ?_) (fun c_283 => ?_)
                · exact absurd rfl c_283
                · refine lv_iconst (v := 1) hx hb dL_isSo_286 (by decide) ?_
                  refine lv_goto (tgt := 291) hx hb dL_isSo_287 (by decide) ?_
                  refine lv_istore (lv' := [(13, .int 1), (15, .int (nI i)), (14, .int 0), (0, .ref (ad 0 0)), (1, .ref (ad 17 0)), (2, .ref (ad 17 1)), (3, .ref (ad 17 2)), (4, .ref (ad 17 3)), (5, .ref (ad 17 4)), (6, .ref (ad 17 5)), (7, .ref (ad 17 6)), (8, .ref (ad 17 7)), (9, .ref (ad 17 8)), (10, .ref (ad 17 9)), (11, .ref (ad 17 10)), (12, .int (nI x1))]) hx hb dL_isSo_291 hl (by decide) rfl (fun ls hl => ?_)
                  refine lv_iinc (v := (nI (i + 2))) (lv' := [(15, .int (nI (i + 2))), (13, .int 1), (14, .int 0), (0, .ref (ad 0 0)), (1, .ref (ad 17 0)), (2, .ref (ad 17 1)), (3, .ref (ad 17 2)), (4, .ref (ad 17 3)), (5, .ref (ad 17 4)), (6, .ref (ad 17 5)), (7, .ref (ad 17 6)), (8, .ref (ad 17 7)), (9, .ref (ad 17 8)), (10, .ref (ad 17 9)), (11, .ref (ad 17 10)), (12, .int (nI x1))]) hx hb dL_isSo_293 hl (k := 1) rfl (nI_add i 2) (by decide) rfl (fun ls hl => ?_)
                  refine lv_goto (tgt := 197) hx hb dL_isSo_296 (by decide) ?_
                  refine W.widen (k := 420 + 8 * (q + 1)) (n := 2520 + 48 * (q + 1)) (by omega) (by omega) ?_
                  exact ih (i + 2) (q + 1) (by omega) (by omega) (by omega) _ _ _ X (lv_sub hl [0, 1, 2, 3, 4, 5, 6, 7, 8, 9, 10, 11, 12, 13, 14, 15] rfl)
  exact LOOP_197 32 (x1 % 2) 0 (by omega) (by omega) (by omega) _ _ _ X (lv_sub hl [0, 1, 2, 3, 4, 5, 6, 7, 8, 9, 10, 11, 12, 13, 14, 15] rfl)
set_option maxHeartbeats 4000000 in
set_option maxRecDepth 100000 in
theorem c_L_isSo (l : Launch) (E : State) (G : kG) (S T : kSt) (o : Int64) (ad : kAd) (hE : kE l E G) (n9 x1 : Nat) (hn9 : n9 ≤ 200) (hx1 : x1 < 60000) (hI : Inv n9 S T) : vx_Met l yL_isSo (.code yL_isSo cL_isSo 20 (some .boolean) :: wsL_law) ({ frames := 20, cells := 1000, slots := 6000, locals := 500 } : Room) (va_Pc [.ref (ad 0 0), .ref (ad 17 0), .ref (ad 17 1), .ref (ad 17 2), .ref (ad 17 3), .ref (ad 17 4), .ref (ad 17 5), .ref (ad 17 6), .ref (ad 17 7), .ref (ad 17 8), .ref (ad 17 9), .ref (ad 17 10), .int (nI x1)] (kPre E G ad (cto G S T o ad))) (kQi E G (fun r ad1 ct1 => (r = 1 ∧ ad = ad1) ∧ ∃ S1, ct1 = cto G S1 T o ad ∧ Inv n9 S1 T)) (kXC E G (fun _ _ _ => False)) 1000 6000 (kB E.heap.size) := by
  refine vx_ofW (cc := cL_isSo) (maxL := 20) (ret := (some .boolean)) (by decide) rfl ?_
  intro p e s m args below meth c s₁ B hml hout hv
  obtain ⟨rfl, hM, hK, hW0⟩ := hv
  have hlocks := B.notSynchronized
  have hr := B.returns
  have Z : kZ p m c cL_isSo 20 s _ wsL_law RL E G := ⟨⟨B.exec, B.bytes, hml, findClass_of_methodNamed B.named, fun w h => atoms_spec (ws := .code yL_isSo cL_isSo 20 (some .boolean) :: wsL_law) B.pre w (List.mem_cons_of_mem _ h)⟩, hM, hK⟩
  have hx := Z.1.1
  have hb := Z.1.2.1
  have X := kX.of hW0
  have hl := lv_entry ([.ref (ad 0 0), .ref (ad 17 0), .ref (ad 17 1), .ref (ad 17 2), .ref (ad 17 3), .ref (ad 17 4), .ref (ad 17 5), .ref (ad 17 6), .ref (ad 17 7), .ref (ad 17 8), .ref (ad 17 9), .ref (ad 17 10), .int (nI x1)]) (n := 20) (Nat.le_of_ble_eq_true rfl)
  rw [lg_entry_eq]
  generalize (lg_sl ([.ref (ad 0 0), .ref (ad 17 0), .ref (ad 17 1), .ref (ad 17 2), .ref (ad 17 3), .ref (ad 17 4), .ref (ad 17 5), .ref (ad 17 6), .ref (ad 17 7), .ref (ad 17 8), .ref (ad 17 9), .ref (ad 17 10), .int (nI x1)]) ++ List.replicate (20 - (lg_sl ([.ref (ad 0 0), .ref (ad 17 0), .ref (ad 17 1), .ref (ad 17 2), .ref (ad 17 3), .ref (ad 17 4), .ref (ad 17 5), .ref (ad 17 6), .ref (ad 17 7), .ref (ad 17 8), .ref (ad 17 9), .ref (ad 17 10), .int (nI x1)])).length) Slot.unset).toArray = ls at hl ⊢
  have hl : lv_has ls 20 [(0, .ref (ad 0 0)), (1, .ref (ad 17 0)), (2, .ref (ad 17 1)), (3, .ref (ad 17 2)), (4, .ref (ad 17 3)), (5, .ref (ad 17 4)), (6, .ref (ad 17 5)), (7, .ref (ad 17 6)), (8, .ref (ad 17 7)), (9, .ref (ad 17 8)), (10, .ref (ad 17 9)), (11, .ref (ad 17 10)), (12, .int (nI x1))] := hl
  refine lv_iconst (v := 1) hx hb dL_isSo_0 (by decide) ?_
  refine lv_istore (lv' := [(13, .int 1), (0, .ref (ad 0 0)), (1, .ref (ad 17 0)), (2, .ref (ad 17 1)), (3, .ref (ad 17 2)), (4, .ref (ad 17 3)), (5, .ref (ad 17 4)), (6, .ref (ad 17 5)), (7, .ref (ad 17 6)), (8, .ref (ad 17 7)), (9, .ref (ad 17 8)), (10, .ref (ad 17 9)), (11, .ref (ad 17 10)), (12, .int (nI x1))]) hx hb dL_isSo_1 hl (by decide) rfl (fun ls hl => ?_)
  refine lv_iconst (v := 0) hx hb dL_isSo_3 (by decide) ?_
  refine lv_istore (lv' := [(14, .int 0), (13, .int 1), (0, .ref (ad 0 0)), (1, .ref (ad 17 0)), (2, .ref (ad 17 1)), (3, .ref (ad 17 2)), (4, .ref (ad 17 3)), (5, .ref (ad 17 4)), (6, .ref (ad 17 5)), (7, .ref (ad 17 6)), (8, .ref (ad 17 7)), (9, .ref (ad 17 8)), (10, .ref (ad 17 9)), (11, .ref (ad 17 10)), (12, .int (nI x1))]) hx hb dL_isSo_4 hl (by decide) rfl (fun ls hl => ?_)
  refine lv_iconst (v := 0) hx hb dL_isSo_6 (by decide) ?_
  refine lv_istore (lv' := [(15, .int 0), (14, .int 0), (13, .int 1), (0, .ref (ad 0 0)), (1, .ref (ad 17 0)), (2, .ref (ad 17 1)), (3, .ref (ad 17 2)), (4, .ref (ad 17 3)), (5, .ref (ad 17 4)), (6, .ref (ad 17 5)), (7, .ref (ad 17 6)), (8, .ref (ad 17 7)), (9, .ref (ad 17 8)), (10, .ref (ad 17 9)), (11, .ref (ad 17 10)), (12, .int (nI x1))]) hx hb dL_isSo_7 hl (by decide) rfl (fun ls hl => ?_)
  have hcz := hI.2.1.c
  have LOOP_9 : ∀ (d : Nat) (i : Nat) (Sr : kSt), i ≤ Sr.2 0 1 → Inv n9 Sr T → Sr.2 0 1 < i + d → ∀ (H : Heap) (locs : List Loc) (ls : Array Slot), kX E G s H locs ad (cto G Sr T o ad) → lv_has ls 20 [(15, .int (nI i)), (13, .int 1), (14, .int 0), (0, .ref (ad 0 0)), (1, .ref (ad 17 0)), (2, .ref (ad 17 1)), (3, .ref (ad 17 2)), (4, .ref (ad 17 3)), (5, .ref (ad 17 4)), (6, .ref (ad 17 5)), (7, .ref (ad 17 6)), (8, .ref (ad 17 7)), (9, .ref (ad 17 8)), (10, .ref (ad 17 9)), (11, .ref (ad 17 10)), (12, .int (nI x1))] → W p l e (headSpec (Cond.code yL_isSo cL_isSo 20 (some .boolean) :: wsL_law) ({ frames := 20, cells := 1000, slots := 6000, locals := 500 } : Room)).room s m ([.ref (ad 0 0), .ref (ad 17 0), .ref (ad 17 1), .ref (ad 17 2), .ref (ad 17 3), .ref (ad 17 4), .ref (ad 17 5), .ref (ad 17 6), .ref (ad 17 7), .ref (ad 17 8), .ref (ad 17 9), .ref (ad 17 10), .int (nI x1)] : List Value).toArray below meth c H locs (0 + 14 * i) (0 + 84 * i) (vx_MQ below (kQi E G (fun r ad1 ct1 => (r = 1 ∧ ad = ad1) ∧ ∃ S1, ct1 = cto G S1 T o ad ∧ Inv n9 S1 T)) (kXC E G (fun _ _ _ => False)) ([.ref (ad 0 0), .ref (ad 17 0), .ref (ad 17 1), .ref (ad 17 2), .ref (ad 17 3), .ref (ad 17 4), .ref (ad 17 5), .ref (ad 17 6), .ref (ad 17 7), .ref (ad 17 8), .ref (ad 17 9), .ref (ad 17 10), .int (nI x1)] : List Value).toArray s 1000 6000 (kB E.heap.size)) (F0 m 9 ls []) := by
    intro d
    induction d with
    | zero => intro i Sr h1 hIr h2; intros; exact absurd h2 (by omega)
    | succ d ih =>
      intro i Sr h1 hIr h2 H locs ls X hl
      obtain ⟨hS, hL, hK9, hLg, hRp, hlog, hB⟩ := hIr.ok
      have hT := hIr.2.1
      have hN := hS
      obtain ⟨hc0, hc1, hc2, hc3⟩ := hT.c
      have htot := hIr.2.2
      refine lv_iload hx hb dL_isSo_9 (lv_at hl 0 rfl) ?_
      refine lv_aload hx hb dL_isSo_11 (lv_at hl 14 rfl) ?_
      refine lv_iconst (v := 2) hx hb dL_isSo_13 (by decide) ?_
      refine k_ild (ad := ad) (k := 17) (i := 10) Z X ct_17_10 (vp_in_nI (n := 2) (by first | assumption | omega) (by decide)) dL_isSo_14 ?_
      refine lv_topi (fun x_14 e_14 => ?_)
      obtain rfl : x_14 = T.1 11 2 := e_14.trans (by first | (simp only [nI_clamp (show 2 < 2 ^ 31 by omega)]; done) | rfl | (simp only [nI_clamp (show 2 < 2 ^ 31 by omega)]; rfl) | (simp only [nI_clamp (show 2 < 2 ^ 31 by omega)]; simp [sI, sN]; done))
      refine lv_topi (fun x_14 e_14 => ?_)
      obtain rfl : x_14 = nI (Sr.2 0 1) := e_14.trans (hT.g2)
      refine lv_icmp_ge (tgt := 191) hx hb dL_isSo_15 (by decide) (fun c_15 => ?_) (fun c_15 => ?_)
      · have c_15 : Sr.2 0 1 ≤ i := (nI_leI (a := Sr.2 0 1) (b := i) (by omega) (by omega)).mp c_15
        refine W.widen (k := 420) (n := 2520) (by omega) (by omega) ?_
        exact t_isSo_191 hE hn9 hx1 Z hr hlocks Sr hIr _ _ _ X (lv_sub hl [1, 2, 3, 4, 5, 6, 7, 8, 9, 10, 11, 12, 13, 14, 15] rfl)
      · have c_15 : ¬ Sr.2 0 1 ≤ i := fun h => c_15 ((nI_leI (a := Sr.2 0 1) (b := i) (by omega) (by omega)).mpr h)
        have hmi := hT.mm hN (j := i) (by omega)
        have hmi1 := hmi.1
        refine lv_iload hx hb dL_isSo_18 (lv_at hl 1 rfl) ?_
        refine lv_if_eq (tgt := 191) hx hb dL_isSo_20 (by decide) (fun c_20 => ?_) (fun c_20 => ?_)
        · exact absurd c_20 (by decide)
        · refine lv_aload_n hx hb dL_isSo_23 rfl (lv_at hl 3 rfl) ?_
          refine lv_iload hx hb dL_isSo_24 (lv_at hl 0 rfl) ?_
          refine lv_iconst (v := 3) hx hb dL_isSo_26 (by decide) ?_
          refine k_xRi X (k_xrunV (As := [.int (nI i), .int 3]) (rest := []) Z X (c_X7_messageOf l E G Sr T o ad (nI i) 3 hE hS hL) (k_cwV 2 Z.1.2.2.2.2 (inU_25 _ (List.mem_of_getElem? (i := 8) rfl)) (inU_25 _ (List.mem_of_getElem? (i := 9) rfl)) (inU_25 _ (List.mem_of_getElem? (i := 10) rfl)) (inU_1 _ (List.mem_of_getElem? (i := 2) rfl)) (inU_25 _ (List.mem_of_getElem? (i := 11) rfl)) rfl rfl (by decide +kernel) ⟨Nat.le_of_ble_eq_true rfl, Nat.le_of_ble_eq_true rfl⟩) (k_recv Z X ct_0 rfl) rfl hl.1 rfl (Nat.le_of_ble_eq_true rfl) dL_isSo_27 ⟨(by show _ ≤ (_ : Nat); simp only [headSpec]; omega), (by show _ ≤ (_ : Nat); simp only [headSpec]; omega)⟩) (fun x ce q9 ad1 ct1 H locs hp X x1 x2 x3 => ?_) (fun r_27 ad1 ct1 H locs hp X => ?_)
          · rcases hp.1 with z | z <;> exact absurd ((cMsg_0 (by omega) (by omega) (by decide)).symm.trans z.1) (by decide)
          obtain ⟨⟨-, rfl⟩, ha_, hb_⟩ := hp
          rw [← ha_, hb_] at X
          refine lv_topi (fun x_27 e_27 => ?_)
          obtain rfl : x_27 = Sr.1 7 i := e_27.trans (rM3 (by omega))
          refine lv_aload_n hx hb dL_isSo_30 rfl (lv_at hl 6 rfl) ?_
          refine lv_iload hx hb dL_isSo_31 (lv_at hl 0 rfl) ?_
          refine k_ild (ad := ad) (k := 17) (i := 2) Z X ct_17_2 (vp_in_nI (n := i) (by first | assumption | omega) (by decide)) dL_isSo_33 ?_
          refine lv_topi (fun x_33 e_33 => ?_)
          obtain rfl : x_33 = T.1 3 i := e_33.trans (by first | (simp only [nI_clamp (show i < 2 ^ 31 by omega)]; done) | rfl | (simp only [nI_clamp (show i < 2 ^ 31 by omega)]; rfl) | (simp only [nI_clamp (show i < 2 ^ 31 by omega)]; simp [sI, sN]; done))
          refine lv_topi (fun x_33 e_33 => ?_)
          obtain rfl : x_33 = Sr.1 7 i := e_33.trans (hT.v (by omega))
          refine lv_icmp_ne (tgt := 81) hx hb dL_isSo_34 (by decide) (fun c_34 => ?_) (fun c_34 => ?_)
          · exact absurd rfl c_34
          · refine lv_aload_n hx hb dL_isSo_37 rfl (lv_at hl 3 rfl) ?_
            refine lv_iload hx hb dL_isSo_38 (lv_at hl 0 rfl) ?_
            refine lv_iconst (v := 5) hx hb dL_isSo_40 (by decide) ?_
            refine k_xRi X (k_xrunV (As := [.int (nI i), .int 5]) (rest := []) Z X (c_X7_messageOf l E G Sr T o ad (nI i) 5 hE hS hL) (k_cwV 2 Z.1.2.2.2.2 (inU_25 _ (List.mem_of_getElem? (i := 8) rfl)) (inU_25 _ (List.mem_of_getElem? (i := 9) rfl)) (inU_25 _ (List.mem_of_getElem? (i := 10) rfl)) (inU_1 _ (List.mem_of_getElem? (i := 2) rfl)) (inU_25 _ (List.mem_of_getElem? (i := 11) rfl)) rfl rfl (by decide +kernel) ⟨Nat.le_of_ble_eq_true rfl, Nat.le_of_ble_eq_true rfl⟩) (k_recv Z X ct_0 rfl) rfl hl.1 rfl (Nat.le_of_ble_eq_true rfl) dL_isSo_41 ⟨(by show _ ≤ (_ : Nat); simp only [headSpec]; omega), (by show _ ≤ (_ : Nat); simp only [headSpec]; omega)⟩) (fun x ce q9 ad1 ct1 H locs hp X x1 x2 x3 => ?_) (fun r_41 ad1 ct1 H locs hp X => ?_)
            · rcases hp.1 with z | z <;> exact absurd ((cMsg_0 (by omega) (by omega) (by decide)).symm.trans z.1) (by decide)
            obtain ⟨⟨-, rfl⟩, ha_, hb_⟩ := hp
            rw [← ha_, hb_] at X
            refine lv_topi (fun x_41 e_41 => ?_)
            obtain rfl : x_41 = Sr.1 8 i := e_41.trans (rM5 (by omega) (hT.2.2.2.1 i (by omega)).2.2.2.2.2.1)
            refine lv_aload_n hx hb dL_isSo_44 rfl (lv_at hl 5 rfl) ?_
            refine lv_iload hx hb dL_isSo_45 (lv_at hl 0 rfl) ?_
            refine k_ild (ad := ad) (k := 17) (i := 1) Z X ct_17_1 (vp_in_nI (n := i) (by first | assumption | omega) (by decide)) dL_isSo_47 ?_
            refine lv_topi (fun x_47 e_47 => ?_)
            obtain rfl : x_47 = T.1 2 i := e_47.trans (by first | (simp only [nI_clamp (show i < 2 ^ 31 by omega)]; done) | rfl | (simp only [nI_clamp (show i < 2 ^ 31 by omega)]; rfl) | (simp only [nI_clamp (show i < 2 ^ 31 by omega)]; simp [sI, sN]; done))
            refine lv_topi (fun x_47 e_47 => ?_)
            obtain rfl : x_47 = nI (encm Sr i) := e_47.trans (hT.m (by omega))
            refine lv_sipush (v := 8192) hx hb dL_isSo_48 (by decide) ?_
            refine lv_idiv hx hb dL_isSo_51 (by decide) ?_
            refine lv_topi (fun x_51 e_51 => ?_)
            obtain rfl : x_51 = Sr.1 8 i := e_51.trans ((pk_div (a := (encm Sr i)) (d := 8192) (by have := (hT.mm hN (j := i) (by omega)).1; omega) (by omega) (by omega)).trans ((hT.mm hN (j := i) (by omega)).2.2.2.2.1))
            refine lv_icmp_ne (tgt := 81) hx hb dL_isSo_52 (by decide) (fun c_52 => ?_) (fun c_52 => ?_)
            · exact absurd rfl c_52
            · refine lv_aload_n hx hb dL_isSo_55 rfl (lv_at hl 3 rfl) ?_
              refine lv_iload hx hb dL_isSo_56 (lv_at hl 0 rfl) ?_
              refine lv_bipush (v := 6) hx hb dL_isSo_58 (by decide) ?_
              refine k_xRi X (k_xrunV (As := [.int (nI i), .int 6]) (rest := []) Z X (c_X7_messageOf l E G Sr T o ad (nI i) 6 hE hS hL) (k_cwV 2 Z.1.2.2.2.2 (inU_25 _ (List.mem_of_getElem? (i := 8) rfl)) (inU_25 _ (List.mem_of_getElem? (i := 9) rfl)) (inU_25 _ (List.mem_of_getElem? (i := 10) rfl)) (inU_1 _ (List.mem_of_getElem? (i := 2) rfl)) (inU_25 _ (List.mem_of_getElem? (i := 11) rfl)) rfl rfl (by decide +kernel) ⟨Nat.le_of_ble_eq_true rfl, Nat.le_of_ble_eq_true rfl⟩) (k_recv Z X ct_0 rfl) rfl hl.1 rfl (Nat.le_of_ble_eq_true rfl) dL_isSo_60 ⟨(by show _ ≤ (_ : Nat); simp only [headSpec]; omega), (by show _ ≤ (_ : Nat); simp only [headSpec]; omega)⟩) (fun x ce q9 ad1 ct1 H locs hp X x1 x2 x3 => ?_) (fun r_60 ad1 ct1 H locs hp X => ?_)
              · rcases hp.1 with z | z <;> exact absurd ((cMsg_0 (by omega) (by omega) (by decide)).symm.trans z.1) (by decide)
              obtain ⟨⟨-, rfl⟩, ha_, hb_⟩ := hp
              rw [← ha_, hb_] at X
              refine lv_topi (fun x_60 e_60 => ?_)
              obtain rfl : x_60 = nI (cntN Sr (kdS Sr i) (Sr.2 0 0)) := e_60.trans (rM6 (by omega))
              refine lv_aload_n hx hb dL_isSo_63 rfl (lv_at hl 4 rfl) ?_
              refine lv_aload hx hb dL_isSo_64 (lv_at hl 8 rfl) ?_
              refine lv_aload hx hb dL_isSo_66 (lv_at hl 14 rfl) ?_
              refine lv_iload hx hb dL_isSo_68 (lv_at hl 0 rfl) ?_
              refine lv_iconst (v := (-1)) hx hb dL_isSo_70 (by decide) ?_
              refine k_Ri X (k_runS (As := [.ref (ad 17 0), .ref (ad 17 4), .ref (ad 17 10), .int (nI i), .int (-1)]) (rest := [.int (nI (cntN Sr (kdS Sr i) (Sr.2 0 0)))]) Z X (c_L_counted1 l E G Sr T o ad Sr hT i (by omega)) (k_cwS 5 Z.1.2.2.2.2 (inU_27 _ (List.mem_of_getElem? (i := 14) rfl)) (inU_27 _ (List.mem_of_getElem? (i := 15) rfl)) (inU_6 _ (List.mem_of_getElem? (i := 5) rfl)) (inU_27 _ (List.mem_of_getElem? (i := 16) rfl)) rfl rfl (by decide +kernel) ⟨Nat.le_of_ble_eq_true rfl, Nat.le_of_ble_eq_true rfl⟩) rfl hl.1 rfl (Nat.le_of_ble_eq_true rfl) dL_isSo_71 ⟨(by first | exact Nat.le_of_ble_eq_true rfl | (show _ ≤ (_ : Nat); simp only [headSpec]; omega)), (by first | exact Nat.le_of_ble_eq_true rfl | (show _ ≤ (_ : Nat); simp only [headSpec]; omega))⟩) (fun r_71 ad1 ct1 H locs hp X => ?_)
              obtain ⟨rfl, ha_, hb_⟩ := hp
              rw [← ha_, hb_] at X
              refine lv_icmp_ne (tgt := 81) hx hb dL_isSo_74 (by decide) (fun c_74 => ?_) (fun c_74 => ?_)
              · exact absurd rfl c_74
              · refine lv_iconst (v := 1) hx hb dL_isSo_77 (by decide) ?_
                refine lv_goto (tgt := 82) hx hb dL_isSo_78 (by decide) ?_
                refine lv_istore (lv' := [(13, .int 1), (15, .int (nI i)), (14, .int 0), (0, .ref (ad 0 0)), (1, .ref (ad 17 0)), (2, .ref (ad 17 1)), (3, .ref (ad 17 2)), (4, .ref (ad 17 3)), (5, .ref (ad 17 4)), (6, .ref (ad 17 5)), (7, .ref (ad 17 6)), (8, .ref (ad 17 7)), (9, .ref (ad 17 8)), (10, .ref (ad 17 9)), (11, .ref (ad 17 10)), (12, .int (nI x1))]) hx hb dL_isSo_82 hl (by decide) rfl (fun ls hl => ?_)
                refine lv_aload_n hx hb dL_isSo_84 rfl (lv_at hl 4 rfl) ?_
                refine lv_aload_n hx hb dL_isSo_85 rfl (lv_at hl 5 rfl) ?_
                refine lv_aload hx hb dL_isSo_86 (lv_at hl 8 rfl) ?_
                refine lv_aload hx hb dL_isSo_88 (lv_at hl 14 rfl) ?_
                refine lv_iload hx hb dL_isSo_90 (lv_at hl 1 rfl) ?_
                refine lv_sipush (v := 1000) hx hb dL_isSo_92 (by decide) ?_
                refine k_Ri X (k_runS (As := [.ref (ad 17 0), .ref (ad 17 1), .ref (ad 17 4), .ref (ad 17 10), .int (nI i), .int 1000]) (rest := []) Z X (c_L_isApproved l E G Sr T o ad Sr hT hN i 1000 (by omega)) (k_cwS 6 Z.1.2.2.2.2 (inU_27 _ (List.mem_of_getElem? (i := 21) rfl)) (inU_27 _ (List.mem_of_getElem? (i := 22) rfl)) (inU_6 _ (List.mem_of_getElem? (i := 5) rfl)) (inU_27 _ (List.mem_of_getElem? (i := 23) rfl)) rfl rfl (by decide +kernel) ⟨Nat.le_of_ble_eq_true rfl, Nat.le_of_ble_eq_true rfl⟩) rfl hl.1 rfl (Nat.le_of_ble_eq_true rfl) dL_isSo_95 ⟨(by first | exact Nat.le_of_ble_eq_true rfl | (show _ ≤ (_ : Nat); simp only [headSpec]; omega)), (by first | exact Nat.le_of_ble_eq_true rfl | (show _ ≤ (_ : Nat); simp only [headSpec]; omega))⟩) (fun r_95 ad1 ct1 H locs hp X => ?_)
                obtain ⟨rfl, ha_, hb_⟩ := hp
                rw [← ha_, hb_] at X
                refine lv_istore (lv' := [(16, .int (bI (appr Sr (kdS Sr i) (Sr.2 1 i) (Sr.2 0 0) 1000))), (13, .int 1), (15, .int (nI i)), (14, .int 0), (0, .ref (ad 0 0)), (1, .ref (ad 17 0)), (2, .ref (ad 17 1)), (3, .ref (ad 17 2)), (4, .ref (ad 17 3)), (5, .ref (ad 17 4)), (6, .ref (ad 17 5)), (7, .ref (ad 17 6)), (8, .ref (ad 17 7)), (9, .ref (ad 17 8)), (10, .ref (ad 17 9)), (11, .ref (ad 17 10)), (12, .int (nI x1))]) hx hb dL_isSo_98 hl (by decide) rfl (fun ls hl => ?_)
                refine lv_aload_n hx hb dL_isSo_100 rfl (lv_at hl 5 rfl) ?_
                refine lv_aload_n hx hb dL_isSo_101 rfl (lv_at hl 6 rfl) ?_
                refine lv_aload hx hb dL_isSo_102 (lv_at hl 9 rfl) ?_
                refine lv_aload hx hb dL_isSo_104 (lv_at hl 15 rfl) ?_
                refine lv_iload hx hb dL_isSo_106 (lv_at hl 2 rfl) ?_
                refine lv_sipush (v := 1001) hx hb dL_isSo_108 (by decide) ?_
                refine k_Ri X (k_runS (As := [.ref (ad 17 0), .ref (ad 17 1), .ref (ad 17 4), .ref (ad 17 10), .int (nI i), .int 1001]) (rest := []) Z X (c_L_isApproved l E G Sr T o ad Sr hT hN i 1001 (by omega)) (k_cwS 6 Z.1.2.2.2.2 (inU_27 _ (List.mem_of_getElem? (i := 21) rfl)) (inU_27 _ (List.mem_of_getElem? (i := 22) rfl)) (inU_6 _ (List.mem_of_getElem? (i := 5) rfl)) (inU_27 _ (List.mem_of_getElem? (i := 23) rfl)) rfl rfl (by decide +kernel) ⟨Nat.le_of_ble_eq_true rfl, Nat.le_of_ble_eq_true rfl⟩) rfl hl.1 rfl (Nat.le_of_ble_eq_true rfl) dL_isSo_111 ⟨(by first | exact Nat.le_of_ble_eq_true rfl | (show _ ≤ (_ : Nat); simp only [headSpec]; omega)), (by first | exact Nat.le_of_ble_eq_true rfl | (show _ ≤ (_ : Nat); simp only [headSpec]; omega))⟩) (fun r_111 ad1 ct1 H locs hp X => ?_)
                obtain ⟨rfl, ha_, hb_⟩ := hp
                rw [← ha_, hb_] at X
                refine lv_istore (lv' := [(17, .int (bI (appr Sr (kdS Sr i) (Sr.2 1 i) (Sr.2 0 0) 1001))), (16, .int (bI (appr Sr (kdS Sr i) (Sr.2 1 i) (Sr.2 0 0) 1000))), (13, .int 1), (15, .int (nI i)), (14, .int 0), (0, .ref (ad 0 0)), (1, .ref (ad 17 0)), (2, .ref (ad 17 1)), (3, .ref (ad 17 2)), (4, .ref (ad 17 3)), (5, .ref (ad 17 4)), (6, .ref (ad 17 5)), (7, .ref (ad 17 6)), (8, .ref (ad 17 7)), (9, .ref (ad 17 8)), (10, .ref (ad 17 9)), (11, .ref (ad 17 10)), (12, .int (nI x1))]) hx hb dL_isSo_114 hl (by decide) rfl (fun ls hl => ?_)
                have hLgr : Lgr Sr := hIr.1.choose_spec.1.2.2.2.2.2.1
                refine lv_iload hx hb dL_isSo_116 (lv_at hl 2 rfl) ?_
                refine lv_if_eq (tgt := 182) hx hb dL_isSo_118 (by decide) (fun c_118 => ?_) (fun c_118 => ?_)
                · exact absurd c_118 (by decide)
                · refine lv_aload_n hx hb dL_isSo_121 rfl (lv_at hl 5 rfl) ?_
                  refine lv_iload hx hb dL_isSo_122 (lv_at hl 3 rfl) ?_
                  refine lv_sipush (v := 1000) hx hb dL_isSo_124 (by decide) ?_
                  refine lv_iconst (v := 0) hx hb dL_isSo_127 (by decide) ?_
                  refine k_xRi X (k_xrunV (As := [.int (nI i), .int 1000, .int 0]) (rest := []) Z X (c_X7_isApproved l E G Sr T o ad (nI i) 1000 0 hE hS hL hK9 hLg hRp) (k_cwV 3 Z.1.2.2.2.2 (inU_25 _ (List.mem_of_getElem? (i := 12) rfl)) (inU_25 _ (List.mem_of_getElem? (i := 13) rfl)) (inU_25 _ (List.mem_of_getElem? (i := 14) rfl)) (inU_1 _ (List.mem_of_getElem? (i := 2) rfl)) (inU_25 _ (List.mem_of_getElem? (i := 15) rfl)) rfl rfl (by decide +kernel) ⟨Nat.le_of_ble_eq_true rfl, Nat.le_of_ble_eq_true rfl⟩) (k_recv Z X ct_0 rfl) rfl hl.1 rfl (Nat.le_of_ble_eq_true rfl) dL_isSo_128 ⟨(by show _ ≤ (_ : Nat); simp only [headSpec]; omega), (by show _ ≤ (_ : Nat); simp only [headSpec]; omega)⟩) (fun x ce q9 ad1 ct1 H locs hp X x1 x2 x3 => ?_) (fun r_128 ad1 ct1 H locs hp X => ?_)
                  · rcases hp.1 with z | z <;> exact absurd ((cAp_0 (by first | exact (by omega) | exact (show i < Sr.2 0 1 by omega)) (by first | omega | exact (show Sr.2 0 1 < 2 ^ 31 by omega)) (by decide)).symm.trans z.1) (by decide)
                  obtain ⟨⟨-, rfl⟩, ha_, hb_⟩ := hp
                  rw [← ha_, hb_] at X
                  refine lv_topi (fun y_128 f_128 => ?_)
                  obtain rfl : y_128 = bI (appr Sr (kdS Sr i) (Sr.2 1 i) (Sr.2 0 0) 1000) := f_128.trans (by rw [show rAprC Sr = rAprC (sF Sr 18 (Sr.1 18)) from by rw [sF_id], apr_any (y := 1000) hN hLgr (by omega) (by decide)])
                  have X : kX E G s H locs ad (cto G Sr T o ad) := X
                  refine lv_iload hx hb dL_isSo_131 (lv_at hl 1 rfl) ?_
                  refine lv_icmp_ne (tgt := 182) hx hb dL_isSo_133 (by decide) (fun c_133 => ?_) (fun c_133 => ?_)
                  · exact absurd rfl c_133
                  · refine lv_aload_n hx hb dL_isSo_136 rfl (lv_at hl 5 rfl) ?_
                    refine lv_iload hx hb dL_isSo_137 (lv_at hl 3 rfl) ?_
                    refine lv_iconst (v := 1) hx hb dL_isSo_139 (by decide) ?_
                    refine lv_iconst (v := 1) hx hb dL_isSo_140 (by decide) ?_
                    refine k_xRi X (k_xrunV (As := [.int (nI i), .int 1, .int 1]) (rest := []) Z X (c_X7_isApproved l E G Sr T o ad (nI i) 1 1 hE hS hL hK9 hLg hRp) (k_cwV 3 Z.1.2.2.2.2 (inU_25 _ (List.mem_of_getElem? (i := 12) rfl)) (inU_25 _ (List.mem_of_getElem? (i := 13) rfl)) (inU_25 _ (List.mem_of_getElem? (i := 14) rfl)) (inU_1 _ (List.mem_of_getElem? (i := 2) rfl)) (inU_25 _ (List.mem_of_getElem? (i := 15) rfl)) rfl rfl (by decide +kernel) ⟨Nat.le_of_ble_eq_true rfl, Nat.le_of_ble_eq_true rfl⟩) (k_recv Z X ct_0 rfl) rfl hl.1 rfl (Nat.le_of_ble_eq_true rfl) dL_isSo_141 ⟨(by show _ ≤ (_ : Nat); simp only [headSpec]; omega), (by show _ ≤ (_ : Nat); simp only [headSpec]; omega)⟩) (fun x ce q9 ad1 ct1 H locs hp X x1 x2 x3 => ?_) (fun r_141 ad1 ct1 H locs hp X => ?_)
                    · rcases hp.1 with z | z <;> exact absurd ((cAp_0 (by first | exact (by omega) | exact (show i < Sr.2 0 1 by omega)) (by first | omega | exact (show Sr.2 0 1 < 2 ^ 31 by omega)) (by decide)).symm.trans z.1) (by decide)
                    obtain ⟨⟨-, rfl⟩, ha_, hb_⟩ := hp
                    rw [← ha_, hb_] at X
                    refine lv_topi (fun y_141 f_141 => ?_)
                    obtain rfl : y_141 = bI (appr Sr (kdS Sr i) (Sr.2 1 i) (Sr.2 0 0) 1000) := f_141.trans (by rw [show rAprC Sr = rAprC (sF Sr 18 (Sr.1 18)) from by rw [sF_id], apr_any (y := 1000) hN hLgr (by omega) (by decide)])
                    obtain ⟨g1, hg1⟩ : ∃ y, y = rpl Sr (cl (nI i)) (Sr.1 18) (Sr.2 0 4) := ⟨_, rfl⟩
                    have X : kX E G s H locs ad (cto G (sF Sr 18 g1) T o ad) := X.eq (by rw [hg1]; rfl)
                    have hI2 : Inv n9 (sF Sr 18 g1) T := hIr.s18 g1
                    refine lv_iload hx hb dL_isSo_144 (lv_at hl 1 rfl) ?_
                    refine lv_icmp_ne (tgt := 182) hx hb dL_isSo_146 (by decide) (fun c_146 => ?_) (fun c_146 => ?_)
                    · exact absurd rfl c_146
                    · refine lv_aload_n hx hb dL_isSo_149 rfl (lv_at hl 5 rfl) ?_
                      refine lv_iload hx hb dL_isSo_150 (lv_at hl 3 rfl) ?_
                      refine lv_sipush (v := 1001) hx hb dL_isSo_152 (by decide) ?_
                      refine lv_iconst (v := 0) hx hb dL_isSo_155 (by decide) ?_
                      refine k_xRi X (k_xrunV (As := [.int (nI i), .int 1001, .int 0]) (rest := []) Z X (c_X7_isApproved l E G (sF Sr 18 g1) T o ad (nI i) 1001 0 hE hI2.ok.1 hI2.ok.2.1 hI2.ok.2.2.1 hI2.ok.2.2.2.1 hI2.ok.2.2.2.2.1) (k_cwV 3 Z.1.2.2.2.2 (inU_25 _ (List.mem_of_getElem? (i := 12) rfl)) (inU_25 _ (List.mem_of_getElem? (i := 13) rfl)) (inU_25 _ (List.mem_of_getElem? (i := 14) rfl)) (inU_1 _ (List.mem_of_getElem? (i := 2) rfl)) (inU_25 _ (List.mem_of_getElem? (i := 15) rfl)) rfl rfl (by decide +kernel) ⟨Nat.le_of_ble_eq_true rfl, Nat.le_of_ble_eq_true rfl⟩) (k_recv Z X ct_0 rfl) rfl hl.1 rfl (Nat.le_of_ble_eq_true rfl) dL_isSo_156 ⟨(by show _ ≤ (_ : Nat); simp only [headSpec]; omega), (by show _ ≤ (_ : Nat); simp only [headSpec]; omega)⟩) (fun x ce q9 ad1 ct1 H locs hp X x1 x2 x3 => ?_) (fun r_156 ad1 ct1 H locs hp X => ?_)
                      · rcases hp.1 with z | z <;> exact absurd ((cAp_0 (by first | exact (by omega) | exact (show i < Sr.2 0 1 by omega)) (by first | omega | exact (show Sr.2 0 1 < 2 ^ 31 by omega)) (by decide)).symm.trans z.1) (by decide)
                      obtain ⟨⟨-, rfl⟩, ha_, hb_⟩ := hp
                      rw [← ha_, hb_] at X
                      refine lv_topi (fun y_156 f_156 => ?_)
                      obtain rfl : y_156 = bI (appr Sr (kdS Sr i) (Sr.2 1 i) (Sr.2 0 0) 1001) := f_156.trans (by rw [apr_any (y := 1001) hN hLgr (by omega) (by decide)])
                      have X : kX E G s H locs ad (cto G (sF Sr 18 g1) T o ad) := X
                      refine lv_iload hx hb dL_isSo_159 (lv_at hl 0 rfl) ?_
                      refine lv_icmp_ne (tgt := 182) hx hb dL_isSo_161 (by decide) (fun c_161 => ?_) (fun c_161 => ?_)
                      · exact absurd rfl c_161
                      · refine lv_aload_n hx hb dL_isSo_164 rfl (lv_at hl 5 rfl) ?_
                        refine lv_iload hx hb dL_isSo_165 (lv_at hl 3 rfl) ?_
                        refine lv_ldc (v := 1000000) hx hb Z.1.2.2.2.1 (Z.1.2.2.2.2 _ (inU_28 _ (List.mem_of_getElem? (i := 12) rfl))) dL_isSo_167 ?_
                        refine lv_iconst (v := 1) hx hb dL_isSo_169 (by decide) ?_
                        refine k_xRi X (k_xrunV (As := [.int (nI i), .int 1000000, .int 1]) (rest := []) Z X (c_X7_isApproved l E G (sF Sr 18 g1) T o ad (nI i) 1000000 1 hE hI2.ok.1 hI2.ok.2.1 hI2.ok.2.2.1 hI2.ok.2.2.2.1 hI2.ok.2.2.2.2.1) (k_cwV 3 Z.1.2.2.2.2 (inU_25 _ (List.mem_of_getElem? (i := 12) rfl)) (inU_25 _ (List.mem_of_getElem? (i := 13) rfl)) (inU_25 _ (List.mem_of_getElem? (i := 14) rfl)) (inU_1 _ (List.mem_of_getElem? (i := 2) rfl)) (inU_25 _ (List.mem_of_getElem? (i := 15) rfl)) rfl rfl (by decide +kernel) ⟨Nat.le_of_ble_eq_true rfl, Nat.le_of_ble_eq_true rfl⟩) (k_recv Z X ct_0 rfl) rfl hl.1 rfl (Nat.le_of_ble_eq_true rfl) dL_isSo_170 ⟨(by show _ ≤ (_ : Nat); simp only [headSpec]; omega), (by show _ ≤ (_ : Nat); simp only [headSpec]; omega)⟩) (fun x ce q9 ad1 ct1 H locs hp X x1 x2 x3 => ?_) (fun r_170 ad1 ct1 H locs hp X => ?_)
                        · rcases hp.1 with z | z <;> exact absurd ((cAp_0 (by first | exact (by omega) | exact (show i < Sr.2 0 1 by omega)) (by first | omega | exact (show Sr.2 0 1 < 2 ^ 31 by omega)) (by decide)).symm.trans z.1) (by decide)
                        obtain ⟨⟨-, rfl⟩, ha_, hb_⟩ := hp
                        rw [← ha_, hb_] at X
                        refine lv_topi (fun y_170 f_170 => ?_)
                        obtain rfl : y_170 = bI (appr Sr (kdS Sr i) (Sr.2 1 i) (Sr.2 0 0) 1001) := f_170.trans (by rw [apr_any (y := 1001) hN hLgr (by omega) (by decide)])
                        obtain ⟨g2, hg2⟩ : ∃ y, y = rpl (sF Sr 18 g1) (cl (nI i)) ((sF Sr 18 g1).1 18) ((sF Sr 18 g1).2 0 4) := ⟨_, rfl⟩
                        have X : kX E G s H locs ad (cto G (sF Sr 18 g2) T o ad) := X.eq (by rw [hg2, ← sF_F (v := rpl _ _ _ _)]; rfl)
                        have hI2 : Inv n9 (sF Sr 18 g2) T := hIr.s18 g2
                        refine lv_iload hx hb dL_isSo_173 (lv_at hl 0 rfl) ?_
                        refine lv_icmp_ne (tgt := 182) hx hb dL_isSo_175 (by decide) (fun c_175 => ?_) (fun c_175 => ?_)
                        · exact absurd rfl c_175
                        · refine lv_iconst (v := 1) hx hb dL_isSo_178 (by decide) ?_
                          refine lv_goto (tgt := 183) hx hb dL_isSo_179 (by decide) ?_
                          refine lv_istore (lv' := [(13, .int 1), (17, .int (bI (appr Sr (kdS Sr i) (Sr.2 1 i) (Sr.2 0 0) 1001))), (16, .int (bI (appr Sr (kdS Sr i) (Sr.2 1 i) (Sr.2 0 0) 1000))), (15, .int (nI i)), (14, .int 0), (0, .ref (ad 0 0)), (1, .ref (ad 17 0)), (2, .ref (ad 17 1)), (3, .ref (ad 17 2)), (4, .ref (ad 17 3)), (5, .ref (ad 17 4)), (6, .ref (ad 17 5)), (7, .ref (ad 17 6)), (8, .ref (ad 17 7)), (9, .ref (ad 17 8)), (10, .ref (ad 17 9)), (11, .ref (ad 17 10)), (12, .int (nI x1))]) hx hb dL_isSo_183 hl (by decide) rfl (fun ls hl => ?_)
                          refine lv_iinc (v := (nI (i + 1))) (lv' := [(15, .int (nI (i + 1))), (13, .int 1), (17, .int (bI (appr Sr (kdS Sr i) (Sr.2 1 i) (Sr.2 0 0) 1001))), (16, .int (bI (appr Sr (kdS Sr i) (Sr.2 1 i) (Sr.2 0 0) 1000))), (14, .int 0), (0, .ref (ad 0 0)), (1, .ref (ad 17 0)), (2, .ref (ad 17 1)), (3, .ref (ad 17 2)), (4, .ref (ad 17 3)), (5, .ref (ad 17 4)), (6, .ref (ad 17 5)), (7, .ref (ad 17 6)), (8, .ref (ad 17 7)), (9, .ref (ad 17 8)), (10, .ref (ad 17 9)), (11, .ref (ad 17 10)), (12, .int (nI x1))]) hx hb dL_isSo_185 hl (k := 3) rfl (nI_1 _) (by decide) rfl (fun ls hl => ?_)
                          refine lv_goto (tgt := 9) hx hb dL_isSo_188 (by decide) ?_
                          refine W.widen (k := 0 + 14 * (i + 1)) (n := 0 + 84 * (i + 1)) (by omega) (by omega) ?_
                          exact ih (i + 1) (sF Sr 18 g2) (show i + 1 ≤ Sr.2 0 1 by omega) hI2 (show Sr.2 0 1 < i + 1 + d by omega) _ _ _ X (lv_sub hl [0, 1, 4, 5, 6, 7, 8, 9, 10, 11, 12, 13, 14, 15, 16, 17] rfl)
  exact LOOP_9 (S.2 0 1 + 1) 0 S (Nat.zero_le _) hI (by omega) _ _ _ X (lv_sub hl [0, 2, 1, 3, 4, 5, 6, 7, 8, 9, 10, 11, 12, 13, 14, 15] rfl)
