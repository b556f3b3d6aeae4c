/-! THE LAW'S isSpend -/
def amq (x : Nat) : Nat := if x / 13 % 4 = 0 then x * 17 % 1000003 else if x / 13 % 4 = 1 then 999 + x / 52 % 3 else 1 + x / 52 % 1500
theorem amq_lt (x : Nat) : amq x < 1000003 := by unfold amq; split; exact Nat.mod_lt _ (by decide); split <;> omega
def hoq (x : Nat) : Nat := if x / 31 % 6 = 0 then x * 3 % 10002 else x / 31 % 40
theorem hoq_lt (x : Nat) : hoq x < 10002 := by unfold hoq; split; exact Nat.mod_lt _ (by decide); omega
theorem Iv.t30 {n : Nat} {S A : kSt} (h : Iv n S A) (y : Int32) : Iv n S (sI A 9 30 y) := ⟨⟨h.1.1, h.1.2.1.t30 y, (sI_f (by decide)).trans h.1.2.2⟩, h.2⟩
theorem dL_isSpend_0 : decode cL_isSpend 0 = .ok (.iload 12, 2) := by decide +kernel
theorem dL_isSpend_2 : decode cL_isSpend 2 = .ok (.aload 10, 2) := by decide +kernel
theorem dL_isSpend_4 : decode cL_isSpend 4 = .ok (.iconst 1, 1) := by decide +kernel
theorem dL_isSpend_5 : decode cL_isSpend 5 = .ok (.iaload, 1) := by decide +kernel
theorem dL_isSpend_6 : decode cL_isSpend 6 = .ok (.iconst 1, 1) := by decide +kernel
theorem dL_isSpend_7 : decode cL_isSpend 7 = .ok (.iadd, 1) := by decide +kernel
theorem dL_isSpend_8 : decode cL_isSpend 8 = .ok (.irem, 1) := by decide +kernel
theorem dL_isSpend_9 : decode cL_isSpend 9 = .ok (.istore 14, 2) := by decide +kernel
theorem dL_isSpend_11 : decode cL_isSpend 11 = .ok (.iload 13, 2) := by decide +kernel
theorem dL_isSpend_13 : decode cL_isSpend 13 = .ok (.aload 10, 2) := by decide +kernel
theorem dL_isSpend_15 : decode cL_isSpend 15 = .ok (.iconst 2, 1) := by decide +kernel
theorem dL_isSpend_16 : decode cL_isSpend 16 = .ok (.iaload, 1) := by decide +kernel
theorem dL_isSpend_17 : decode cL_isSpend 17 = .ok (.iconst 1, 1) := by decide +kernel
theorem dL_isSpend_18 : decode cL_isSpend 18 = .ok (.iadd, 1) := by decide +kernel
theorem dL_isSpend_19 : decode cL_isSpend 19 = .ok (.irem, 1) := by decide +kernel
theorem dL_isSpend_20 : decode cL_isSpend 20 = .ok (.istore 15, 2) := by decide +kernel
theorem dL_isSpend_22 : decode cL_isSpend 22 = .ok (.iload 14, 2) := by decide +kernel
theorem dL_isSpend_24 : decode cL_isSpend 24 = .ok (.aload 10, 2) := by decide +kernel
theorem dL_isSpend_26 : decode cL_isSpend 26 = .ok (.iconst 1, 1) := by decide +kernel
theorem dL_isSpend_27 : decode cL_isSpend 27 = .ok (.iaload, 1) := by decide +kernel
theorem dL_isSpend_28 : decode cL_isSpend 28 = .ok (.if_icmp .ge 7, 3) := by decide +kernel
theorem dL_isSpend_31 : decode cL_isSpend 31 = .ok (.iconst 1, 1) := by decide +kernel
theorem dL_isSpend_32 : decode cL_isSpend 32 = .ok (.goto 4, 3) := by decide +kernel
theorem dL_isSpend_35 : decode cL_isSpend 35 = .ok (.iconst 0, 1) := by decide +kernel
theorem dL_isSpend_36 : decode cL_isSpend 36 = .ok (.istore 16, 2) := by decide +kernel
theorem dL_isSpend_38 : decode cL_isSpend 38 = .ok (.iload 16, 2) := by decide +kernel
theorem dL_isSpend_40 : decode cL_isSpend 40 = .ok (.ifCond .eq 16, 3) := by decide +kernel
theorem dL_isSpend_43 : decode cL_isSpend 43 = .ok (.iload 15, 2) := by decide +kernel
theorem dL_isSpend_45 : decode cL_isSpend 45 = .ok (.aload 10, 2) := by decide +kernel
theorem dL_isSpend_47 : decode cL_isSpend 47 = .ok (.iconst 2, 1) := by decide +kernel
theorem dL_isSpend_48 : decode cL_isSpend 48 = .ok (.iaload, 1) := by decide +kernel
theorem dL_isSpend_49 : decode cL_isSpend 49 = .ok (.if_icmp .ge 7, 3) := by decide +kernel
theorem dL_isSpend_52 : decode cL_isSpend 52 = .ok (.iconst 1, 1) := by decide +kernel
theorem dL_isSpend_53 : decode cL_isSpend 53 = .ok (.goto 4, 3) := by decide +kernel
theorem dL_isSpend_56 : decode cL_isSpend 56 = .ok (.iconst 0, 1) := by decide +kernel
theorem dL_isSpend_57 : decode cL_isSpend 57 = .ok (.istore 17, 2) := by decide +kernel
theorem dL_isSpend_59 : decode cL_isSpend 59 = .ok (.iload 17, 2) := by decide +kernel
theorem dL_isSpend_61 : decode cL_isSpend 61 = .ok (.ifCond .eq 28, 3) := by decide +kernel
theorem dL_isSpend_64 : decode cL_isSpend 64 = .ok (.aload_n 1, 1) := by decide +kernel
theorem dL_isSpend_65 : decode cL_isSpend 65 = .ok (.aload 10, 2) := by decide +kernel
theorem dL_isSpend_67 : decode cL_isSpend 67 = .ok (.iload 14, 2) := by decide +kernel
theorem dL_isSpend_69 : decode cL_isSpend 69 = .ok (.invokestatic 79, 3) := by decide +kernel
theorem dL_isSpend_72 : decode cL_isSpend 72 = .ok (.ifCond .ne 17, 3) := by decide +kernel
theorem dL_isSpend_75 : decode cL_isSpend 75 = .ok (.aload_n 2, 1) := by decide +kernel
theorem dL_isSpend_76 : decode cL_isSpend 76 = .ok (.iload 15, 2) := by decide +kernel
theorem dL_isSpend_78 : decode cL_isSpend 78 = .ok (.iaload, 1) := by decide +kernel
theorem dL_isSpend_79 : decode cL_isSpend 79 = .ok (.sipush 8192, 3) := by decide +kernel
theorem dL_isSpend_82 : decode cL_isSpend 82 = .ok (.if_icmp .ge 7, 3) := by decide +kernel
theorem dL_isSpend_85 : decode cL_isSpend 85 = .ok (.iconst 1, 1) := by decide +kernel
theorem dL_isSpend_86 : decode cL_isSpend 86 = .ok (.goto 4, 3) := by decide +kernel
theorem dL_isSpend_89 : decode cL_isSpend 89 = .ok (.iconst 0, 1) := by decide +kernel
theorem dL_isSpend_90 : decode cL_isSpend 90 = .ok (.istore 18, 2) := by decide +kernel
theorem dL_isSpend_92 : decode cL_isSpend 92 = .ok (.iload 11, 2) := by decide +kernel
theorem dL_isSpend_94 : decode cL_isSpend 94 = .ok (.ifCond .ne 256, 3) := by decide +kernel
theorem dL_isSpend_97 : decode cL_isSpend 97 = .ok (.aload 10, 2) := by decide +kernel
theorem dL_isSpend_99 : decode cL_isSpend 99 = .ok (.iconst 3, 1) := by decide +kernel
theorem dL_isSpend_100 : decode cL_isSpend 100 = .ok (.iaload, 1) := by decide +kernel
theorem dL_isSpend_101 : decode cL_isSpend 101 = .ok (.bipush 30, 2) := by decide +kernel
theorem dL_isSpend_103 : decode cL_isSpend 103 = .ok (.if_icmp .ge 247, 3) := by decide +kernel
theorem dL_isSpend_106 : decode cL_isSpend 106 = .ok (.iload 12, 2) := by decide +kernel
theorem dL_isSpend_108 : decode cL_isSpend 108 = .ok (.bipush 13, 2) := by decide +kernel
theorem dL_isSpend_110 : decode cL_isSpend 110 = .ok (.idiv, 1) := by decide +kernel
theorem dL_isSpend_111 : decode cL_isSpend 111 = .ok (.iconst 4, 1) := by decide +kernel
theorem dL_isSpend_112 : decode cL_isSpend 112 = .ok (.irem, 1) := by decide +kernel
theorem dL_isSpend_113 : decode cL_isSpend 113 = .ok (.ifCond .ne 14, 3) := by decide +kernel
theorem dL_isSpend_116 : decode cL_isSpend 116 = .ok (.iload 12, 2) := by decide +kernel
theorem dL_isSpend_118 : decode cL_isSpend 118 = .ok (.bipush 17, 2) := by decide +kernel
theorem dL_isSpend_120 : decode cL_isSpend 120 = .ok (.imul, 1) := by decide +kernel
theorem dL_isSpend_121 : decode cL_isSpend 121 = .ok (.ldc 111, 2) := by decide +kernel
theorem dL_isSpend_123 : decode cL_isSpend 123 = .ok (.irem, 1) := by decide +kernel
theorem dL_isSpend_124 : decode cL_isSpend 124 = .ok (.goto 39, 3) := by decide +kernel
theorem dL_isSpend_127 : decode cL_isSpend 127 = .ok (.iload 12, 2) := by decide +kernel
theorem dL_isSpend_129 : decode cL_isSpend 129 = .ok (.bipush 13, 2) := by decide +kernel
theorem dL_isSpend_131 : decode cL_isSpend 131 = .ok (.idiv, 1) := by decide +kernel
theorem dL_isSpend_132 : decode cL_isSpend 132 = .ok (.iconst 4, 1) := by decide +kernel
theorem dL_isSpend_133 : decode cL_isSpend 133 = .ok (.irem, 1) := by decide +kernel
theorem dL_isSpend_134 : decode cL_isSpend 134 = .ok (.iconst 1, 1) := by decide +kernel
theorem dL_isSpend_135 : decode cL_isSpend 135 = .ok (.if_icmp .ne 17, 3) := by decide +kernel
theorem dL_isSpend_138 : decode cL_isSpend 138 = .ok (.sipush 999, 3) := by decide +kernel
theorem dL_isSpend_141 : decode cL_isSpend 141 = .ok (.iload 12, 2) := by decide +kernel
theorem dL_isSpend_143 : decode cL_isSpend 143 = .ok (.bipush 52, 2) := by decide +kernel
theorem dL_isSpend_145 : decode cL_isSpend 145 = .ok (.idiv, 1) := by decide +kernel
theorem dL_isSpend_146 : decode cL_isSpend 146 = .ok (.iconst 3, 1) := by decide +kernel
theorem dL_isSpend_147 : decode cL_isSpend 147 = .ok (.irem, 1) := by decide +kernel
theorem dL_isSpend_148 : decode cL_isSpend 148 = .ok (.iadd, 1) := by decide +kernel
theorem dL_isSpend_149 : decode cL_isSpend 149 = .ok (.goto 14, 3) := by decide +kernel
theorem dL_isSpend_152 : decode cL_isSpend 152 = .ok (.iconst 1, 1) := by decide +kernel
theorem dL_isSpend_153 : decode cL_isSpend 153 = .ok (.iload 12, 2) := by decide +kernel
theorem dL_isSpend_155 : decode cL_isSpend 155 = .ok (.bipush 52, 2) := by decide +kernel
theorem dL_isSpend_157 : decode cL_isSpend 157 = .ok (.idiv, 1) := by decide +kernel
theorem dL_isSpend_158 : decode cL_isSpend 158 = .ok (.sipush 1500, 3) := by decide +kernel
theorem dL_isSpend_161 : decode cL_isSpend 161 = .ok (.irem, 1) := by decide +kernel
theorem dL_isSpend_162 : decode cL_isSpend 162 = .ok (.iadd, 1) := by decide +kernel
theorem dL_isSpend_163 : decode cL_isSpend 163 = .ok (.istore 19, 2) := by decide +kernel
theorem dL_isSpend_165 : decode cL_isSpend 165 = .ok (.iload 19, 2) := by decide +kernel
theorem dL_isSpend_167 : decode cL_isSpend 167 = .ok (.ifCond .le 14, 3) := by decide +kernel
theorem dL_isSpend_170 : decode cL_isSpend 170 = .ok (.iload 19, 2) := by decide +kernel
theorem dL_isSpend_172 : decode cL_isSpend 172 = .ok (.ldc 112, 2) := by decide +kernel
theorem dL_isSpend_174 : decode cL_isSpend 174 = .ok (.if_icmp .ge 7, 3) := by decide +kernel
theorem dL_isSpend_177 : decode cL_isSpend 177 = .ok (.iconst 1, 1) := by decide +kernel
theorem dL_isSpend_178 : decode cL_isSpend 178 = .ok (.goto 4, 3) := by decide +kernel
theorem dL_isSpend_181 : decode cL_isSpend 181 = .ok (.iconst 0, 1) := by decide +kernel
theorem dL_isSpend_182 : decode cL_isSpend 182 = .ok (.istore 20, 2) := by decide +kernel
theorem dL_isSpend_184 : decode cL_isSpend 184 = .ok (.iload 18, 2) := by decide +kernel
theorem dL_isSpend_186 : decode cL_isSpend 186 = .ok (.ifCond .eq 46, 3) := by decide +kernel
theorem dL_isSpend_189 : decode cL_isSpend 189 = .ok (.iload 20, 2) := by decide +kernel
theorem dL_isSpend_191 : decode cL_isSpend 191 = .ok (.ifCond .eq 41, 3) := by decide +kernel
theorem dL_isSpend_194 : decode cL_isSpend 194 = .ok (.aload_n 1, 1) := by decide +kernel
theorem dL_isSpend_195 : decode cL_isSpend 195 = .ok (.aload_n 2, 1) := by decide +kernel
theorem dL_isSpend_196 : decode cL_isSpend 196 = .ok (.aload 4, 2) := by decide +kernel
theorem dL_isSpend_198 : decode cL_isSpend 198 = .ok (.aload 10, 2) := by decide +kernel
theorem dL_isSpend_200 : decode cL_isSpend 200 = .ok (.iload 15, 2) := by decide +kernel
theorem dL_isSpend_202 : decode cL_isSpend 202 = .ok (.iload 19, 2) := by decide +kernel
theorem dL_isSpend_204 : decode cL_isSpend 204 = .ok (.invokestatic 90, 3) := by decide +kernel
theorem dL_isSpend_207 : decode cL_isSpend 207 = .ok (.ifCond .eq 25, 3) := by decide +kernel
theorem dL_isSpend_210 : decode cL_isSpend 210 = .ok (.aload 5, 2) := by decide +kernel
theorem dL_isSpend_212 : decode cL_isSpend 212 = .ok (.aload_n 2, 1) := by decide +kernel
theorem dL_isSpend_213 : decode cL_isSpend 213 = .ok (.iload 15, 2) := by decide +kernel
theorem dL_isSpend_215 : decode cL_isSpend 215 = .ok (.iaload, 1) := by decide +kernel
theorem dL_isSpend_216 : decode cL_isSpend 216 = .ok (.bipush 16, 2) := by decide +kernel
theorem dL_isSpend_218 : decode cL_isSpend 218 = .ok (.idiv, 1) := by decide +kernel
theorem dL_isSpend_219 : decode cL_isSpend 219 = .ok (.bipush 8, 2) := by decide +kernel
theorem dL_isSpend_221 : decode cL_isSpend 221 = .ok (.irem, 1) := by decide +kernel
theorem dL_isSpend_222 : decode cL_isSpend 222 = .ok (.iaload, 1) := by decide +kernel
theorem dL_isSpend_223 : decode cL_isSpend 223 = .ok (.iload 19, 2) := by decide +kernel
theorem dL_isSpend_225 : decode cL_isSpend 225 = .ok (.if_icmp .lt 7, 3) := by decide +kernel
theorem dL_isSpend_228 : decode cL_isSpend 228 = .ok (.iconst 1, 1) := by decide +kernel
theorem dL_isSpend_229 : decode cL_isSpend 229 = .ok (.goto 4, 3) := by decide +kernel
theorem dL_isSpend_232 : decode cL_isSpend 232 = .ok (.iconst 0, 1) := by decide +kernel
theorem dL_isSpend_233 : decode cL_isSpend 233 = .ok (.istore 18, 2) := by decide +kernel
theorem dL_isSpend_235 : decode cL_isSpend 235 = .ok (.iload 18, 2) := by decide +kernel
theorem dL_isSpend_237 : decode cL_isSpend 237 = .ok (.ifCond .eq 55, 3) := by decide +kernel
theorem dL_isSpend_240 : decode cL_isSpend 240 = .ok (.aload 6, 2) := by decide +kernel
theorem dL_isSpend_242 : decode cL_isSpend 242 = .ok (.aload 10, 2) := by decide +kernel
theorem dL_isSpend_244 : decode cL_isSpend 244 = .ok (.iconst 3, 1) := by decide +kernel
theorem dL_isSpend_245 : decode cL_isSpend 245 = .ok (.iaload, 1) := by decide +kernel
theorem dL_isSpend_246 : decode cL_isSpend 246 = .ok (.iload 15, 2) := by decide +kernel
theorem dL_isSpend_248 : decode cL_isSpend 248 = .ok (.bipush 64, 2) := by decide +kernel
theorem dL_isSpend_250 : decode cL_isSpend 250 = .ok (.aload_n 3, 1) := by decide +kernel
theorem dL_isSpend_251 : decode cL_isSpend 251 = .ok (.iload 15, 2) := by decide +kernel
theorem dL_isSpend_253 : decode cL_isSpend 253 = .ok (.iaload, 1) := by decide +kernel
theorem dL_isSpend_254 : decode cL_isSpend 254 = .ok (.imul, 1) := by decide +kernel
theorem dL_isSpend_255 : decode cL_isSpend 255 = .ok (.iadd, 1) := by decide +kernel
theorem dL_isSpend_256 : decode cL_isSpend 256 = .ok (.iastore, 1) := by decide +kernel
theorem dL_isSpend_257 : decode cL_isSpend 257 = .ok (.aload 7, 2) := by decide +kernel
theorem dL_isSpend_259 : decode cL_isSpend 259 = .ok (.aload 10, 2) := by decide +kernel
theorem dL_isSpend_261 : decode cL_isSpend 261 = .ok (.iconst 3, 1) := by decide +kernel
theorem dL_isSpend_262 : decode cL_isSpend 262 = .ok (.iaload, 1) := by decide +kernel
theorem dL_isSpend_263 : decode cL_isSpend 263 = .ok (.iload 19, 2) := by decide +kernel
theorem dL_isSpend_265 : decode cL_isSpend 265 = .ok (.iastore, 1) := by decide +kernel
theorem dL_isSpend_266 : decode cL_isSpend 266 = .ok (.aload 5, 2) := by decide +kernel
theorem dL_isSpend_268 : decode cL_isSpend 268 = .ok (.aload_n 2, 1) := by decide +kernel
theorem dL_isSpend_269 : decode cL_isSpend 269 = .ok (.iload 15, 2) := by decide +kernel
theorem dL_isSpend_271 : decode cL_isSpend 271 = .ok (.iaload, 1) := by decide +kernel
theorem dL_isSpend_272 : decode cL_isSpend 272 = .ok (.bipush 16, 2) := by decide +kernel
theorem dL_isSpend_274 : decode cL_isSpend 274 = .ok (.idiv, 1) := by decide +kernel
theorem dL_isSpend_275 : decode cL_isSpend 275 = .ok (.bipush 8, 2) := by decide +kernel
theorem dL_isSpend_277 : decode cL_isSpend 277 = .ok (.irem, 1) := by decide +kernel
theorem dL_isSpend_278 : decode cL_isSpend 278 = .ok (.dup2, 1) := by decide +kernel
theorem dL_isSpend_279 : decode cL_isSpend 279 = .ok (.iaload, 1) := by decide +kernel
theorem dL_isSpend_280 : decode cL_isSpend 280 = .ok (.iload 19, 2) := by decide +kernel
theorem dL_isSpend_282 : decode cL_isSpend 282 = .ok (.isub, 1) := by decide +kernel
theorem dL_isSpend_283 : decode cL_isSpend 283 = .ok (.iastore, 1) := by decide +kernel
theorem dL_isSpend_284 : decode cL_isSpend 284 = .ok (.aload 10, 2) := by decide +kernel
theorem dL_isSpend_286 : decode cL_isSpend 286 = .ok (.iconst 3, 1) := by decide +kernel
theorem dL_isSpend_287 : decode cL_isSpend 287 = .ok (.dup2, 1) := by decide +kernel
theorem dL_isSpend_288 : decode cL_isSpend 288 = .ok (.iaload, 1) := by decide +kernel
theorem dL_isSpend_289 : decode cL_isSpend 289 = .ok (.iconst 1, 1) := by decide +kernel
theorem dL_isSpend_290 : decode cL_isSpend 290 = .ok (.iadd, 1) := by decide +kernel
theorem dL_isSpend_291 : decode cL_isSpend 291 = .ok (.iastore, 1) := by decide +kernel
theorem dL_isSpend_292 : decode cL_isSpend 292 = .ok (.aload_n 0, 1) := by decide +kernel
theorem dL_isSpend_293 : decode cL_isSpend 293 = .ok (.bipush 7, 2) := by decide +kernel
theorem dL_isSpend_295 : decode cL_isSpend 295 = .ok (.iload 14, 2) := by decide +kernel
theorem dL_isSpend_297 : decode cL_isSpend 297 = .ok (.iload 15, 2) := by decide +kernel
theorem dL_isSpend_299 : decode cL_isSpend 299 = .ok (.iload 19, 2) := by decide +kernel
theorem dL_isSpend_301 : decode cL_isSpend 301 = .ok (.iconst 0, 1) := by decide +kernel
theorem dL_isSpend_302 : decode cL_isSpend 302 = .ok (.invokestatic 106, 3) := by decide +kernel
theorem dL_isSpend_305 : decode cL_isSpend 305 = .ok (.iload 17, 2) := by decide +kernel
theorem dL_isSpend_307 : decode cL_isSpend 307 = .ok (.ifCond .ne 8, 3) := by decide +kernel
theorem dL_isSpend_310 : decode cL_isSpend 310 = .ok (.ldc 72, 2) := by decide +kernel
theorem dL_isSpend_312 : decode cL_isSpend 312 = .ok (.goto 29, 3) := by decide +kernel
theorem dL_isSpend_315 : decode cL_isSpend 315 = .ok (.iload 20, 2) := by decide +kernel
theorem dL_isSpend_317 : decode cL_isSpend 317 = .ok (.ifCond .ne 8, 3) := by decide +kernel
theorem dL_isSpend_320 : decode cL_isSpend 320 = .ok (.ldc 75, 2) := by decide +kernel
theorem dL_isSpend_322 : decode cL_isSpend 322 = .ok (.goto 19, 3) := by decide +kernel
theorem dL_isSpend_325 : decode cL_isSpend 325 = .ok (.iload 18, 2) := by decide +kernel
theorem dL_isSpend_327 : decode cL_isSpend 327 = .ok (.ifCond .eq 12, 3) := by decide +kernel
theorem dL_isSpend_330 : decode cL_isSpend 330 = .ok (.aload 10, 2) := by decide +kernel
theorem dL_isSpend_332 : decode cL_isSpend 332 = .ok (.iconst 3, 1) := by decide +kernel
theorem dL_isSpend_333 : decode cL_isSpend 333 = .ok (.iaload, 1) := by decide +kernel
theorem dL_isSpend_334 : decode cL_isSpend 334 = .ok (.iconst 1, 1) := by decide +kernel
theorem dL_isSpend_335 : decode cL_isSpend 335 = .ok (.isub, 1) := by decide +kernel
theorem dL_isSpend_336 : decode cL_isSpend 336 = .ok (.goto 5, 3) := by decide +kernel
theorem dL_isSpend_339 : decode cL_isSpend 339 = .ok (.ldc 78, 2) := by decide +kernel
theorem dL_isSpend_341 : decode cL_isSpend 341 = .ok (.if_icmp .ne 7, 3) := by decide +kernel
theorem dL_isSpend_344 : decode cL_isSpend 344 = .ok (.iconst 1, 1) := by decide +kernel
theorem dL_isSpend_345 : decode cL_isSpend 345 = .ok (.goto 4, 3) := by decide +kernel
theorem dL_isSpend_348 : decode cL_isSpend 348 = .ok (.iconst 0, 1) := by decide +kernel
theorem dL_isSpend_349 : decode cL_isSpend 349 = .ok (.ireturn, 1) := by decide +kernel
theorem dL_isSpend_350 : decode cL_isSpend 350 = .ok (.iload 11, 2) := by decide +kernel
theorem dL_isSpend_352 : decode cL_isSpend 352 = .ok (.iconst 2, 1) := by decide +kernel
theorem dL_isSpend_353 : decode cL_isSpend 353 = .ok (.if_icmp .ge 226, 3) := by decide +kernel
theorem dL_isSpend_356 : decode cL_isSpend 356 = .ok (.aload 10, 2) := by decide +kernel
theorem dL_isSpend_358 : decode cL_isSpend 358 = .ok (.iconst 4, 1) := by decide +kernel
theorem dL_isSpend_359 : decode cL_isSpend 359 = .ok (.iaload, 1) := by decide +kernel
theorem dL_isSpend_360 : decode cL_isSpend 360 = .ok (.bipush 30, 2) := by decide +kernel
theorem dL_isSpend_362 : decode cL_isSpend 362 = .ok (.if_icmp .ge 217, 3) := by decide +kernel
theorem dL_isSpend_365 : decode cL_isSpend 365 = .ok (.iload 12, 2) := by decide +kernel
theorem dL_isSpend_367 : decode cL_isSpend 367 = .ok (.bipush 13, 2) := by decide +kernel
theorem dL_isSpend_369 : decode cL_isSpend 369 = .ok (.idiv, 1) := by decide +kernel
theorem dL_isSpend_370 : decode cL_isSpend 370 = .ok (.aload 10, 2) := by decide +kernel
theorem dL_isSpend_372 : decode cL_isSpend 372 = .ok (.iconst 1, 1) := by decide +kernel
theorem dL_isSpend_373 : decode cL_isSpend 373 = .ok (.iaload, 1) := by decide +kernel
theorem dL_isSpend_374 : decode cL_isSpend 374 = .ok (.iconst 1, 1) := by decide +kernel
theorem dL_isSpend_375 : decode cL_isSpend 375 = .ok (.iadd, 1) := by decide +kernel
theorem dL_isSpend_376 : decode cL_isSpend 376 = .ok (.irem, 1) := by decide +kernel
theorem dL_isSpend_377 : decode cL_isSpend 377 = .ok (.istore 19, 2) := by decide +kernel
theorem dL_isSpend_379 : decode cL_isSpend 379 = .ok (.iload 13, 2) := by decide +kernel
theorem dL_isSpend_381 : decode cL_isSpend 381 = .ok (.bipush 31, 2) := by decide +kernel
theorem dL_isSpend_383 : decode cL_isSpend 383 = .ok (.idiv, 1) := by decide +kernel
theorem dL_isSpend_384 : decode cL_isSpend 384 = .ok (.bipush 6, 2) := by decide +kernel
theorem dL_isSpend_386 : decode cL_isSpend 386 = .ok (.irem, 1) := by decide +kernel
theorem dL_isSpend_387 : decode cL_isSpend 387 = .ok (.ifCond .ne 14, 3) := by decide +kernel
theorem dL_isSpend_390 : decode cL_isSpend 390 = .ok (.iload 13, 2) := by decide +kernel
theorem dL_isSpend_392 : decode cL_isSpend 392 = .ok (.iconst 3, 1) := by decide +kernel
theorem dL_isSpend_393 : decode cL_isSpend 393 = .ok (.imul, 1) := by decide +kernel
theorem dL_isSpend_394 : decode cL_isSpend 394 = .ok (.sipush 10002, 3) := by decide +kernel
theorem dL_isSpend_397 : decode cL_isSpend 397 = .ok (.irem, 1) := by decide +kernel
theorem dL_isSpend_398 : decode cL_isSpend 398 = .ok (.goto 11, 3) := by decide +kernel
theorem dL_isSpend_401 : decode cL_isSpend 401 = .ok (.iload 13, 2) := by decide +kernel
theorem dL_isSpend_403 : decode cL_isSpend 403 = .ok (.bipush 31, 2) := by decide +kernel
theorem dL_isSpend_405 : decode cL_isSpend 405 = .ok (.idiv, 1) := by decide +kernel
theorem dL_isSpend_406 : decode cL_isSpend 406 = .ok (.bipush 40, 2) := by decide +kernel
theorem dL_isSpend_408 : decode cL_isSpend 408 = .ok (.irem, 1) := by decide +kernel
theorem dL_isSpend_409 : decode cL_isSpend 409 = .ok (.istore 20, 2) := by decide +kernel
theorem dL_isSpend_411 : decode cL_isSpend 411 = .ok (.iload 20, 2) := by decide +kernel
theorem dL_isSpend_413 : decode cL_isSpend 413 = .ok (.sipush 10001, 3) := by decide +kernel
theorem dL_isSpend_416 : decode cL_isSpend 416 = .ok (.if_icmp .ge 7, 3) := by decide +kernel
theorem dL_isSpend_419 : decode cL_isSpend 419 = .ok (.iconst 1, 1) := by decide +kernel
theorem dL_isSpend_420 : decode cL_isSpend 420 = .ok (.goto 4, 3) := by decide +kernel
theorem dL_isSpend_423 : decode cL_isSpend 423 = .ok (.iconst 0, 1) := by decide +kernel
theorem dL_isSpend_424 : decode cL_isSpend 424 = .ok (.istore 21, 2) := by decide +kernel
theorem dL_isSpend_426 : decode cL_isSpend 426 = .ok (.iload 17, 2) := by decide +kernel
theorem dL_isSpend_428 : decode cL_isSpend 428 = .ok (.ifCond .eq 16, 3) := by decide +kernel
theorem dL_isSpend_431 : decode cL_isSpend 431 = .ok (.iload 19, 2) := by decide +kernel
theorem dL_isSpend_433 : decode cL_isSpend 433 = .ok (.aload 10, 2) := by decide +kernel
theorem dL_isSpend_435 : decode cL_isSpend 435 = .ok (.iconst 1, 1) := by decide +kernel
theorem dL_isSpend_436 : decode cL_isSpend 436 = .ok (.iaload, 1) := by decide +kernel
theorem dL_isSpend_437 : decode cL_isSpend 437 = .ok (.if_icmp .ge 7, 3) := by decide +kernel
theorem dL_isSpend_440 : decode cL_isSpend 440 = .ok (.iconst 1, 1) := by decide +kernel
theorem dL_isSpend_441 : decode cL_isSpend 441 = .ok (.goto 4, 3) := by decide +kernel
theorem dL_isSpend_444 : decode cL_isSpend 444 = .ok (.iconst 0, 1) := by decide +kernel
theorem dL_isSpend_445 : decode cL_isSpend 445 = .ok (.istore 17, 2) := by decide +kernel
theorem dL_isSpend_447 : decode cL_isSpend 447 = .ok (.iload 18, 2) := by decide +kernel
theorem dL_isSpend_449 : decode cL_isSpend 449 = .ok (.ifCond .eq 17, 3) := by decide +kernel
theorem dL_isSpend_452 : decode cL_isSpend 452 = .ok (.iload 17, 2) := by decide +kernel
theorem dL_isSpend_454 : decode cL_isSpend 454 = .ok (.ifCond .eq 12, 3) := by decide +kernel
theorem dL_isSpend_457 : decode cL_isSpend 457 = .ok (.iload 21, 2) := by decide +kernel
theorem dL_isSpend_459 : decode cL_isSpend 459 = .ok (.ifCond .eq 7, 3) := by decide +kernel
theorem dL_isSpend_462 : decode cL_isSpend 462 = .ok (.iconst 1, 1) := by decide +kernel
theorem dL_isSpend_463 : decode cL_isSpend 463 = .ok (.goto 4, 3) := by decide +kernel
theorem dL_isSpend_466 : decode cL_isSpend 466 = .ok (.iconst 0, 1) := by decide +kernel
theorem dL_isSpend_467 : decode cL_isSpend 467 = .ok (.istore 18, 2) := by decide +kernel
theorem dL_isSpend_469 : decode cL_isSpend 469 = .ok (.iload 18, 2) := by decide +kernel
theorem dL_isSpend_471 : decode cL_isSpend 471 = .ok (.ifCond .eq 49, 3) := by decide +kernel
theorem dL_isSpend_474 : decode cL_isSpend 474 = .ok (.aload 8, 2) := by decide +kernel
theorem dL_isSpend_476 : decode cL_isSpend 476 = .ok (.aload 10, 2) := by decide +kernel
theorem dL_isSpend_478 : decode cL_isSpend 478 = .ok (.iconst 4, 1) := by decide +kernel
theorem dL_isSpend_479 : decode cL_isSpend 479 = .ok (.iaload, 1) := by decide +kernel
theorem dL_isSpend_480 : decode cL_isSpend 480 = .ok (.iload 15, 2) := by decide +kernel
theorem dL_isSpend_482 : decode cL_isSpend 482 = .ok (.bipush 64, 2) := by decide +kernel
theorem dL_isSpend_484 : decode cL_isSpend 484 = .ok (.aload_n 3, 1) := by decide +kernel
theorem dL_isSpend_485 : decode cL_isSpend 485 = .ok (.iload 15, 2) := by decide +kernel
theorem dL_isSpend_487 : decode cL_isSpend 487 = .ok (.iaload, 1) := by decide +kernel
theorem dL_isSpend_488 : decode cL_isSpend 488 = .ok (.imul, 1) := by decide +kernel
theorem dL_isSpend_489 : decode cL_isSpend 489 = .ok (.iadd, 1) := by decide +kernel
theorem dL_isSpend_490 : decode cL_isSpend 490 = .ok (.sipush 8192, 3) := by decide +kernel
theorem dL_isSpend_493 : decode cL_isSpend 493 = .ok (.iload 19, 2) := by decide +kernel
theorem dL_isSpend_495 : decode cL_isSpend 495 = .ok (.imul, 1) := by decide +kernel
theorem dL_isSpend_496 : decode cL_isSpend 496 = .ok (.iadd, 1) := by decide +kernel
theorem dL_isSpend_497 : decode cL_isSpend 497 = .ok (.iastore, 1) := by decide +kernel
theorem dL_isSpend_498 : decode cL_isSpend 498 = .ok (.aload 9, 2) := by decide +kernel
theorem dL_isSpend_500 : decode cL_isSpend 500 = .ok (.aload 10, 2) := by decide +kernel
theorem dL_isSpend_502 : decode cL_isSpend 502 = .ok (.iconst 4, 1) := by decide +kernel
theorem dL_isSpend_503 : decode cL_isSpend 503 = .ok (.iaload, 1) := by decide +kernel
theorem dL_isSpend_504 : decode cL_isSpend 504 = .ok (.aload 10, 2) := by decide +kernel
theorem dL_isSpend_506 : decode cL_isSpend 506 = .ok (.iconst 0, 1) := by decide +kernel
theorem dL_isSpend_507 : decode cL_isSpend 507 = .ok (.iaload, 1) := by decide +kernel
theorem dL_isSpend_508 : decode cL_isSpend 508 = .ok (.iload 20, 2) := by decide +kernel
theorem dL_isSpend_510 : decode cL_isSpend 510 = .ok (.iadd, 1) := by decide +kernel
theorem dL_isSpend_511 : decode cL_isSpend 511 = .ok (.iastore, 1) := by decide +kernel
theorem dL_isSpend_512 : decode cL_isSpend 512 = .ok (.aload 10, 2) := by decide +kernel
theorem dL_isSpend_514 : decode cL_isSpend 514 = .ok (.iconst 4, 1) := by decide +kernel
theorem dL_isSpend_515 : decode cL_isSpend 515 = .ok (.dup2, 1) := by decide +kernel
theorem dL_isSpend_516 : decode cL_isSpend 516 = .ok (.iaload, 1) := by decide +kernel
theorem dL_isSpend_517 : decode cL_isSpend 517 = .ok (.iconst 1, 1) := by decide +kernel
theorem dL_isSpend_518 : decode cL_isSpend 518 = .ok (.iadd, 1) := by decide +kernel
theorem dL_isSpend_519 : decode cL_isSpend 519 = .ok (.iastore, 1) := by decide +kernel
theorem dL_isSpend_520 : decode cL_isSpend 520 = .ok (.aload_n 0, 1) := by decide +kernel
theorem dL_isSpend_521 : decode cL_isSpend 521 = .ok (.bipush 8, 2) := by decide +kernel
theorem dL_isSpend_523 : decode cL_isSpend 523 = .ok (.iload 14, 2) := by decide +kernel
theorem dL_isSpend_525 : decode cL_isSpend 525 = .ok (.iload 15, 2) := by decide +kernel
theorem dL_isSpend_527 : decode cL_isSpend 527 = .ok (.iload 19, 2) := by decide +kernel
theorem dL_isSpend_529 : decode cL_isSpend 529 = .ok (.iload 20, 2) := by decide +kernel
theorem dL_isSpend_531 : decode cL_isSpend 531 = .ok (.invokestatic 106, 3) := by decide +kernel
theorem dL_isSpend_534 : decode cL_isSpend 534 = .ok (.iload 17, 2) := by decide +kernel
theorem dL_isSpend_536 : decode cL_isSpend 536 = .ok (.ifCond .ne 8, 3) := by decide +kernel
theorem dL_isSpend_539 : decode cL_isSpend 539 = .ok (.ldc 72, 2) := by decide +kernel
theorem dL_isSpend_541 : decode cL_isSpend 541 = .ok (.goto 29, 3) := by decide +kernel
theorem dL_isSpend_544 : decode cL_isSpend 544 = .ok (.iload 21, 2) := by decide +kernel
theorem dL_isSpend_546 : decode cL_isSpend 546 = .ok (.ifCond .ne 8, 3) := by decide +kernel
theorem dL_isSpend_549 : decode cL_isSpend 549 = .ok (.ldc 75, 2) := by decide +kernel
theorem dL_isSpend_551 : decode cL_isSpend 551 = .ok (.goto 19, 3) := by decide +kernel
theorem dL_isSpend_554 : decode cL_isSpend 554 = .ok (.iload 18, 2) := by decide +kernel
theorem dL_isSpend_556 : decode cL_isSpend 556 = .ok (.ifCond .eq 12, 3) := by decide +kernel
theorem dL_isSpend_559 : decode cL_isSpend 559 = .ok (.aload 10, 2) := by decide +kernel
theorem dL_isSpend_561 : decode cL_isSpend 561 = .ok (.iconst 4, 1) := by decide +kernel
theorem dL_isSpend_562 : decode cL_isSpend 562 = .ok (.iaload, 1) := by decide +kernel
theorem dL_isSpend_563 : decode cL_isSpend 563 = .ok (.iconst 1, 1) := by decide +kernel
theorem dL_isSpend_564 : decode cL_isSpend 564 = .ok (.isub, 1) := by decide +kernel
theorem dL_isSpend_565 : decode cL_isSpend 565 = .ok (.goto 5, 3) := by decide +kernel
theorem dL_isSpend_568 : decode cL_isSpend 568 = .ok (.ldc 78, 2) := by decide +kernel
theorem dL_isSpend_570 : decode cL_isSpend 570 = .ok (.if_icmp .ne 7, 3) := by decide +kernel
theorem dL_isSpend_573 : decode cL_isSpend 573 = .ok (.iconst 1, 1) := by decide +kernel
theorem dL_isSpend_574 : decode cL_isSpend 574 = .ok (.goto 4, 3) := by decide +kernel
theorem dL_isSpend_577 : decode cL_isSpend 577 = .ok (.iconst 0, 1) := by decide +kernel
theorem dL_isSpend_578 : decode cL_isSpend 578 = .ok (.ireturn, 1) := by decide +kernel
theorem dL_isSpend_579 : decode cL_isSpend 579 = .ok (.iload 13, 2) := by decide +kernel
theorem dL_isSpend_581 : decode cL_isSpend 581 = .ok (.aload 10, 2) := by decide +kernel
theorem dL_isSpend_583 : decode cL_isSpend 583 = .ok (.iconst 4, 1) := by decide +kernel
theorem dL_isSpend_584 : decode cL_isSpend 584 = .ok (.iaload, 1) := by decide +kernel
theorem dL_isSpend_585 : decode cL_isSpend 585 = .ok (.iconst 1, 1) := by decide +kernel
theorem dL_isSpend_586 : decode cL_isSpend 586 = .ok (.iadd, 1) := by decide +kernel
theorem dL_isSpend_587 : decode cL_isSpend 587 = .ok (.irem, 1) := by decide +kernel
theorem dL_isSpend_588 : decode cL_isSpend 588 = .ok (.istore 19, 2) := by decide +kernel
theorem dL_isSpend_590 : decode cL_isSpend 590 = .ok (.iload 19, 2) := by decide +kernel
theorem dL_isSpend_592 : decode cL_isSpend 592 = .ok (.aload 10, 2) := by decide +kernel
theorem dL_isSpend_594 : decode cL_isSpend 594 = .ok (.iconst 4, 1) := by decide +kernel
theorem dL_isSpend_595 : decode cL_isSpend 595 = .ok (.iaload, 1) := by decide +kernel
theorem dL_isSpend_596 : decode cL_isSpend 596 = .ok (.if_icmp .ge 24, 3) := by decide +kernel
theorem dL_isSpend_599 : decode cL_isSpend 599 = .ok (.aload 8, 2) := by decide +kernel
theorem dL_isSpend_601 : decode cL_isSpend 601 = .ok (.iload 19, 2) := by decide +kernel
theorem dL_isSpend_603 : decode cL_isSpend 603 = .ok (.iaload, 1) := by decide +kernel
theorem dL_isSpend_604 : decode cL_isSpend 604 = .ok (.sipush 8192, 3) := by decide +kernel
theorem dL_isSpend_607 : decode cL_isSpend 607 = .ok (.idiv, 1) := by decide +kernel
theorem dL_isSpend_608 : decode cL_isSpend 608 = .ok (.bipush 16, 2) := by decide +kernel
theorem dL_isSpend_610 : decode cL_isSpend 610 = .ok (.irem, 1) := by decide +kernel
theorem dL_isSpend_611 : decode cL_isSpend 611 = .ok (.iload 14, 2) := by decide +kernel
theorem dL_isSpend_613 : decode cL_isSpend 613 = .ok (.if_icmp .ne 7, 3) := by decide +kernel
theorem dL_isSpend_616 : decode cL_isSpend 616 = .ok (.iconst 1, 1) := by decide +kernel
theorem dL_isSpend_617 : decode cL_isSpend 617 = .ok (.goto 4, 3) := by decide +kernel
theorem dL_isSpend_620 : decode cL_isSpend 620 = .ok (.iconst 0, 1) := by decide +kernel
theorem dL_isSpend_621 : decode cL_isSpend 621 = .ok (.istore 20, 2) := by decide +kernel
theorem dL_isSpend_623 : decode cL_isSpend 623 = .ok (.iload 16, 2) := by decide +kernel
theorem dL_isSpend_625 : decode cL_isSpend 625 = .ok (.ifCond .eq 34, 3) := by decide +kernel
theorem dL_isSpend_628 : decode cL_isSpend 628 = .ok (.iload 20, 2) := by decide +kernel
theorem dL_isSpend_630 : decode cL_isSpend 630 = .ok (.ifCond .eq 29, 3) := by decide +kernel
theorem dL_isSpend_633 : decode cL_isSpend 633 = .ok (.aload_n 1, 1) := by decide +kernel
theorem dL_isSpend_634 : decode cL_isSpend 634 = .ok (.aload 10, 2) := by decide +kernel
theorem dL_isSpend_636 : decode cL_isSpend 636 = .ok (.iload 14, 2) := by decide +kernel
theorem dL_isSpend_638 : decode cL_isSpend 638 = .ok (.invokestatic 79, 3) := by decide +kernel
theorem dL_isSpend_641 : decode cL_isSpend 641 = .ok (.ifCond .ne 18, 3) := by decide +kernel
theorem dL_isSpend_644 : decode cL_isSpend 644 = .ok (.aload 8, 2) := by decide +kernel
theorem dL_isSpend_646 : decode cL_isSpend 646 = .ok (.iload 19, 2) := by decide +kernel
theorem dL_isSpend_648 : decode cL_isSpend 648 = .ok (.iaload, 1) := by decide +kernel
theorem dL_isSpend_649 : decode cL_isSpend 649 = .ok (.ldc 101, 2) := by decide +kernel
theorem dL_isSpend_651 : decode cL_isSpend 651 = .ok (.idiv, 1) := by decide +kernel
theorem dL_isSpend_652 : decode cL_isSpend 652 = .ok (.ifCond .ne 7, 3) := by decide +kernel
theorem dL_isSpend_655 : decode cL_isSpend 655 = .ok (.iconst 1, 1) := by decide +kernel
theorem dL_isSpend_656 : decode cL_isSpend 656 = .ok (.goto 4, 3) := by decide +kernel
theorem dL_isSpend_659 : decode cL_isSpend 659 = .ok (.iconst 0, 1) := by decide +kernel
theorem dL_isSpend_660 : decode cL_isSpend 660 = .ok (.istore 21, 2) := by decide +kernel
theorem dL_isSpend_662 : decode cL_isSpend 662 = .ok (.aload 8, 2) := by decide +kernel
theorem dL_isSpend_664 : decode cL_isSpend 664 = .ok (.iload 21, 2) := by decide +kernel
theorem dL_isSpend_666 : decode cL_isSpend 666 = .ok (.ifCond .eq 8, 3) := by decide +kernel
theorem dL_isSpend_669 : decode cL_isSpend 669 = .ok (.iload 19, 2) := by decide +kernel
theorem dL_isSpend_671 : decode cL_isSpend 671 = .ok (.goto 5, 3) := by decide +kernel
theorem dL_isSpend_674 : decode cL_isSpend 674 = .ok (.bipush 30, 2) := by decide +kernel
theorem dL_isSpend_676 : decode cL_isSpend 676 = .ok (.dup2, 1) := by decide +kernel
theorem dL_isSpend_677 : decode cL_isSpend 677 = .ok (.iaload, 1) := by decide +kernel
theorem dL_isSpend_678 : decode cL_isSpend 678 = .ok (.ldc 101, 2) := by decide +kernel
theorem dL_isSpend_680 : decode cL_isSpend 680 = .ok (.iadd, 1) := by decide +kernel
theorem dL_isSpend_681 : decode cL_isSpend 681 = .ok (.iastore, 1) := by decide +kernel
theorem dL_isSpend_682 : decode cL_isSpend 682 = .ok (.aload_n 0, 1) := by decide +kernel
theorem dL_isSpend_683 : decode cL_isSpend 683 = .ok (.bipush 9, 2) := by decide +kernel
theorem dL_isSpend_685 : decode cL_isSpend 685 = .ok (.iload 14, 2) := by decide +kernel
theorem dL_isSpend_687 : decode cL_isSpend 687 = .ok (.iload 19, 2) := by decide +kernel
theorem dL_isSpend_689 : decode cL_isSpend 689 = .ok (.iconst 0, 1) := by decide +kernel
theorem dL_isSpend_690 : decode cL_isSpend 690 = .ok (.iconst 0, 1) := by decide +kernel
theorem dL_isSpend_691 : decode cL_isSpend 691 = .ok (.invokestatic 106, 3) := by decide +kernel
theorem dL_isSpend_694 : decode cL_isSpend 694 = .ok (.iload 16, 2) := by decide +kernel
theorem dL_isSpend_696 : decode cL_isSpend 696 = .ok (.ifCond .eq 12, 3) := by decide +kernel
theorem dL_isSpend_699 : decode cL_isSpend 699 = .ok (.iload 19, 2) := by decide +kernel
theorem dL_isSpend_701 : decode cL_isSpend 701 = .ok (.aload 10, 2) := by decide +kernel
theorem dL_isSpend_703 : decode cL_isSpend 703 = .ok (.iconst 4, 1) := by decide +kernel
theorem dL_isSpend_704 : decode cL_isSpend 704 = .ok (.iaload, 1) := by decide +kernel
theorem dL_isSpend_705 : decode cL_isSpend 705 = .ok (.if_icmp .ne 8, 3) := by decide +kernel
theorem dL_isSpend_708 : decode cL_isSpend 708 = .ok (.ldc 72, 2) := by decide +kernel
theorem dL_isSpend_710 : decode cL_isSpend 710 = .ok (.goto 23, 3) := by decide +kernel
theorem dL_isSpend_713 : decode cL_isSpend 713 = .ok (.iload 21, 2) := by decide +kernel
theorem dL_isSpend_715 : decode cL_isSpend 715 = .ok (.ifCond .eq 16, 3) := by decide +kernel
theorem dL_isSpend_718 : decode cL_isSpend 718 = .ok (.aload 9, 2) := by decide +kernel
theorem dL_isSpend_720 : decode cL_isSpend 720 = .ok (.iload 19, 2) := by decide +kernel
theorem dL_isSpend_722 : decode cL_isSpend 722 = .ok (.iaload, 1) := by decide +kernel
theorem dL_isSpend_723 : decode cL_isSpend 723 = .ok (.aload 10, 2) := by decide +kernel
theorem dL_isSpend_725 : decode cL_isSpend 725 = .ok (.iconst 0, 1) := by decide +kernel
theorem dL_isSpend_726 : decode cL_isSpend 726 = .ok (.iaload, 1) := by decide +kernel
theorem dL_isSpend_727 : decode cL_isSpend 727 = .ok (.isub, 1) := by decide +kernel
theorem dL_isSpend_728 : decode cL_isSpend 728 = .ok (.goto 5, 3) := by decide +kernel
theorem dL_isSpend_731 : decode cL_isSpend 731 = .ok (.ldc 78, 2) := by decide +kernel
theorem dL_isSpend_733 : decode cL_isSpend 733 = .ok (.if_icmp .ne 7, 3) := by decide +kernel
theorem dL_isSpend_736 : decode cL_isSpend 736 = .ok (.iconst 1, 1) := by decide +kernel
theorem dL_isSpend_737 : decode cL_isSpend 737 = .ok (.goto 4, 3) := by decide +kernel
theorem dL_isSpend_740 : decode cL_isSpend 740 = .ok (.iconst 0, 1) := by decide +kernel
theorem dL_isSpend_741 : decode cL_isSpend 741 = .ok (.ireturn, 1) := by decide +kernel
set_option maxHeartbeats 4000000 in
set_option maxRecDepth 100000 in
theorem t_isSp_d {p : Program} {l : Launch} {e : Env} {s : State} {m : MethodId} {below : List Frame} {meth : Method} {c : Code} {E : State} {G : kG} {S T : kSt} {o : Int64} {ad : kAd} {n9 x1 x2 uq aq : Nat} {w : Int32} (hE : kE l E G) (hn9 : n9 ≤ 90) (hx1 : x1 < 60000) (hx2 : x2 < 60000) (hI : Iv n9 S T) (huq : uq ≤ S.2 0 0) (haq : aq ≤ S.2 0 1) (Z : kZ p m c cL_isSpend 22 s ([.ref (ad 0 0), .ref (ad 17 0), .ref (ad 17 1), .ref (ad 17 2), .ref (ad 17 4), .ref (ad 17 5), .ref (ad 17 6), .ref (ad 17 7), .ref (ad 17 8), .ref (ad 17 9), .ref (ad 17 10), .int w, .int (nI x1), .int (nI x2)] : List Value).toArray wsL_law RL E G) (hr : meth.sig.returnType = some .boolean) (hlocks : meth.locks = false) : ∀ (H : Heap) (locs : List Loc) (ls : Array Slot), kX E G s H locs ad (cto G S T o ad) → lv_has ls 22 [(0, .ref (ad 0 0)), (1, .ref (ad 17 0)), (2, .ref (ad 17 1)), (3, .ref (ad 17 2)), (4, .ref (ad 17 4)), (5, .ref (ad 17 5)), (6, .ref (ad 17 6)), (7, .ref (ad 17 7)), (8, .ref (ad 17 8)), (9, .ref (ad 17 9)), (10, .ref (ad 17 10)), (11, .int w), (12, .int (nI x1)), (13, .int (nI x2)), (14, .int (nI uq)), (15, .int (nI aq)), (16, .int (bI (decide (uq < S.2 0 0)))), (17, .int (bI (arM S uq aq))), (18, .int (bI (caM S uq aq)))] → W p l e (headSpec (Cond.code yL_isSpend cL_isSpend 22 (some .boolean) :: wsL_law) ({ frames := 18, cells := 20, slots := 400, locals := 500 } : Room)).room s m ([.ref (ad 0 0), .ref (ad 17 0), .ref (ad 17 1), .ref (ad 17 2), .ref (ad 17 4), .ref (ad 17 5), .ref (ad 17 6), .ref (ad 17 7), .ref (ad 17 8), .ref (ad 17 9), .ref (ad 17 10), .int w, .int (nI x1), .int (nI x2)] : List Value).toArray below meth c H locs 0 0 (vx_MQ below (kQi E G (fun r ad1 ct1 => (r = 1 ∧ AK ad ad1) ∧ ∃ S1 A1, ct1 = cto G S1 A1 o ad1 ∧ Mid (n9 + 1) S1 A1)) (kXC E G (fun _ _ _ => False)) ([.ref (ad 0 0), .ref (ad 17 0), .ref (ad 17 1), .ref (ad 17 2), .ref (ad 17 4), .ref (ad 17 5), .ref (ad 17 6), .ref (ad 17 7), .ref (ad 17 8), .ref (ad 17 9), .ref (ad 17 10), .int w, .int (nI x1), .int (nI x2)] : List Value).toArray s 20 400 (kB E.heap.size)) (F0 m 579 ls []) := by
  intro H locs ls X hl
  have hx := Z.1.1
  have hb := Z.1.2.1
  have hT := hI.lt
  obtain ⟨hS, hL, hK9, hLg, hRp, hlog9, hB⟩ := hI.1.ok
  have hN := hS
  have hlog : S.2 0 4 < 512 := by omega
  obtain ⟨hc0, hc1, hc2, hc3⟩ := hT.c
  obtain ⟨tq, etq⟩ : ∃ y, y = x2 % (S.2 0 3 + 1) := ⟨_, rfl⟩
  have htq : tq ≤ S.2 0 3 := by rw [etq]; exact Nat.le_of_lt_succ (Nat.mod_lt _ (by omega))
  refine lv_iload hx hb dL_isSpend_579 (lv_at hl 13 rfl) ?_
  refine lv_aload hx hb dL_isSpend_581 (lv_at hl 10 rfl) ?_
  refine lv_iconst (v := 4) hx hb dL_isSpend_583 (by decide) ?_
  refine k_ild (ad := ad) (k := 17) (i := 10) Z X ct_17_10 (vp_in_nI (n := 4) (by first | assumption | omega) (by decide)) dL_isSpend_584 ?_
  refine lv_topi (fun x_584 e_584 => ?_)
  obtain rfl : x_584 = T.1 11 4 := e_584.trans (by first | (simp only [nI_clamp (show 4 < 2 ^ 31 by omega)]; done) | rfl | (simp only [nI_clamp (show 4 < 2 ^ 31 by omega)]; rfl) | (simp only [nI_clamp (show 4 < 2 ^ 31 by omega)]; simp [sI, sN]; done))
  refine lv_topi (fun x_584 e_584 => ?_)
  obtain rfl : x_584 = nI (S.2 0 3) := e_584.trans (hT.g4)
  refine lv_iconst (v := 1) hx hb dL_isSpend_585 (by decide) ?_
  refine lv_iadd hx hb dL_isSpend_586 ?_
  refine lv_topi (fun x_586 e_586 => ?_)
  obtain rfl : x_586 = nI ((S.2 0 3) + 1) := e_586.trans (nI_add (S.2 0 3) 1)
  refine lv_irem hx hb dL_isSpend_587 (nI_ne0 (by omega) (by omega)) ?_
  refine lv_topi (fun x_587 e_587 => ?_)
  obtain rfl : x_587 = nI tq := e_587.trans ((pk_rem (a := x2) (d := ((S.2 0 3) + 1)) (by omega) (by omega) (by omega)).trans (congrArg nI etq.symm))
  refine lv_istore (lv' := [(19, .int (nI tq)), (0, .ref (ad 0 0)), (1, .ref (ad 17 0)), (2, .ref (ad 17 1)), (3, .ref (ad 17 2)), (4, .ref (ad 17 4)), (5, .ref (ad 17 5)), (6, .ref (ad 17 6)), (7, .ref (ad 17 7)), (8, .ref (ad 17 8)), (9, .ref (ad 17 9)), (10, .ref (ad 17 10)), (11, .int w), (12, .int (nI x1)), (13, .int (nI x2)), (14, .int (nI uq)), (15, .int (nI aq)), (16, .int (bI (decide (uq < S.2 0 0)))), (17, .int (bI (arM S uq aq))), (18, .int (bI (caM S uq aq)))]) hx hb dL_isSpend_588 hl (by decide) rfl (fun ls hl => ?_)
  have M_621 : ∀ (H : Heap) (locs : List Loc), kX E G s H locs ad (cto G S T o ad) → W p l e (headSpec (Cond.code yL_isSpend cL_isSpend 22 (some .boolean) :: wsL_law) ({ frames := 18, cells := 20, slots := 400, locals := 500 } : Room)).room s m ([.ref (ad 0 0), .ref (ad 17 0), .ref (ad 17 1), .ref (ad 17 2), .ref (ad 17 4), .ref (ad 17 5), .ref (ad 17 6), .ref (ad 17 7), .ref (ad 17 8), .ref (ad 17 9), .ref (ad 17 10), .int w, .int (nI x1), .int (nI x2)] : List Value).toArray below meth c H locs 0 0 (vx_MQ below (kQi E G (fun r ad1 ct1 => (r = 1 ∧ AK ad ad1) ∧ ∃ S1 A1, ct1 = cto G S1 A1 o ad1 ∧ Mid (n9 + 1) S1 A1)) (kXC E G (fun _ _ _ => False)) ([.ref (ad 0 0), .ref (ad 17 0), .ref (ad 17 1), .ref (ad 17 2), .ref (ad 17 4), .ref (ad 17 5), .ref (ad 17 6), .ref (ad 17 7), .ref (ad 17 8), .ref (ad 17 9), .ref (ad 17 10), .int w, .int (nI x1), .int (nI x2)] : List Value).toArray s 20 400 (kB E.heap.size)) (F0 m 621 ls [.int (bI (hsD S uq tq))]) := by
    intro H locs X
    refine lv_istore (lv' := [(20, .int (bI (hsD S uq tq))), (19, .int (nI tq)), (0, .ref (ad 0 0)), (1, .ref (ad 17 0)), (2, .ref (ad 17 1)), (3, .ref (ad 17 2)), (4, .ref (ad 17 4)), (5, .ref (ad 17 5)), (6, .ref (ad 17 6)), (7, .ref (ad 17 7)), (8, .ref (ad 17 8)), (9, .ref (ad 17 9)), (10, .ref (ad 17 10)), (11, .int w), (12, .int (nI x1)), (13, .int (nI x2)), (14, .int (nI uq)), (15, .int (nI aq)), (16, .int (bI (decide (uq < S.2 0 0)))), (17, .int (bI (arM S uq aq))), (18, .int (bI (caM S uq aq)))]) hx hb dL_isSpend_621 hl (by decide) rfl (fun ls hl => ?_)
    have M_660 : ∀ (H : Heap) (locs : List Loc), kX E G s H locs ad (cto G S T o ad) → W p l e (headSpec (Cond.code yL_isSpend cL_isSpend 22 (some .boolean) :: wsL_law) ({ frames := 18, cells := 20, slots := 400, locals := 500 } : Room)).room s m ([.ref (ad 0 0), .ref (ad 17 0), .ref (ad 17 1), .ref (ad 17 2), .ref (ad 17 4), .ref (ad 17 5), .ref (ad 17 6), .ref (ad 17 7), .ref (ad 17 8), .ref (ad 17 9), .ref (ad 17 10), .int w, .int (nI x1), .int (nI x2)] : List Value).toArray below meth c H locs 0 0 (vx_MQ below (kQi E G (fun r ad1 ct1 => (r = 1 ∧ AK ad ad1) ∧ ∃ S1 A1, ct1 = cto G S1 A1 o ad1 ∧ Mid (n9 + 1) S1 A1)) (kXC E G (fun _ _ _ => False)) ([.ref (ad 0 0), .ref (ad 17 0), .ref (ad 17 1), .ref (ad 17 2), .ref (ad 17 4), .ref (ad 17 5), .ref (ad 17 6), .ref (ad 17 7), .ref (ad 17 8), .ref (ad 17 9), .ref (ad 17 10), .int w, .int (nI x1), .int (nI x2)] : List Value).toArray s 20 400 (kB E.heap.size)) (F0 m 660 ls [.int (bI (caD S uq tq))]) := by
      intro H locs X
      refine lv_istore (lv' := [(21, .int (bI (caD S uq tq))), (20, .int (bI (hsD S uq tq))), (19, .int (nI tq)), (0, .ref (ad 0 0)), (1, .ref (ad 17 0)), (2, .ref (ad 17 1)), (3, .ref (ad 17 2)), (4, .ref (ad 17 4)), (5, .ref (ad 17 5)), (6, .ref (ad 17 6)), (7, .ref (ad 17 7)), (8, .ref (ad 17 8)), (9, .ref (ad 17 9)), (10, .ref (ad 17 10)), (11, .int w), (12, .int (nI x1)), (13, .int (nI x2)), (14, .int (nI uq)), (15, .int (nI aq)), (16, .int (bI (decide (uq < S.2 0 0)))), (17, .int (bI (arM S uq aq))), (18, .int (bI (caM S uq aq)))]) hx hb dL_isSpend_660 hl (by decide) rfl (fun ls hl => ?_)
      refine lv_aload hx hb dL_isSpend_662 (lv_at hl 11 rfl) ?_
      refine lv_iload hx hb dL_isSpend_664 (lv_at hl 0 rfl) ?_
      refine lv_if_eq (tgt := 674) hx hb dL_isSpend_666 (by decide) (fun c_666 => ?_) (fun c_666 => ?_)
      · have c_666 : (caD S uq tq) = false := bI_0 c_666
        rw [c_666] at hl
        refine lv_bipush (v := 30) hx hb dL_isSpend_674 (by decide) ?_
        refine lv_dup2_11 hx hb dL_isSpend_676 rfl rfl ?_
        refine k_ild (ad := ad) (k := 17) (i := 8) Z X ct_17_8 (vp_in_nI (n := 30) (by first | assumption | omega) (by decide)) dL_isSpend_677 ?_
        refine lv_topi (fun x_677 e_677 => ?_)
        obtain rfl : x_677 = T.1 9 30 := e_677.trans (by first | (simp only [nI_clamp (show 30 < 2 ^ 31 by omega)]; done) | rfl | (simp only [nI_clamp (show 30 < 2 ^ 31 by omega)]; rfl) | (simp only [nI_clamp (show 30 < 2 ^ 31 by omega)]; simp [sI, sN]; done))
        refine lv_ldc (v := 131072) hx hb Z.1.2.2.2.1 (Z.1.2.2.2.2 _ (inU_27 _ (List.mem_of_getElem? (i := 9) rfl))) dL_isSpend_678 ?_
        refine lv_iadd hx hb dL_isSpend_680 ?_
        refine k_ist (ad := ad) (k := 17) (i := 8) Z X ct_17_8 (vp_in_nI (n := 30) (by first | assumption | omega) (by decide)) dL_isSpend_681 (fun H locs X => ?_)
        have X : kX E G s H locs ad (cto G S (sI T 9 30 ((T.1 9 30) + 131072)) o ad) := X.eq (st_17 (a := 8) (by decide) 30 _ (by omega))
        cases hu9 : (decide (uq < S.2 0 0)) with
        | false =>
          rw [hu9] at hl
          refine lv_aload_n hx hb dL_isSpend_682 rfl (lv_at hl 3 rfl) ?_
          refine lv_bipush (v := 9) hx hb dL_isSpend_683 (by decide) ?_
          refine lv_iload hx hb dL_isSpend_685 (lv_at hl 17 rfl) ?_
          refine lv_iload hx hb dL_isSpend_687 (lv_at hl 2 rfl) ?_
          refine lv_iconst (v := 0) hx hb dL_isSpend_689 (by decide) ?_
          refine lv_iconst (v := 0) hx hb dL_isSpend_690 (by decide) ?_
          refine k_xRi X (k_xrunSW (As := [.ref (ad 0 0), .int 9, .int (nI uq), .int (nI tq), .int 0, .int 0]) (rest := []) Z X (c_L_does_9 l E G S (sI T 9 30 ((T.1 9 30) + 131072)) o ad (nI uq) (nI tq) 0 0 hE hS hL) (k_cwSW 6 Z.1.2.2.2.2 (inU_6 _ (List.mem_of_getElem? (i := 3) rfl)) (inU_6 _ (List.mem_of_getElem? (i := 4) rfl)) (inU_6 _ (List.mem_of_getElem? (i := 5) rfl)) (inU_6 _ (List.mem_of_getElem? (i := 6) rfl)) rfl rfl (by decide +kernel) ⟨(Nat.le_of_ble_eq_true rfl), (Nat.le_of_ble_eq_true rfl)⟩) rfl hl.1 rfl (Nat.le_of_ble_eq_true rfl) dL_isSpend_691 ⟨(Nat.le_of_ble_eq_true rfl), (Nat.le_of_ble_eq_true rfl)⟩) (fun _ _ _ _ _ _ _ hp => hp.elim) (fun r_691 ad1 ct1 H locs hp X => ?_)
          have hC : cDone S (nI uq) (nI tq) = 1 := by rw [cDone_v (by omega) (by omega), hu9]; rfl
          obtain ⟨ha_, hq⟩ := hp
          rcases hq with ⟨z, -⟩ | ⟨z, hr_, hb_⟩ | ⟨z, -⟩ | ⟨z, -⟩
          case inl => exact absurd (hC.symm.trans z) (by decide)
          case inr.inr.inl => exact absurd (hC.symm.trans z) (by decide)
          case inr.inr.inr => exact absurd (hC.symm.trans z) (by decide)
          subst hr_
          rw [hb_, ← ha_] at X
          refine lv_iload hx hb dL_isSpend_694 (lv_at hl 19 rfl) ?_
          refine lv_if_eq (tgt := 708) hx hb dL_isSpend_696 (by decide) (fun c_696 => ?_) (fun c_696 => ?_)
          · refine lv_ldc (v := (-3000000)) hx hb Z.1.2.2.2.1 (Z.1.2.2.2.2 _ (inU_1 _ (List.mem_of_getElem? (i := 5) rfl))) dL_isSpend_708 ?_
            refine lv_goto (tgt := 733) hx hb dL_isSpend_710 (by decide) ?_
            refine lv_icmp_ne (tgt := 740) hx hb dL_isSpend_733 (by decide) (fun c_733 => ?_) (fun c_733 => ?_)
            · exact absurd rfl c_733
            · refine lv_iconst (v := 1) hx hb dL_isSpend_736 (by decide) ?_
              refine lv_goto (tgt := 741) hx hb dL_isSpend_737 (by decide) ?_
              exact vx_ret (k_iret Z X hr hlocks rfl (by omega) (by omega) dL_isSpend_741 ⟨⟨rfl, AK.rf⟩, S, _, rfl, (hI.t30 _).mid (by omega)⟩)
          · exact absurd c_696 (by decide)
        | true =>
          rw [hu9] at hl
          cases ht9 : decide (tq < S.2 0 3) with
          | false =>
            refine lv_aload_n hx hb dL_isSpend_682 rfl (lv_at hl 3 rfl) ?_
            refine lv_bipush (v := 9) hx hb dL_isSpend_683 (by decide) ?_
            refine lv_iload hx hb dL_isSpend_685 (lv_at hl 17 rfl) ?_
            refine lv_iload hx hb dL_isSpend_687 (lv_at hl 2 rfl) ?_
            refine lv_iconst (v := 0) hx hb dL_isSpend_689 (by decide) ?_
            refine lv_iconst (v := 0) hx hb dL_isSpend_690 (by decide) ?_
            refine k_xRi X (k_xrunSW (As := [.ref (ad 0 0), .int 9, .int (nI uq), .int (nI tq), .int 0, .int 0]) (rest := []) Z X (c_L_does_9 l E G S (sI T 9 30 ((T.1 9 30) + 131072)) o ad (nI uq) (nI tq) 0 0 hE hS hL) (k_cwSW 6 Z.1.2.2.2.2 (inU_6 _ (List.mem_of_getElem? (i := 3) rfl)) (inU_6 _ (List.mem_of_getElem? (i := 4) rfl)) (inU_6 _ (List.mem_of_getElem? (i := 5) rfl)) (inU_6 _ (List.mem_of_getElem? (i := 6) rfl)) rfl rfl (by decide +kernel) ⟨(Nat.le_of_ble_eq_true rfl), (Nat.le_of_ble_eq_true rfl)⟩) rfl hl.1 rfl (Nat.le_of_ble_eq_true rfl) dL_isSpend_691 ⟨(Nat.le_of_ble_eq_true rfl), (Nat.le_of_ble_eq_true rfl)⟩) (fun _ _ _ _ _ _ _ hp => hp.elim) (fun r_691 ad1 ct1 H locs hp X => ?_)
            have hC : cDone S (nI uq) (nI tq) = 1 := by rw [cDone_v (by omega) (by omega), hu9, ht9]; rfl
            obtain ⟨ha_, hq⟩ := hp
            rcases hq with ⟨z, -⟩ | ⟨z, hr_, hb_⟩ | ⟨z, -⟩ | ⟨z, -⟩
            case inl => exact absurd (hC.symm.trans z) (by decide)
            case inr.inr.inl => exact absurd (hC.symm.trans z) (by decide)
            case inr.inr.inr => exact absurd (hC.symm.trans z) (by decide)
            subst hr_
            rw [hb_, ← ha_] at X
            refine lv_iload hx hb dL_isSpend_694 (lv_at hl 19 rfl) ?_
            refine lv_if_eq (tgt := 708) hx hb dL_isSpend_696 (by decide) (fun c_696 => ?_) (fun c_696 => ?_)
            · exact absurd c_696 (by decide)
            · refine lv_iload hx hb dL_isSpend_699 (lv_at hl 2 rfl) ?_
              refine lv_aload hx hb dL_isSpend_701 (lv_at hl 13 rfl) ?_
              refine lv_iconst (v := 4) hx hb dL_isSpend_703 (by decide) ?_
              refine k_ild (ad := ad) (k := 17) (i := 10) Z X ct_17_10 (vp_in_nI (n := 4) (by first | assumption | omega) (by decide)) dL_isSpend_704 ?_
              refine lv_topi (fun x_704 e_704 => ?_)
              obtain rfl : x_704 = T.1 11 4 := e_704.trans (by first | (simp only [nI_clamp (show 4 < 2 ^ 31 by omega)]; done) | rfl | (simp only [nI_clamp (show 4 < 2 ^ 31 by omega)]; rfl) | (simp only [nI_clamp (show 4 < 2 ^ 31 by omega)]; simp [sI, sN]; done))
              refine lv_topi (fun x_704 e_704 => ?_)
              obtain rfl : x_704 = nI (S.2 0 3) := e_704.trans (hT.g4)
              refine lv_icmp_ne (tgt := 713) hx hb dL_isSpend_705 (by decide) (fun c_705 => ?_) (fun c_705 => ?_)
              · exact absurd (congrArg nI (show tq = S.2 0 3 by have := of_decide_eq_false ht9; omega)) c_705
              · refine lv_ldc (v := (-3000000)) hx hb Z.1.2.2.2.1 (Z.1.2.2.2.2 _ (inU_1 _ (List.mem_of_getElem? (i := 5) rfl))) dL_isSpend_708 ?_
                refine lv_goto (tgt := 733) hx hb dL_isSpend_710 (by decide) ?_
                refine lv_icmp_ne (tgt := 740) hx hb dL_isSpend_733 (by decide) (fun c_733 => ?_) (fun c_733 => ?_)
                · exact absurd rfl c_733
                · refine lv_iconst (v := 1) hx hb dL_isSpend_736 (by decide) ?_
                  refine lv_goto (tgt := 741) hx hb dL_isSpend_737 (by decide) ?_
                  exact vx_ret (k_iret Z X hr hlocks rfl (by omega) (by omega) dL_isSpend_741 ⟨⟨rfl, AK.rf⟩, S, _, rfl, (hI.t30 _).mid (by omega)⟩)
          | true =>
            refine lv_aload_n hx hb dL_isSpend_682 rfl (lv_at hl 3 rfl) ?_
            refine lv_bipush (v := 9) hx hb dL_isSpend_683 (by decide) ?_
            refine lv_iload hx hb dL_isSpend_685 (lv_at hl 17 rfl) ?_
            refine lv_iload hx hb dL_isSpend_687 (lv_at hl 2 rfl) ?_
            refine lv_iconst (v := 0) hx hb dL_isSpend_689 (by decide) ?_
            refine lv_iconst (v := 0) hx hb dL_isSpend_690 (by decide) ?_
            refine k_xRi X (k_xrunSW (As := [.ref (ad 0 0), .int 9, .int (nI uq), .int (nI tq), .int 0, .int 0]) (rest := []) Z X (c_L_does_9 l E G S (sI T 9 30 ((T.1 9 30) + 131072)) o ad (nI uq) (nI tq) 0 0 hE hS hL) (k_cwSW 6 Z.1.2.2.2.2 (inU_6 _ (List.mem_of_getElem? (i := 3) rfl)) (inU_6 _ (List.mem_of_getElem? (i := 4) rfl)) (inU_6 _ (List.mem_of_getElem? (i := 5) rfl)) (inU_6 _ (List.mem_of_getElem? (i := 6) rfl)) rfl rfl (by decide +kernel) ⟨(Nat.le_of_ble_eq_true rfl), (Nat.le_of_ble_eq_true rfl)⟩) rfl hl.1 rfl (Nat.le_of_ble_eq_true rfl) dL_isSpend_691 ⟨(Nat.le_of_ble_eq_true rfl), (Nat.le_of_ble_eq_true rfl)⟩) (fun _ _ _ _ _ _ _ hp => hp.elim) (fun r_691 ad1 ct1 H locs hp X => ?_)
            have hC : cDone S (nI uq) (nI tq) = 2 := by rw [cDone_v (by omega) (by omega), hu9, ht9, c_666]; rfl
            obtain ⟨ha_, hq⟩ := hp
            rcases hq with ⟨z, -⟩ | ⟨z, -⟩ | ⟨z, hr_, hb_⟩ | ⟨z, -⟩
            case inl => exact absurd (hC.symm.trans z) (by decide)
            case inr.inl => exact absurd (hC.symm.trans z) (by decide)
            case inr.inr.inr => exact absurd (hC.symm.trans z) (by decide)
            subst hr_
            rw [hb_, ← ha_] at X
            refine lv_iload hx hb dL_isSpend_694 (lv_at hl 19 rfl) ?_
            refine lv_if_eq (tgt := 708) hx hb dL_isSpend_696 (by decide) (fun c_696 => ?_) (fun c_696 => ?_)
            · exact absurd c_696 (by decide)
            · refine lv_iload hx hb dL_isSpend_699 (lv_at hl 2 rfl) ?_
              refine lv_aload hx hb dL_isSpend_701 (lv_at hl 13 rfl) ?_
              refine lv_iconst (v := 4) hx hb dL_isSpend_703 (by decide) ?_
              refine k_ild (ad := ad) (k := 17) (i := 10) Z X ct_17_10 (vp_in_nI (n := 4) (by first | assumption | omega) (by decide)) dL_isSpend_704 ?_
              refine lv_topi (fun x_704 e_704 => ?_)
              obtain rfl : x_704 = T.1 11 4 := e_704.trans (by first | (simp only [nI_clamp (show 4 < 2 ^ 31 by omega)]; done) | rfl | (simp only [nI_clamp (show 4 < 2 ^ 31 by omega)]; rfl) | (simp only [nI_clamp (show 4 < 2 ^ 31 by omega)]; simp [sI, sN]; done))
              refine lv_topi (fun x_704 e_704 => ?_)
              obtain rfl : x_704 = nI (S.2 0 3) := e_704.trans (hT.g4)
              refine lv_icmp_ne (tgt := 713) hx hb dL_isSpend_705 (by decide) (fun c_705 => ?_) (fun c_705 => ?_)
              · refine lv_iload hx hb dL_isSpend_713 (lv_at hl 0 rfl) ?_
                refine lv_if_eq (tgt := 731) hx hb dL_isSpend_715 (by decide) (fun c_715 => ?_) (fun c_715 => ?_)
                · refine lv_ldc (v := (-1000000)) hx hb Z.1.2.2.2.1 (Z.1.2.2.2.2 _ (inU_1 _ (List.mem_of_getElem? (i := 8) rfl))) dL_isSpend_731 ?_
                  refine lv_icmp_ne (tgt := 740) hx hb dL_isSpend_733 (by decide) (fun c_733 => ?_) (fun c_733 => ?_)
                  · exact absurd rfl c_733
                  · refine lv_iconst (v := 1) hx hb dL_isSpend_736 (by decide) ?_
                    refine lv_goto (tgt := 741) hx hb dL_isSpend_737 (by decide) ?_
                    exact vx_ret (k_iret Z X hr hlocks rfl (by omega) (by omega) dL_isSpend_741 ⟨⟨rfl, AK.rf⟩, S, _, rfl, (hI.t30 _).mid (by omega)⟩)
                · exact absurd c_715 (by decide)
              · exact absurd ((nI_eq (a := tq) (b := S.2 0 3) (by omega) (by omega)).mp c_705) (by have := of_decide_eq_true ht9; omega)
      · have c_666 : (caD S uq tq) = true := bI_1 c_666
        have hcd := c_666
        simp only [caD, hsD, Bool.and_eq_true, decide_eq_true_eq, Bool.not_eq_true'] at hcd
        obtain ⟨hu1, ⟨ht1, ht51⟩, hg1, h141⟩ := hcd
        have hu9 : (decide (uq < S.2 0 0)) = true := decide_eq_true hu1
        rw [hu9] at hl
        rw [c_666] at hl
        refine lv_iload hx hb dL_isSpend_669 (lv_at hl 2 rfl) ?_
        refine lv_goto (tgt := 676) hx hb dL_isSpend_671 (by decide) ?_
        refine lv_dup2_11 hx hb dL_isSpend_676 rfl rfl ?_
        refine k_ild (ad := ad) (k := 17) (i := 8) Z X ct_17_8 (vp_in_nI (n := tq) (by first | assumption | omega) (by decide)) dL_isSpend_677 ?_
        refine lv_topi (fun x_677 e_677 => ?_)
        obtain rfl : x_677 = T.1 9 tq := e_677.trans (by first | (simp only [nI_clamp (show tq < 2 ^ 31 by omega)]; done) | rfl | (simp only [nI_clamp (show tq < 2 ^ 31 by omega)]; rfl) | (simp only [nI_clamp (show tq < 2 ^ 31 by omega)]; simp [sI, sN]; done))
        refine lv_topi (fun x_677 e_677 => ?_)
        obtain rfl : x_677 = nI (enct S tq) := e_677.trans (hT.t (by omega))
        refine lv_ldc (v := 131072) hx hb Z.1.2.2.2.1 (Z.1.2.2.2.2 _ (inU_27 _ (List.mem_of_getElem? (i := 9) rfl))) dL_isSpend_678 ?_
        refine lv_iadd hx hb dL_isSpend_680 ?_
        refine lv_topi (fun x_680 e_680 => ?_)
        obtain rfl : x_680 = nI ((enct S tq) + 131072) := e_680.trans (nI_add (enct S tq) 131072)
        refine k_ist (ad := ad) (k := 17) (i := 8) Z X ct_17_8 (vp_in_nI (n := tq) (by first | assumption | omega) (by decide)) dL_isSpend_681 (fun H locs X => ?_)
        have X : kX E G s H locs ad (cto G S (sI T 9 tq (nI ((enct S tq) + 131072))) o ad) := X.eq (st_17 (a := 8) (by decide) tq _ (by omega))
        refine lv_aload_n hx hb dL_isSpend_682 rfl (lv_at hl 3 rfl) ?_
        refine lv_bipush (v := 9) hx hb dL_isSpend_683 (by decide) ?_
        refine lv_iload hx hb dL_isSpend_685 (lv_at hl 17 rfl) ?_
        refine lv_iload hx hb dL_isSpend_687 (lv_at hl 2 rfl) ?_
        refine lv_iconst (v := 0) hx hb dL_isSpend_689 (by decide) ?_
        refine lv_iconst (v := 0) hx hb dL_isSpend_690 (by decide) ?_
        refine k_xRi X (k_xrunSW (As := [.ref (ad 0 0), .int 9, .int (nI uq), .int (nI tq), .int 0, .int 0]) (rest := []) Z X (c_L_does_9 l E G S (sI T 9 tq (nI ((enct S tq) + 131072))) o ad (nI uq) (nI tq) 0 0 hE hS hL) (k_cwSW 6 Z.1.2.2.2.2 (inU_6 _ (List.mem_of_getElem? (i := 3) rfl)) (inU_6 _ (List.mem_of_getElem? (i := 4) rfl)) (inU_6 _ (List.mem_of_getElem? (i := 5) rfl)) (inU_6 _ (List.mem_of_getElem? (i := 6) rfl)) rfl rfl (by decide +kernel) ⟨(Nat.le_of_ble_eq_true rfl), (Nat.le_of_ble_eq_true rfl)⟩) rfl hl.1 rfl (Nat.le_of_ble_eq_true rfl) dL_isSpend_691 ⟨(Nat.le_of_ble_eq_true rfl), (Nat.le_of_ble_eq_true rfl)⟩) (fun _ _ _ _ _ _ _ hp => hp.elim) (fun r_691 ad1 ct1 H locs hp X => ?_)
        have hC : cDone S (nI uq) (nI tq) = 0 := by rw [cDone_v (by omega) (by omega), hu9, decide_eq_true ht1, c_666]; rfl
        obtain ⟨ha_, hq⟩ := hp
        rcases hq with ⟨z, hr_, S1, hS1, hb_⟩ | ⟨z, -⟩ | ⟨z, -⟩ | ⟨z, -⟩
        case inr.inl => exact absurd (hC.symm.trans z) (by decide)
        case inr.inr.inl => exact absurd (hC.symm.trans z) (by decide)
        case inr.inr.inr => exact absurd (hC.symm.trans z) (by decide)
        subst hr_
        rw [hb_, ← ha_, show S1 = (oDone S (nI tq)) from hS1] at X
        refine lv_topi (fun y_691 f_691 => ?_)
        obtain rfl : y_691 = S.1 13 tq - S.1 0 0 := f_691.trans (by rw [show cl (nI tq) = tq from nI_clamp (by omega)])
        refine lv_iload hx hb dL_isSpend_694 (lv_at hl 19 rfl) ?_
        refine lv_if_eq (tgt := 708) hx hb dL_isSpend_696 (by decide) (fun c_696 => ?_) (fun c_696 => ?_)
        · exact absurd c_696 (by decide)
        · refine lv_iload hx hb dL_isSpend_699 (lv_at hl 2 rfl) ?_
          refine lv_aload hx hb dL_isSpend_701 (lv_at hl 13 rfl) ?_
          refine lv_iconst (v := 4) hx hb dL_isSpend_703 (by decide) ?_
          refine k_ild (ad := ad) (k := 17) (i := 10) Z X ct_17_10 (vp_in_nI (n := 4) (by first | assumption | omega) (by decide)) dL_isSpend_704 ?_
          refine lv_topi (fun x_704 e_704 => ?_)
          obtain rfl : x_704 = T.1 11 4 := e_704.trans (by first | (simp only [nI_clamp (show 4 < 2 ^ 31 by omega)]; done) | rfl | (simp only [nI_clamp (show 4 < 2 ^ 31 by omega)]; rfl) | (simp only [nI_clamp (show 4 < 2 ^ 31 by omega)]; simp [sI, sN]; done))
          refine lv_topi (fun x_704 e_704 => ?_)
          obtain rfl : x_704 = nI (S.2 0 3) := e_704.trans (hT.g4)
          refine lv_icmp_ne (tgt := 713) hx hb dL_isSpend_705 (by decide) (fun c_705 => ?_) (fun c_705 => ?_)
          · refine lv_iload hx hb dL_isSpend_713 (lv_at hl 0 rfl) ?_
            refine lv_if_eq (tgt := 731) hx hb dL_isSpend_715 (by decide) (fun c_715 => ?_) (fun c_715 => ?_)
            · exact absurd c_715 (by decide)
            · refine lv_aload hx hb dL_isSpend_718 (lv_at hl 12 rfl) ?_
              refine lv_iload hx hb dL_isSpend_720 (lv_at hl 2 rfl) ?_
              refine k_ild (ad := ad) (k := 17) (i := 9) Z X ct_17_9 (vp_in_nI (n := tq) (by first | assumption | omega) (by decide)) dL_isSpend_722 ?_
              refine lv_topi (fun x_722 e_722 => ?_)
              obtain rfl : x_722 = T.1 10 tq := e_722.trans (by first | (simp only [nI_clamp (show tq < 2 ^ 31 by omega)]; done) | rfl | (simp only [nI_clamp (show tq < 2 ^ 31 by omega)]; rfl) | (simp only [nI_clamp (show tq < 2 ^ 31 by omega)]; simp [sI, sN]; done))
              refine lv_topi (fun x_722 e_722 => ?_)
              obtain rfl : x_722 = S.1 13 tq := e_722.trans (hT.w (by omega))
              refine lv_aload hx hb dL_isSpend_723 (lv_at hl 13 rfl) ?_
              refine lv_iconst (v := 0) hx hb dL_isSpend_725 (by decide) ?_
              refine k_ild (ad := ad) (k := 17) (i := 10) Z X ct_17_10 (vp_in_nI (n := 0) (by first | assumption | omega) (by decide)) dL_isSpend_726 ?_
              refine lv_topi (fun x_726 e_726 => ?_)
              obtain rfl : x_726 = T.1 11 0 := e_726.trans (by first | (simp only [nI_clamp (show 0 < 2 ^ 31 by omega)]; done) | rfl | (simp only [nI_clamp (show 0 < 2 ^ 31 by omega)]; rfl) | (simp only [nI_clamp (show 0 < 2 ^ 31 by omega)]; simp [sI, sN]; done))
              refine lv_topi (fun x_726 e_726 => ?_)
              obtain rfl : x_726 = S.1 0 0 := e_726.trans (hT.g0)
              refine lv_isub hx hb dL_isSpend_727 ?_
              refine lv_goto (tgt := 733) hx hb dL_isSpend_728 (by decide) ?_
              refine lv_icmp_ne (tgt := 740) hx hb dL_isSpend_733 (by decide) (fun c_733 => ?_) (fun c_733 => ?_)
              · exact absurd rfl c_733
              · refine lv_iconst (v := 1) hx hb dL_isSpend_736 (by decide) ?_
                refine lv_goto (tgt := 741) hx hb dL_isSpend_737 (by decide) ?_
                exact vx_ret (k_iret Z X hr hlocks rfl (by omega) (by omega) dL_isSpend_741 ⟨⟨rfl, AK.rf⟩, _, _, rfl, Mid.done hI ht1 h141⟩)
          · exact absurd ((nI_eq (a := tq) (b := S.2 0 3) (by omega) (by omega)).mp c_705) (by omega)
    refine lv_iload hx hb dL_isSpend_623 (lv_at hl 18 rfl) ?_
    refine lv_if_eq (tgt := 659) hx hb dL_isSpend_625 (by decide) (fun c_625 => ?_) (fun c_625 => ?_)
    · have c_625 : (decide (uq < S.2 0 0)) = false := bI_0 c_625
      have s_625 := of_decide_eq_false c_625
      refine lv_iconst (v := 0) hx hb dL_isSpend_659 (by decide) ?_
      exact W.eq (congrArg (fun z => F0 m 660 ls (.int z :: [])) (bI_f (by simp [caD, s_625]))) (M_660 _ _ X)
    · have c_625 : (decide (uq < S.2 0 0)) = true := bI_1 c_625
      have s_625 := of_decide_eq_true c_625
      refine lv_iload hx hb dL_isSpend_628 (lv_at hl 0 rfl) ?_
      refine lv_if_eq (tgt := 659) hx hb dL_isSpend_630 (by decide) (fun c_630 => ?_) (fun c_630 => ?_)
      · have c_630 : (hsD S uq tq) = false := bI_0 c_630
        refine lv_iconst (v := 0) hx hb dL_isSpend_659 (by decide) ?_
        exact W.eq (congrArg (fun z => F0 m 660 ls (.int z :: [])) (bI_f (by simp [caD, s_625, c_630]))) (M_660 _ _ X)
      · have c_630 : (hsD S uq tq) = true := bI_1 c_630
        have hhs := c_630
        simp only [hsD, Bool.and_eq_true, decide_eq_true_eq] at hhs
        have htt := hT.tt hN (j := tq) hhs.1
        have htt1 := htt.1
        refine lv_aload_n hx hb dL_isSpend_633 rfl (lv_at hl 3 rfl) ?_
        refine lv_aload hx hb dL_isSpend_634 (lv_at hl 12 rfl) ?_
        refine lv_iload hx hb dL_isSpend_636 (lv_at hl 16 rfl) ?_
        refine k_Ri X (k_runS (As := [.ref (ad 17 0), .ref (ad 17 10), .int (nI uq)]) (rest := []) Z X (c_L_isGone l E G S T o ad S hT uq (by omega)) (k_cwS 3 Z.1.2.2.2.2 (inU_27 _ (List.mem_of_getElem? (i := 11) rfl)) (inU_27 _ (List.mem_of_getElem? (i := 12) rfl)) (inU_6 _ (List.mem_of_getElem? (i := 5) rfl)) (inU_27 _ (List.mem_of_getElem? (i := 13) rfl)) rfl rfl (by decide +kernel) ⟨Nat.le_of_ble_eq_true rfl, Nat.le_of_ble_eq_true rfl⟩) rfl hl.1 rfl (Nat.le_of_ble_eq_true rfl) dL_isSpend_638 ⟨(by first | exact Nat.le_of_ble_eq_true rfl | (show _ ≤ (_ : Nat); simp only [headSpec]; omega)), (by first | exact Nat.le_of_ble_eq_true rfl | (show _ ≤ (_ : Nat); simp only [headSpec]; omega))⟩) (fun r_638 ad1 ct1 H locs hp X => ?_)
        obtain ⟨rfl, ha_, hb_⟩ := hp
        rw [← ha_, hb_] at X
        refine lv_if_ne (tgt := 659) hx hb dL_isSpend_641 (by decide) (fun c_641 => ?_) (fun c_641 => ?_)
        · have c_641 : (gone S uq) = true := bI_1 c_641
          refine lv_iconst (v := 0) hx hb dL_isSpend_659 (by decide) ?_
          exact W.eq (congrArg (fun z => F0 m 660 ls (.int z :: [])) (bI_f (by simp [caD, s_625, c_630, c_641]))) (M_660 _ _ X)
        · have c_641 : (gone S uq) = false := bI_0 c_641
          refine lv_aload hx hb dL_isSpend_644 (lv_at hl 10 rfl) ?_
          refine lv_iload hx hb dL_isSpend_646 (lv_at hl 1 rfl) ?_
          refine k_ild (ad := ad) (k := 17) (i := 8) Z X ct_17_8 (vp_in_nI (n := tq) (by first | assumption | omega) (by decide)) dL_isSpend_648 ?_
          refine lv_topi (fun x_648 e_648 => ?_)
          obtain rfl : x_648 = T.1 9 tq := e_648.trans (by first | (simp only [nI_clamp (show tq < 2 ^ 31 by omega)]; done) | rfl | (simp only [nI_clamp (show tq < 2 ^ 31 by omega)]; rfl) | (simp only [nI_clamp (show tq < 2 ^ 31 by omega)]; simp [sI, sN]; done))
          refine lv_topi (fun x_648 e_648 => ?_)
          obtain rfl : x_648 = nI (enct S tq) := e_648.trans (hT.t (by omega))
          refine lv_ldc (v := 131072) hx hb Z.1.2.2.2.1 (Z.1.2.2.2.2 _ (inU_27 _ (List.mem_of_getElem? (i := 9) rfl))) dL_isSpend_649 ?_
          refine lv_idiv hx hb dL_isSpend_651 (by decide) ?_
          refine lv_topi (fun x_651 e_651 => ?_)
          obtain rfl : x_651 = nI ((enct S tq) / 131072) := e_651.trans ((pk_div (a := (enct S tq)) (d := 131072) (by have := (hT.tt hN (j := tq) (by omega)).1; omega) (by omega) (by omega)))
          refine lv_if_ne (tgt := 659) hx hb dL_isSpend_652 (by decide) (fun c_652 => ?_) (fun c_652 => ?_)
          · have c_652 : ¬ (enct S tq) / 131072 = 0 := fun h => c_652 ((nI_eq (a := (enct S tq) / 131072) (b := 0) (by omega) (by omega)).mpr h)
            have s_652 : ¬ S.1 14 tq = 0 := fun z => c_652 (htt.2.2.2.2.2.1.mpr z)
            refine lv_iconst (v := 0) hx hb dL_isSpend_659 (by decide) ?_
            exact W.eq (congrArg (fun z => F0 m 660 ls (.int z :: [])) (bI_f (by simp [caD, s_625, c_630, c_641, s_652]))) (M_660 _ _ X)
          · have c_652 : (enct S tq) / 131072 = 0 := (nI_eq (a := (enct S tq) / 131072) (b := 0) (by omega) (by omega)).mp c_652
            have s_652 : S.1 14 tq = 0 := htt.2.2.2.2.2.1.mp c_652
            refine lv_iconst (v := 1) hx hb dL_isSpend_655 (by decide) ?_
            refine lv_goto (tgt := 660) hx hb dL_isSpend_656 (by decide) ?_
            exact W.eq (congrArg (fun z => F0 m 660 ls (.int z :: [])) (bI_t (by simp [caD, s_625, c_630, c_641, s_652]))) (M_660 _ _ X)
  refine lv_iload hx hb dL_isSpend_590 (lv_at hl 0 rfl) ?_
  refine lv_aload hx hb dL_isSpend_592 (lv_at hl 11 rfl) ?_
  refine lv_iconst (v := 4) hx hb dL_isSpend_594 (by decide) ?_
  refine k_ild (ad := ad) (k := 17) (i := 10) Z X ct_17_10 (vp_in_nI (n := 4) (by first | assumption | omega) (by decide)) dL_isSpend_595 ?_
  refine lv_topi (fun x_595 e_595 => ?_)
  obtain rfl : x_595 = T.1 11 4 := e_595.trans (by first | (simp only [nI_clamp (show 4 < 2 ^ 31 by omega)]; done) | rfl | (simp only [nI_clamp (show 4 < 2 ^ 31 by omega)]; rfl) | (simp only [nI_clamp (show 4 < 2 ^ 31 by omega)]; simp [sI, sN]; done))
  refine lv_topi (fun x_595 e_595 => ?_)
  obtain rfl : x_595 = nI (S.2 0 3) := e_595.trans (hT.g4)
  refine lv_icmp_ge (tgt := 620) hx hb dL_isSpend_596 (by decide) (fun c_596 => ?_) (fun c_596 => ?_)
  · have c_596 : S.2 0 3 ≤ tq := (nI_leI (a := S.2 0 3) (b := tq) (by omega) (by omega)).mp c_596
    have s_596 : ¬ tq < S.2 0 3 := by omega
    refine lv_iconst (v := 0) hx hb dL_isSpend_620 (by decide) ?_
    exact W.eq (congrArg (fun z => F0 m 621 ls (.int z :: [])) (bI_f (by simp [hsD, s_596]))) (M_621 _ _ X)
  · have c_596 : ¬ S.2 0 3 ≤ tq := fun h => c_596 ((nI_leI (a := S.2 0 3) (b := tq) (by omega) (by omega)).mpr h)
    have s_596 : tq < S.2 0 3 := by omega
    have htt := hT.tt hN (j := tq) (by omega)
    have htt1 := htt.1
    have ht5 := (hN.2.2.2.2.2.2 tq (by omega)).2
    refine lv_aload hx hb dL_isSpend_599 (lv_at hl 9 rfl) ?_
    refine lv_iload hx hb dL_isSpend_601 (lv_at hl 0 rfl) ?_
    refine k_ild (ad := ad) (k := 17) (i := 8) Z X ct_17_8 (vp_in_nI (n := tq) (by first | assumption | omega) (by decide)) dL_isSpend_603 ?_
    refine lv_topi (fun x_603 e_603 => ?_)
    obtain rfl : x_603 = T.1 9 tq := e_603.trans (by first | (simp only [nI_clamp (show tq < 2 ^ 31 by omega)]; done) | rfl | (simp only [nI_clamp (show tq < 2 ^ 31 by omega)]; rfl) | (simp only [nI_clamp (show tq < 2 ^ 31 by omega)]; simp [sI, sN]; done))
    refine lv_topi (fun x_603 e_603 => ?_)
    obtain rfl : x_603 = nI (enct S tq) := e_603.trans (hT.t (by omega))
    refine lv_sipush (v := 8192) hx hb dL_isSpend_604 (by decide) ?_
    refine lv_idiv hx hb dL_isSpend_607 (by decide) ?_
    refine lv_topi (fun x_607 e_607 => ?_)
    obtain rfl : x_607 = nI ((enct S tq) / 8192) := e_607.trans ((pk_div (a := (enct S tq)) (d := 8192) (by have := (hT.tt hN (j := tq) (by omega)).1; omega) (by omega) (by omega)))
    refine lv_bipush (v := 16) hx hb dL_isSpend_608 (by decide) ?_
    refine lv_irem hx hb dL_isSpend_610 (by decide) ?_
    refine lv_topi (fun x_610 e_610 => ?_)
    obtain rfl : x_610 = nI (S.2 5 tq) := e_610.trans ((pk_rem (a := ((enct S tq) / 8192)) (d := 16) (by have := (hT.tt hN (j := tq) (by omega)).1; omega) (by omega) (by omega)).trans (congrArg nI (hT.tt hN (j := tq) (by omega)).2.2.2.1))
    refine lv_iload hx hb dL_isSpend_611 (lv_at hl 15 rfl) ?_
    refine lv_icmp_ne (tgt := 620) hx hb dL_isSpend_613 (by decide) (fun c_613 => ?_) (fun c_613 => ?_)
    · have c_613 : ¬ S.2 5 tq = uq := fun h => c_613 ((nI_eq (a := S.2 5 tq) (b := uq) (by omega) (by omega)).mpr h)
      refine lv_iconst (v := 0) hx hb dL_isSpend_620 (by decide) ?_
      exact W.eq (congrArg (fun z => F0 m 621 ls (.int z :: [])) (bI_f (by simp [hsD, s_596, c_613]))) (M_621 _ _ X)
    · have c_613 : S.2 5 tq = uq := (nI_eq (a := S.2 5 tq) (b := uq) (by omega) (by omega)).mp c_613
      refine lv_iconst (v := 1) hx hb dL_isSpend_616 (by decide) ?_
      refine lv_goto (tgt := 621) hx hb dL_isSpend_617 (by decide) ?_
      exact W.eq (congrArg (fun z => F0 m 621 ls (.int z :: [])) (bI_t (by simp [hsD, s_596, c_613]))) (M_621 _ _ X)
