set_option maxRecDepth 20000 in
theorem ggX12_chains_X12_bits : GoodIn wsX12_chains wsX12_bits := goodIn_r _ [28] (by decide +kernel) (by decide +kernel)
set_option maxRecDepth 20000 in
theorem gX12_chains_X12_bits : GoodIn wsX12_chains (va_wsS RX12 85 yX12_bits wsX12_bits) := goodIn_app (goodIn_of _ (by decide +kernel)) ggX12_chains_X12_bits
set_option maxRecDepth 20000 in
theorem ggX12_chains_X12_has : GoodIn wsX12_chains wsX12_has := goodIn_r _ [25] (by decide +kernel) (by decide +kernel)
set_option maxRecDepth 20000 in
theorem gX12_chains_X12_has : GoodIn wsX12_chains (va_wsS RX12 59 yX12_has wsX12_has) := goodIn_app (goodIn_of _ (by decide +kernel)) ggX12_chains_X12_has
set_option maxRecDepth 20000 in
theorem ggX12_chains_X12_wrongPairing : GoodIn wsX12_chains wsX12_wrongPairing := goodIn_r _ [15, 1, 16, 2, 17, 18, 4, 5, 6, 7, 8, 9, 10, 11, 19, 20, 21, 22, 23, 24, 25, 29, 30, 31, 32, 33, 34, 35, 36, 37, 38, 39, 40, 41, 42, 43, 44, 45, 46, 47, 48, 49, 50, 51, 52] (by decide +kernel) (by decide +kernel)
set_option maxRecDepth 20000 in
theorem gX12_chains_X12_wrongPairing : GoodIn wsX12_chains (wsV RX12 160 RX12 yX12_wrongPairing wsX12_wrongPairing) := goodIn_app (goodIn_of _ (by decide +kernel)) ggX12_chains_X12_wrongPairing
theorem dX12_chains_100 : decode cX12_chains 100 = .ok (.bipush (-3), 2) := by decide +kernel
theorem dX12_chains_102 : decode cX12_chains 102 = .ok (.ireturn, 1) := by decide +kernel
theorem dX12_chains_103 : decode cX12_chains 103 = .ok (.iconst 0, 1) := by decide +kernel
theorem dX12_chains_104 : decode cX12_chains 104 = .ok (.istore 4, 2) := by decide +kernel
theorem dX12_chains_106 : decode cX12_chains 106 = .ok (.iconst 0, 1) := by decide +kernel
theorem dX12_chains_107 : decode cX12_chains 107 = .ok (.istore 5, 2) := by decide +kernel
theorem dX12_chains_109 : decode cX12_chains 109 = .ok (.iload 5, 2) := by decide +kernel
theorem dX12_chains_111 : decode cX12_chains 111 = .ok (.aload_n 0, 1) := by decide +kernel
theorem dX12_chains_112 : decode cX12_chains 112 = .ok (.getfield 63, 3) := by decide +kernel
theorem dX12_chains_115 : decode cX12_chains 115 = .ok (.if_icmp .ge 39, 3) := by decide +kernel
theorem dX12_chains_118 : decode cX12_chains 118 = .ok (.iload 4, 2) := by decide +kernel
theorem dX12_chains_120 : decode cX12_chains 120 = .ok (.aload_n 0, 1) := by decide +kernel
theorem dX12_chains_121 : decode cX12_chains 121 = .ok (.getfield 26, 3) := by decide +kernel
theorem dX12_chains_124 : decode cX12_chains 124 = .ok (.iload 5, 2) := by decide +kernel
theorem dX12_chains_126 : decode cX12_chains 126 = .ok (.iaload, 1) := by decide +kernel
theorem dX12_chains_127 : decode cX12_chains 127 = .ok (.aload_n 0, 1) := by decide +kernel
theorem dX12_chains_128 : decode cX12_chains 128 = .ok (.getfield 32, 3) := by decide +kernel
theorem dX12_chains_131 : decode cX12_chains 131 = .ok (.iload 5, 2) := by decide +kernel
theorem dX12_chains_133 : decode cX12_chains 133 = .ok (.iaload, 1) := by decide +kernel
theorem dX12_chains_134 : decode cX12_chains 134 = .ok (.if_icmp .eq 10, 3) := by decide +kernel
theorem dX12_chains_137 : decode cX12_chains 137 = .ok (.iconst 1, 1) := by decide +kernel
theorem dX12_chains_138 : decode cX12_chains 138 = .ok (.iload 5, 2) := by decide +kernel
theorem dX12_chains_140 : decode cX12_chains 140 = .ok (.ishl, 1) := by decide +kernel
theorem dX12_chains_141 : decode cX12_chains 141 = .ok (.goto 4, 3) := by decide +kernel
theorem dX12_chains_144 : decode cX12_chains 144 = .ok (.iconst 0, 1) := by decide +kernel
theorem dX12_chains_145 : decode cX12_chains 145 = .ok (.ior, 1) := by decide +kernel
theorem dX12_chains_146 : decode cX12_chains 146 = .ok (.istore 4, 2) := by decide +kernel
theorem dX12_chains_148 : decode cX12_chains 148 = .ok (.iinc 5 1, 3) := by decide +kernel
theorem dX12_chains_151 : decode cX12_chains 151 = .ok (.goto (-42), 3) := by decide +kernel
theorem dX12_chains_154 : decode cX12_chains 154 = .ok (.iconst 0, 1) := by decide +kernel
theorem dX12_chains_155 : decode cX12_chains 155 = .ok (.istore 5, 2) := by decide +kernel
theorem dX12_chains_157 : decode cX12_chains 157 = .ok (.iconst 0, 1) := by decide +kernel
theorem dX12_chains_158 : decode cX12_chains 158 = .ok (.istore 6, 2) := by decide +kernel
theorem dX12_chains_160 : decode cX12_chains 160 = .ok (.iconst 0, 1) := by decide +kernel
theorem dX12_chains_161 : decode cX12_chains 161 = .ok (.istore 7, 2) := by decide +kernel
theorem dX12_chains_163 : decode cX12_chains 163 = .ok (.iload 4, 2) := by decide +kernel
theorem dX12_chains_165 : decode cX12_chains 165 = .ok (.ifCond .eq 228, 3) := by decide +kernel
theorem dX12_chains_168 : decode cX12_chains 168 = .ok (.iload 4, 2) := by decide +kernel
theorem dX12_chains_170 : decode cX12_chains 170 = .ok (.iload 4, 2) := by decide +kernel
theorem dX12_chains_172 : decode cX12_chains 172 = .ok (.ineg, 1) := by decide +kernel
theorem dX12_chains_173 : decode cX12_chains 173 = .ok (.iand, 1) := by decide +kernel
theorem dX12_chains_174 : decode cX12_chains 174 = .ok (.istore 8, 2) := by decide +kernel
theorem dX12_chains_176 : decode cX12_chains 176 = .ok (.iconst 0, 1) := by decide +kernel
theorem dX12_chains_177 : decode cX12_chains 177 = .ok (.istore 9, 2) := by decide +kernel
theorem dX12_chains_179 : decode cX12_chains 179 = .ok (.iconst 0, 1) := by decide +kernel
theorem dX12_chains_180 : decode cX12_chains 180 = .ok (.istore 10, 2) := by decide +kernel
theorem dX12_chains_182 : decode cX12_chains 182 = .ok (.iload 10, 2) := by decide +kernel
theorem dX12_chains_184 : decode cX12_chains 184 = .ok (.aload_n 0, 1) := by decide +kernel
theorem dX12_chains_185 : decode cX12_chains 185 = .ok (.getfield 63, 3) := by decide +kernel
theorem dX12_chains_188 : decode cX12_chains 188 = .ok (.if_icmp .ge 148, 3) := by decide +kernel
theorem dX12_chains_191 : decode cX12_chains 191 = .ok (.iconst 0, 1) := by decide +kernel
theorem dX12_chains_192 : decode cX12_chains 192 = .ok (.istore 9, 2) := by decide +kernel
theorem dX12_chains_194 : decode cX12_chains 194 = .ok (.iconst 0, 1) := by decide +kernel
theorem dX12_chains_195 : decode cX12_chains 195 = .ok (.istore 11, 2) := by decide +kernel
theorem dX12_chains_197 : decode cX12_chains 197 = .ok (.iload 11, 2) := by decide +kernel
theorem dX12_chains_199 : decode cX12_chains 199 = .ok (.aload_n 0, 1) := by decide +kernel
theorem dX12_chains_200 : decode cX12_chains 200 = .ok (.getfield 63, 3) := by decide +kernel
theorem dX12_chains_203 : decode cX12_chains 203 = .ok (.if_icmp .ge 127, 3) := by decide +kernel
theorem dX12_chains_206 : decode cX12_chains 206 = .ok (.iload 8, 2) := by decide +kernel
theorem dX12_chains_208 : decode cX12_chains 208 = .ok (.iload 11, 2) := by decide +kernel
theorem dX12_chains_210 : decode cX12_chains 210 = .ok (.invokestatic 59, 3) := by decide +kernel
theorem dX12_chains_213 : decode cX12_chains 213 = .ok (.ifCond .eq 111, 3) := by decide +kernel
theorem dX12_chains_216 : decode cX12_chains 216 = .ok (.aload_n 0, 1) := by decide +kernel
theorem dX12_chains_217 : decode cX12_chains 217 = .ok (.getfield 26, 3) := by decide +kernel
theorem dX12_chains_220 : decode cX12_chains 220 = .ok (.iload 11, 2) := by decide +kernel
theorem dX12_chains_222 : decode cX12_chains 222 = .ok (.iaload, 1) := by decide +kernel
theorem dX12_chains_223 : decode cX12_chains 223 = .ok (.aload_n 0, 1) := by decide +kernel
theorem dX12_chains_224 : decode cX12_chains 224 = .ok (.getfield 32, 3) := by decide +kernel
theorem dX12_chains_227 : decode cX12_chains 227 = .ok (.iload 11, 2) := by decide +kernel
theorem dX12_chains_229 : decode cX12_chains 229 = .ok (.iaload, 1) := by decide +kernel
theorem dX12_chains_230 : decode cX12_chains 230 = .ok (.if_icmp .ne 6, 3) := by decide +kernel
theorem dX12_chains_233 : decode cX12_chains 233 = .ok (.goto 91, 3) := by decide +kernel
theorem dX12_chains_236 : decode cX12_chains 236 = .ok (.aload_n 0, 1) := by decide +kernel
theorem dX12_chains_237 : decode cX12_chains 237 = .ok (.getfield 26, 3) := by decide +kernel
theorem dX12_chains_240 : decode cX12_chains 240 = .ok (.iload 11, 2) := by decide +kernel
theorem dX12_chains_242 : decode cX12_chains 242 = .ok (.iaload, 1) := by decide +kernel
theorem dX12_chains_243 : decode cX12_chains 243 = .ok (.iconst (-1), 1) := by decide +kernel
theorem dX12_chains_244 : decode cX12_chains 244 = .ok (.if_icmp .eq 17, 3) := by decide +kernel
theorem dX12_chains_247 : decode cX12_chains 247 = .ok (.iload 8, 2) := by decide +kernel
theorem dX12_chains_249 : decode cX12_chains 249 = .ok (.iconst 1, 1) := by decide +kernel
theorem dX12_chains_250 : decode cX12_chains 250 = .ok (.aload_n 0, 1) := by decide +kernel
theorem dX12_chains_251 : decode cX12_chains 251 = .ok (.getfield 26, 3) := by decide +kernel
theorem dX12_chains_254 : decode cX12_chains 254 = .ok (.iload 11, 2) := by decide +kernel
theorem dX12_chains_256 : decode cX12_chains 256 = .ok (.iaload, 1) := by decide +kernel
theorem dX12_chains_257 : decode cX12_chains 257 = .ok (.ishl, 1) := by decide +kernel
theorem dX12_chains_258 : decode cX12_chains 258 = .ok (.ior, 1) := by decide +kernel
theorem dX12_chains_259 : decode cX12_chains 259 = .ok (.istore 8, 2) := by decide +kernel
theorem dX12_chains_261 : decode cX12_chains 261 = .ok (.aload_n 0, 1) := by decide +kernel
theorem dX12_chains_262 : decode cX12_chains 262 = .ok (.getfield 32, 3) := by decide +kernel
theorem dX12_chains_265 : decode cX12_chains 265 = .ok (.iload 11, 2) := by decide +kernel
theorem dX12_chains_267 : decode cX12_chains 267 = .ok (.iaload, 1) := by decide +kernel
theorem dX12_chains_268 : decode cX12_chains 268 = .ok (.iconst (-1), 1) := by decide +kernel
theorem dX12_chains_269 : decode cX12_chains 269 = .ok (.if_icmp .eq 17, 3) := by decide +kernel
theorem dX12_chains_272 : decode cX12_chains 272 = .ok (.iload 8, 2) := by decide +kernel
theorem dX12_chains_274 : decode cX12_chains 274 = .ok (.iconst 1, 1) := by decide +kernel
theorem dX12_chains_275 : decode cX12_chains 275 = .ok (.aload_n 0, 1) := by decide +kernel
theorem dX12_chains_276 : decode cX12_chains 276 = .ok (.getfield 32, 3) := by decide +kernel
theorem dX12_chains_279 : decode cX12_chains 279 = .ok (.iload 11, 2) := by decide +kernel
theorem dX12_chains_281 : decode cX12_chains 281 = .ok (.iaload, 1) := by decide +kernel
theorem dX12_chains_282 : decode cX12_chains 282 = .ok (.ishl, 1) := by decide +kernel
theorem dX12_chains_283 : decode cX12_chains 283 = .ok (.ior, 1) := by decide +kernel
theorem dX12_chains_284 : decode cX12_chains 284 = .ok (.istore 8, 2) := by decide +kernel
theorem dX12_chains_286 : decode cX12_chains 286 = .ok (.iload 9, 2) := by decide +kernel
theorem dX12_chains_288 : decode cX12_chains 288 = .ok (.aload_n 0, 1) := by decide +kernel
theorem dX12_chains_289 : decode cX12_chains 289 = .ok (.getfield 26, 3) := by decide +kernel
theorem dX12_chains_292 : decode cX12_chains 292 = .ok (.iload 11, 2) := by decide +kernel
theorem dX12_chains_294 : decode cX12_chains 294 = .ok (.iaload, 1) := by decide +kernel
theorem dX12_chains_295 : decode cX12_chains 295 = .ok (.iconst (-1), 1) := by decide +kernel
theorem dX12_chains_296 : decode cX12_chains 296 = .ok (.if_icmp .eq 7, 3) := by decide +kernel
theorem dX12_chains_299 : decode cX12_chains 299 = .ok (.iconst 1, 1) := by decide +kernel
theorem dX12_chains_300 : decode cX12_chains 300 = .ok (.goto 4, 3) := by decide +kernel
theorem dX12_chains_303 : decode cX12_chains 303 = .ok (.iconst 0, 1) := by decide +kernel
theorem dX12_chains_304 : decode cX12_chains 304 = .ok (.aload_n 0, 1) := by decide +kernel
theorem dX12_chains_305 : decode cX12_chains 305 = .ok (.getfield 32, 3) := by decide +kernel
theorem dX12_chains_308 : decode cX12_chains 308 = .ok (.iload 11, 2) := by decide +kernel
theorem dX12_chains_310 : decode cX12_chains 310 = .ok (.iaload, 1) := by decide +kernel
theorem dX12_chains_311 : decode cX12_chains 311 = .ok (.iconst (-1), 1) := by decide +kernel
theorem dX12_chains_312 : decode cX12_chains 312 = .ok (.if_icmp .eq 7, 3) := by decide +kernel
theorem dX12_chains_315 : decode cX12_chains 315 = .ok (.iconst 1, 1) := by decide +kernel
theorem dX12_chains_316 : decode cX12_chains 316 = .ok (.goto 4, 3) := by decide +kernel
theorem dX12_chains_319 : decode cX12_chains 319 = .ok (.iconst 0, 1) := by decide +kernel
theorem dX12_chains_320 : decode cX12_chains 320 = .ok (.iadd, 1) := by decide +kernel
theorem dX12_chains_321 : decode cX12_chains 321 = .ok (.iadd, 1) := by decide +kernel
theorem dX12_chains_322 : decode cX12_chains 322 = .ok (.istore 9, 2) := by decide +kernel
theorem dX12_chains_324 : decode cX12_chains 324 = .ok (.iinc 11 1, 3) := by decide +kernel
theorem dX12_chains_327 : decode cX12_chains 327 = .ok (.goto (-130), 3) := by decide +kernel
theorem dX12_chains_330 : decode cX12_chains 330 = .ok (.iinc 10 1, 3) := by decide +kernel
theorem dX12_chains_333 : decode cX12_chains 333 = .ok (.goto (-151), 3) := by decide +kernel
theorem dX12_chains_336 : decode cX12_chains 336 = .ok (.iload 9, 2) := by decide +kernel
theorem dX12_chains_338 : decode cX12_chains 338 = .ok (.iconst 2, 1) := by decide +kernel
theorem dX12_chains_339 : decode cX12_chains 339 = .ok (.idiv, 1) := by decide +kernel
theorem dX12_chains_340 : decode cX12_chains 340 = .ok (.istore 10, 2) := by decide +kernel
theorem dX12_chains_342 : decode cX12_chains 342 = .ok (.iinc 5 1, 3) := by decide +kernel
theorem dX12_chains_345 : decode cX12_chains 345 = .ok (.iload 10, 2) := by decide +kernel
theorem dX12_chains_347 : decode cX12_chains 347 = .ok (.iload 6, 2) := by decide +kernel
theorem dX12_chains_349 : decode cX12_chains 349 = .ok (.if_icmp .le 8, 3) := by decide +kernel
theorem dX12_chains_352 : decode cX12_chains 352 = .ok (.iload 10, 2) := by decide +kernel
theorem dX12_chains_354 : decode cX12_chains 354 = .ok (.goto 5, 3) := by decide +kernel
theorem dX12_chains_357 : decode cX12_chains 357 = .ok (.iload 6, 2) := by decide +kernel
theorem dX12_chains_359 : decode cX12_chains 359 = .ok (.istore 6, 2) := by decide +kernel
theorem dX12_chains_36 : decode cX12_chains 36 = .ok (.aload_n 0, 1) := by decide +kernel
theorem dX12_chains_361 : decode cX12_chains 361 = .ok (.iload 7, 2) := by decide +kernel
theorem dX12_chains_363 : decode cX12_chains 363 = .ok (.iload 10, 2) := by decide +kernel
theorem dX12_chains_365 : decode cX12_chains 365 = .ok (.iload 8, 2) := by decide +kernel
theorem dX12_chains_367 : decode cX12_chains 367 = .ok (.invokestatic 85, 3) := by decide +kernel
theorem dX12_chains_37 : decode cX12_chains 37 = .ok (.getfield 38, 3) := by decide +kernel
theorem dX12_chains_370 : decode cX12_chains 370 = .ok (.if_icmp .ne 7, 3) := by decide +kernel
theorem dX12_chains_373 : decode cX12_chains 373 = .ok (.iconst 1, 1) := by decide +kernel
theorem dX12_chains_374 : decode cX12_chains 374 = .ok (.goto 4, 3) := by decide +kernel
theorem dX12_chains_377 : decode cX12_chains 377 = .ok (.iconst 0, 1) := by decide +kernel
theorem dX12_chains_378 : decode cX12_chains 378 = .ok (.iadd, 1) := by decide +kernel
theorem dX12_chains_379 : decode cX12_chains 379 = .ok (.istore 7, 2) := by decide +kernel
theorem dX12_chains_381 : decode cX12_chains 381 = .ok (.iload 4, 2) := by decide +kernel
theorem dX12_chains_383 : decode cX12_chains 383 = .ok (.iload 8, 2) := by decide +kernel
theorem dX12_chains_385 : decode cX12_chains 385 = .ok (.iconst (-1), 1) := by decide +kernel
theorem dX12_chains_386 : decode cX12_chains 386 = .ok (.ixor, 1) := by decide +kernel
theorem dX12_chains_387 : decode cX12_chains 387 = .ok (.iand, 1) := by decide +kernel
theorem dX12_chains_388 : decode cX12_chains 388 = .ok (.istore 4, 2) := by decide +kernel
theorem dX12_chains_390 : decode cX12_chains 390 = .ok (.goto (-227), 3) := by decide +kernel
theorem dX12_chains_393 : decode cX12_chains 393 = .ok (.iload_n 3, 1) := by decide +kernel
theorem dX12_chains_394 : decode cX12_chains 394 = .ok (.ifCond .ne 8, 3) := by decide +kernel
theorem dX12_chains_397 : decode cX12_chains 397 = .ok (.iload 5, 2) := by decide +kernel
theorem dX12_chains_399 : decode cX12_chains 399 = .ok (.goto 15, 3) := by decide +kernel
theorem dX12_chains_40 : decode cX12_chains 40 = .ok (.iload_n 2, 1) := by decide +kernel
theorem dX12_chains_402 : decode cX12_chains 402 = .ok (.iload_n 3, 1) := by decide +kernel
theorem dX12_chains_403 : decode cX12_chains 403 = .ok (.iconst 1, 1) := by decide +kernel
theorem dX12_chains_404 : decode cX12_chains 404 = .ok (.if_icmp .ne 8, 3) := by decide +kernel
theorem dX12_chains_407 : decode cX12_chains 407 = .ok (.iload 6, 2) := by decide +kernel
theorem dX12_chains_409 : decode cX12_chains 409 = .ok (.goto 5, 3) := by decide +kernel
theorem dX12_chains_41 : decode cX12_chains 41 = .ok (.iaload, 1) := by decide +kernel
theorem dX12_chains_412 : decode cX12_chains 412 = .ok (.iload 7, 2) := by decide +kernel
theorem dX12_chains_414 : decode cX12_chains 414 = .ok (.ireturn, 1) := by decide +kernel
theorem dX12_chains_42 : decode cX12_chains 42 = .ok (.iconst (-1), 1) := by decide +kernel
theorem dX12_chains_43 : decode cX12_chains 43 = .ok (.if_icmp .ne 6, 3) := by decide +kernel
theorem dX12_chains_49 : decode cX12_chains 49 = .ok (.aload_n 0, 1) := by decide +kernel
theorem dX12_chains_50 : decode cX12_chains 50 = .ok (.iload_n 1, 1) := by decide +kernel
theorem dX12_chains_51 : decode cX12_chains 51 = .ok (.invokevirtual 160, 3) := by decide +kernel
theorem dX12_chains_54 : decode cX12_chains 54 = .ok (.ifCond .eq 6, 3) := by decide +kernel
theorem dX12_chains_57 : decode cX12_chains 57 = .ok (.bipush (-3), 2) := by decide +kernel
theorem dX12_chains_59 : decode cX12_chains 59 = .ok (.ireturn, 1) := by decide +kernel
theorem dX12_chains_60 : decode cX12_chains 60 = .ok (.iconst 0, 1) := by decide +kernel
theorem dX12_chains_61 : decode cX12_chains 61 = .ok (.istore 4, 2) := by decide +kernel
theorem dX12_chains_63 : decode cX12_chains 63 = .ok (.iload 4, 2) := by decide +kernel
theorem dX12_chains_65 : decode cX12_chains 65 = .ok (.aload_n 0, 1) := by decide +kernel
theorem dX12_chains_66 : decode cX12_chains 66 = .ok (.getfield 63, 3) := by decide +kernel
theorem dX12_chains_69 : decode cX12_chains 69 = .ok (.if_icmp .ge 23, 3) := by decide +kernel
theorem dX12_chains_72 : decode cX12_chains 72 = .ok (.aload_n 0, 1) := by decide +kernel
theorem dX12_chains_73 : decode cX12_chains 73 = .ok (.getfield 32, 3) := by decide +kernel
theorem dX12_chains_76 : decode cX12_chains 76 = .ok (.iload 4, 2) := by decide +kernel
theorem dX12_chains_78 : decode cX12_chains 78 = .ok (.aload_n 0, 1) := by decide +kernel
theorem dX12_chains_79 : decode cX12_chains 79 = .ok (.getfield 26, 3) := by decide +kernel
theorem dX12_chains_82 : decode cX12_chains 82 = .ok (.iload 4, 2) := by decide +kernel
theorem dX12_chains_84 : decode cX12_chains 84 = .ok (.iaload, 1) := by decide +kernel
theorem dX12_chains_85 : decode cX12_chains 85 = .ok (.iastore, 1) := by decide +kernel
theorem dX12_chains_86 : decode cX12_chains 86 = .ok (.iinc 4 1, 3) := by decide +kernel
theorem dX12_chains_89 : decode cX12_chains 89 = .ok (.goto (-26), 3) := by decide +kernel
theorem dX12_chains_92 : decode cX12_chains 92 = .ok (.aload_n 0, 1) := by decide +kernel
theorem dX12_chains_93 : decode cX12_chains 93 = .ok (.iload_n 2, 1) := by decide +kernel
theorem dX12_chains_94 : decode cX12_chains 94 = .ok (.invokevirtual 160, 3) := by decide +kernel
theorem dX12_chains_97 : decode cX12_chains 97 = .ok (.ifCond .eq 6, 3) := by decide +kernel
set_option maxHeartbeats 4000000 in
set_option maxRecDepth 100000 in
theorem w_X12_chains (l : Launch) (D : va_G) (cI cS : ClassId) (sz : Nat) (b : Nat → Nat) (L v0 : SU) (hL : TyL L) (hV : TyV v0) (x0 x1 x2 : Int32) : Met l yX12_chains wsX12_chains ({ frames := 3, cells := 0, slots := 0, locals := 120 }) (PQ D cI cS (wM cI b L v0) sz [.ref (b 0), .int x0, .int x1, .int x2]) (QF (S := SU) D (wM cI b L v0) (wM cI b L) sz (fun r u => TyV u ∧ Rg (-2147483648) 2147483647 r ∧ True)) 0 0 (va_A (wM cI b L v0) sz) := by
  refine Met.ofW (cc := cX12_chains) (maxL := 12) (ret := (some .int)) (by decide) rfl ?_
  intro p e s m args below meth c s₁ B hml hv
  obtain ⟨rfl, hsz, hP, hKK, hD0⟩ := hv
  have hx := B.exec
  have hb := B.bytes
  have hr := B.returns
  have hts := atoms_spec (ws := wsX12_chains) B.pre
  have hown : s.vm.findClass RX12 = some m.cls := findClass_of_methodNamed B.named
  have hlocks := B.notSynchronized
  have hK := hKK.1
  have hin12 : ∀ w ∈ wsX120, w ∈ wsX12_chains := by decide +kernel
  subst hsz
  have hD := hD0.self (sz := s.heap.size)
  obtain ⟨A, hAe⟩ : ∃ A, A = va_A (wM cI b L v0) s.heap.size := ⟨_, rfl⟩
  rw [← hAe] at hD
  have hA : ∀ q : Nat, s.heap.size ≤ q → A q := fun q h => by rw [hAe]; exact Or.inr h
  have hS : va_S A s.heap s.heap [] := va_S.rf
  have hl := lv_entry ([.ref (b 0), .int x0, .int x1, .int x2]) (n := 12) (Nat.le_of_ble_eq_true rfl)
  rw [lg_entry_eq]
  generalize (lg_sl ([.ref (b 0), .int x0, .int x1, .int x2]) ++ List.replicate (12 - (lg_sl ([.ref (b 0), .int x0, .int x1, .int x2])).length) Slot.unset).toArray = ls at hl ⊢
  have hl : lv_has ls 12 [(0, .ref (b 0)), (1, .int x0), (2, .int x1), (3, .int x2)] := hl
  obtain ⟨v, hv9⟩ : ∃ v : SU, v = v0 := ⟨_, rfl⟩
  rw [← hv9] at hP hD hV
  have lp163 : ∀ (n163 : Nat) (y163_l4 y163_l5 y163_l6 y163_l7 : Int32) (v : SU) (H : Heap) (locs : List Loc) (ls : Array Slot), Rg 0 2 x2 → Rg 0 4095 y163_l4 → Rg 0 2147483647 y163_l6 → TyV v → va_P D cls (wM cI b L v) H → va_D A (wM cI b L v) → va_S A s.heap H locs → lv_has ls 12 [(0, .ref (b 0)), (3, .int x2), (4, .int y163_l4), (5, .int y163_l5), (6, .int y163_l6), (7, .int y163_l7)] → y163_l4.toInt < (n163 : Int) → W p l e (headSpec wsX12_chains ({ frames := 3, cells := 0, slots := 0, locals := 120 })).room s m ([.ref (b 0), .int x0, .int x1, .int x2]).toArray below meth c H locs 0 0 (MQ below (QF (S := SU) D (wM cI b L v0) (wM cI b L) s.heap.size (fun r u => TyV u ∧ Rg (-2147483648) 2147483647 r ∧ True)) ([.ref (b 0), .int x0, .int x1, .int x2]).toArray s 0 0 (va_A (wM cI b L v0) s.heap.size)) (F0 m 163 ls []) := by
    intro n163
    induction n163 with
    | zero =>
      intro y163_l4 y163_l5 y163_l6 y163_l7 v H locs ls g163_l3 g163_l4 g163_l6 hV hP hD hS hl hm163
      exact absurd rfl (me_0 g163_l4 (by decide) hm163)
    | succ n163 ih163 =>
      intro y163_l4 y163_l5 y163_l6 y163_l7 v H locs ls g163_l3 g163_l4 g163_l6 hV hP hD hS hl hm163
      have ct359 : ∀ (y359_l5 y359_l8 y359_l10 y359_s0 : Int32) (v : SU) (H : Heap) (locs : List Loc) (ls : Array Slot), Rg 0 2 x2 → Rg 1 4095 y163_l4 → Rg 0 2147483647 y359_s0 → (y163_l4 &&& -y163_l4) &&& y359_l8 = y163_l4 &&& -y163_l4 → TyV v → va_P D cls (wM cI b L v) H → va_D A (wM cI b L v) → va_S A s.heap H locs → lv_has ls 12 [(0, .ref (b 0)), (3, .int x2), (4, .int y163_l4), (5, .int y359_l5), (7, .int y163_l7), (8, .int y359_l8), (10, .int y359_l10)] → W p l e (headSpec wsX12_chains ({ frames := 3, cells := 0, slots := 0, locals := 120 })).room s m ([.ref (b 0), .int x0, .int x1, .int x2]).toArray below meth c H locs 0 0 (MQ below (QF (S := SU) D (wM cI b L v0) (wM cI b L) s.heap.size (fun r u => TyV u ∧ Rg (-2147483648) 2147483647 r ∧ True)) ([.ref (b 0), .int x0, .int x1, .int x2]).toArray s 0 0 (va_A (wM cI b L v0) s.heap.size)) (F0 m 359 ls [.int y359_s0]) := by
        intro y359_l5 y359_l8 y359_l10 y359_s0 v H locs ls g359_l3 g359_l4 g359_s0 x359_0 hV hP hD hS hl
        refine lv_istore (lv' := [(6, .int y359_s0), (0, .ref (b 0)), (3, .int x2), (4, .int y163_l4), (5, .int y359_l5), (7, .int y163_l7), (8, .int y359_l8), (10, .int y359_l10)]) hx hb dX12_chains_359 hl (by decide) rfl (fun ls hl => ?_)
        refine lv_iload hx hb dX12_chains_361 (lv_at hl 5 rfl) ?_
        refine lv_iload hx hb dX12_chains_363 (lv_at hl 7 rfl) ?_
        refine lv_iload hx hb dX12_chains_365 (lv_at hl 6 rfl) ?_
        refine lz_ss (As := [.int y359_l8]) (rest := [.int y359_l10, .int y163_l7]) ⟨hx, hb, hml, hown, hts⟩ (w_X12_bits l D cI cS y359_l8) hKK (hP.sub (ws' := []) [] rfl) (va_cwS 1 hts gX12_chains_X12_bits rfl rfl rfl (by decide +kernel) ⟨Nat.le_of_ble_eq_true rfl, Nat.le_of_ble_eq_true rfl⟩) rfl hl.1 rfl (Nat.le_of_ble_eq_true rfl) dX12_chains_367 ⟨Nat.le_of_ble_eq_true rfl, Nat.le_of_ble_eq_true rfl⟩ (fun r16023 hr16023 => ?_)
        refine lv_icmp_ne (tgt := 377) hx hb dX12_chains_370 (by decide) (fun c16024 => ?_) (fun c16024 => ?_)
        · refine lv_iconst (v := 0) hx hb dX12_chains_377 (by decide) ?_
          refine wk_iadd (e1 := (-2147483648)) (f := 2147483647) hx hb dX12_chains_378 (rg_any y163_l7) (by decide : Rg 0 0 (0 : Int32)) (by decide) (fun r16025 hr16025 er16025 qr16025 => ?_)
          refine lv_istore (lv' := [(7, .int r16025), (6, .int y359_s0), (0, .ref (b 0)), (3, .int x2), (4, .int y163_l4), (5, .int y359_l5), (8, .int y359_l8), (10, .int y359_l10)]) hx hb dX12_chains_379 hl (by decide) rfl (fun ls hl => ?_)
          refine lv_iload hx hb dX12_chains_381 (lv_at hl 4 rfl) ?_
          refine lv_iload hx hb dX12_chains_383 (lv_at hl 6 rfl) ?_
          refine lv_iconst (v := (-1)) hx hb dX12_chains_385 (by decide) ?_
          refine lv_ixor hx hb dX12_chains_386 ?_
          refine wk_topP (P := fun r => r = y359_l8 ^^^ ((-1) : Int32)) rfl (fun r16026 qr16026 => ?_)
          refine wk_iandl hx hb dX12_chains_387 g359_l4 (by decide) (fun r16027 hr16027 qr16027 => ?_)
          refine lv_istore (lv' := [(4, .int r16027), (7, .int r16025), (6, .int y359_s0), (0, .ref (b 0)), (3, .int x2), (5, .int y359_l5), (8, .int y359_l8), (10, .int y359_l10)]) hx hb dX12_chains_388 hl (by decide) rfl (fun ls hl => ?_)
          refine lv_goto (tgt := 163) hx hb dX12_chains_390 (by decide) ?_
          exact ih163 r16027 y359_l5 y359_s0 r16025 v _ _ ls g359_l3 hr16027 g359_s0 hV hP hD hS (lv_sub (l' := [(0, .ref (b 0)), (3, .int x2), (4, .int r16027), (5, .int y359_l5), (6, .int y359_s0), (7, .int r16025)]) hl [3, 4, 0, 5, 2, 1] rfl) (me_lt hm163 (by rw [qr16027, qr16026]; exact an_piece g359_l4 x359_0))
        · refine lv_iconst (v := 1) hx hb dX12_chains_373 (by decide) ?_
          refine lv_goto (tgt := 378) hx hb dX12_chains_374 (by decide) ?_
          refine lv_iadd hx hb dX12_chains_378 ?_
          refine wk_topP (P := fun r => r = y163_l7 + (1 : Int32)) rfl (fun r16028 qr16028 => ?_)
          refine lv_istore (lv' := [(7, .int r16028), (6, .int y359_s0), (0, .ref (b 0)), (3, .int x2), (4, .int y163_l4), (5, .int y359_l5), (8, .int y359_l8), (10, .int y359_l10)]) hx hb dX12_chains_379 hl (by decide) rfl (fun ls hl => ?_)
          refine lv_iload hx hb dX12_chains_381 (lv_at hl 4 rfl) ?_
          refine lv_iload hx hb dX12_chains_383 (lv_at hl 6 rfl) ?_
          refine lv_iconst (v := (-1)) hx hb dX12_chains_385 (by decide) ?_
          refine lv_ixor hx hb dX12_chains_386 ?_
          refine wk_topP (P := fun r => r = y359_l8 ^^^ ((-1) : Int32)) rfl (fun r16029 qr16029 => ?_)
          refine wk_iandl hx hb dX12_chains_387 g359_l4 (by decide) (fun r16030 hr16030 qr16030 => ?_)
          refine lv_istore (lv' := [(4, .int r16030), (7, .int r16028), (6, .int y359_s0), (0, .ref (b 0)), (3, .int x2), (5, .int y359_l5), (8, .int y359_l8), (10, .int y359_l10)]) hx hb dX12_chains_388 hl (by decide) rfl (fun ls hl => ?_)
          refine lv_goto (tgt := 163) hx hb dX12_chains_390 (by decide) ?_
          exact ih163 r16030 y359_l5 y359_s0 r16028 v _ _ ls g359_l3 hr16030 g359_s0 hV hP hD hS (lv_sub (l' := [(0, .ref (b 0)), (3, .int x2), (4, .int r16030), (5, .int y359_l5), (6, .int y359_s0), (7, .int r16028)]) hl [3, 4, 0, 5, 2, 1] rfl) (me_lt hm163 (by rw [qr16030, qr16029]; exact an_piece g359_l4 x359_0))
      have lp182 : ∀ (n182 : Nat) (y182_l8 y182_l9 y182_l10 : Int32) (v : SU) (H : Heap) (locs : List Loc) (ls : Array Slot), Rg 0 2 x2 → Rg 1 4095 y163_l4 → Rg 0 2147483647 y163_l6 → Rg 0 12 y182_l10 → (y163_l4 &&& -y163_l4) &&& y182_l8 = y163_l4 &&& -y163_l4 → TyV v → va_P D cls (wM cI b L v) H → va_D A (wM cI b L v) → va_S A s.heap H locs → lv_has ls 12 [(0, .ref (b 0)), (3, .int x2), (4, .int y163_l4), (5, .int y163_l5), (6, .int y163_l6), (7, .int y163_l7), (8, .int y182_l8), (9, .int y182_l9), (10, .int y182_l10)] → 12 - y182_l10.toInt < (n182 : Int) → W p l e (headSpec wsX12_chains ({ frames := 3, cells := 0, slots := 0, locals := 120 })).room s m ([.ref (b 0), .int x0, .int x1, .int x2]).toArray below meth c H locs 0 0 (MQ below (QF (S := SU) D (wM cI b L v0) (wM cI b L) s.heap.size (fun r u => TyV u ∧ Rg (-2147483648) 2147483647 r ∧ True)) ([.ref (b 0), .int x0, .int x1, .int x2]).toArray s 0 0 (va_A (wM cI b L v0) s.heap.size)) (F0 m 182 ls []) := by
        intro n182
        induction n182 with
        | zero =>
          intro y182_l8 y182_l9 y182_l10 v H locs ls g182_l3 g182_l4 g182_l6 g182_l10 x182_0 hV hP hD hS hl hm182
          exact absurd rfl (me_z g182_l10 hm182)
        | succ n182 ih182 =>
          intro y182_l8 y182_l9 y182_l10 v H locs ls g182_l3 g182_l4 g182_l6 g182_l10 x182_0 hV hP hD hS hl hm182
          have lp197 : ∀ (n197 : Nat) (y197_l8 y197_l9 y197_l11 : Int32) (v : SU) (H : Heap) (locs : List Loc) (ls : Array Slot), Rg 0 2 x2 → Rg 1 4095 y163_l4 → Rg 0 2147483647 y163_l6 → Rg 0 11 y182_l10 → Rg 0 12 y197_l11 → (y163_l4 &&& -y163_l4) &&& y197_l8 = y163_l4 &&& -y163_l4 → TyV v → va_P D cls (wM cI b L v) H → va_D A (wM cI b L v) → va_S A s.heap H locs → lv_has ls 12 [(0, .ref (b 0)), (3, .int x2), (4, .int y163_l4), (5, .int y163_l5), (6, .int y163_l6), (7, .int y163_l7), (8, .int y197_l8), (9, .int y197_l9), (10, .int y182_l10), (11, .int y197_l11)] → 12 - y197_l11.toInt < (n197 : Int) → W p l e (headSpec wsX12_chains ({ frames := 3, cells := 0, slots := 0, locals := 120 })).room s m ([.ref (b 0), .int x0, .int x1, .int x2]).toArray below meth c H locs 0 0 (MQ below (QF (S := SU) D (wM cI b L v0) (wM cI b L) s.heap.size (fun r u => TyV u ∧ Rg (-2147483648) 2147483647 r ∧ True)) ([.ref (b 0), .int x0, .int x1, .int x2]).toArray s 0 0 (va_A (wM cI b L v0) s.heap.size)) (F0 m 197 ls []) := by
            intro n197
            induction n197 with
            | zero =>
              intro y197_l8 y197_l9 y197_l11 v H locs ls g197_l3 g197_l4 g197_l6 g197_l10 g197_l11 x197_0 hV hP hD hS hl hm197
              exact absurd rfl (me_z g197_l11 hm197)
            | succ n197 ih197 =>
              intro y197_l8 y197_l9 y197_l11 v H locs ls g197_l3 g197_l4 g197_l6 g197_l10 g197_l11 x197_0 hV hP hD hS hl hm197
              have ct304 : ∀ (y304_l8 y304_s0 : Int32) (v : SU) (H : Heap) (locs : List Loc) (ls : Array Slot), Rg 0 2 x2 → Rg 1 4095 y163_l4 → Rg 0 2147483647 y163_l6 → Rg 0 11 y182_l10 → Rg 0 11 y197_l11 → Rg 0 1 y304_s0 → (y163_l4 &&& -y163_l4) &&& y304_l8 = y163_l4 &&& -y163_l4 → TyV v → va_P D cls (wM cI b L v) H → va_D A (wM cI b L v) → va_S A s.heap H locs → lv_has ls 12 [(0, .ref (b 0)), (3, .int x2), (4, .int y163_l4), (5, .int y163_l5), (6, .int y163_l6), (7, .int y163_l7), (8, .int y304_l8), (10, .int y182_l10), (11, .int y197_l11)] → W p l e (headSpec wsX12_chains ({ frames := 3, cells := 0, slots := 0, locals := 120 })).room s m ([.ref (b 0), .int x0, .int x1, .int x2]).toArray below meth c H locs 0 0 (MQ below (QF (S := SU) D (wM cI b L v0) (wM cI b L) s.heap.size (fun r u => TyV u ∧ Rg (-2147483648) 2147483647 r ∧ True)) ([.ref (b 0), .int x0, .int x1, .int x2]).toArray s 0 0 (va_A (wM cI b L v0) s.heap.size)) (F0 m 304 ls [.int y304_s0, .int y197_l9]) := by
                intro y304_l8 y304_s0 v H locs ls g304_l3 g304_l4 g304_l6 g304_l10 g304_l11 g304_s0 x304_0 hV hP hD hS hl
                refine lv_aload_n hx hb dX12_chains_304 rfl (lv_at hl 0 rfl) ?_
                refine va_get (D := D) (ci := 12) (v := .ref (b 7)) (C := RX12) (T := TX12) (N := 24) hx hb hts hin12 hown hK hP 0 rfl rfl 8 (by decide) (hts (.fieldLink RX12 32 "MissedPointsModel" "others" "[I") (by decide +kernel)) (fun _ h9 => h9) rfl dX12_chains_305 ?_
                refine lv_iload hx hb dX12_chains_308 (lv_at hl 8 rfl) ?_
                refine wk_aldA hx hb hK hP 7 0 rfl rfl (rg_in g304_l11 (by decide) (by decide)) dX12_chains_310 (fun r16031 => ?_)
                refine lv_iconst (v := (-1)) hx hb dX12_chains_311 (by decide) ?_
                refine lv_icmp_eq (tgt := 319) hx hb dX12_chains_312 (by decide) (fun c16032 => ?_) (fun c16032 => ?_)
                · have g16033 : Rg (-1) (-1) r16031 := wk_eql (rg_any r16031) (by decide : Rg (-1) (-1) ((-1) : Int32)) c16032 (by decide)
                  refine lv_iconst (v := 0) hx hb dX12_chains_319 (by decide) ?_
                  refine wk_iadd (e1 := 0) (f := 1) hx hb dX12_chains_320 g304_s0 (by decide : Rg 0 0 (0 : Int32)) (by decide) (fun r16034 hr16034 er16034 qr16034 => ?_)
                  refine lv_iadd hx hb dX12_chains_321 ?_
                  refine wk_topP (P := fun r => r = y197_l9 + r16034) rfl (fun r16035 qr16035 => ?_)
                  refine lv_istore (lv' := [(9, .int r16035), (0, .ref (b 0)), (3, .int x2), (4, .int y163_l4), (5, .int y163_l5), (6, .int y163_l6), (7, .int y163_l7), (8, .int y304_l8), (10, .int y182_l10), (11, .int y197_l11)]) hx hb dX12_chains_322 hl (by decide) rfl (fun ls hl => ?_)
                  refine wk_iinc (lv' := fun r => [(11, .int r), (9, .int r16035), (0, .ref (b 0)), (3, .int x2), (4, .int y163_l4), (5, .int y163_l5), (6, .int y163_l6), (7, .int y163_l7), (8, .int y304_l8), (10, .int y182_l10)]) (e1 := 1) (f := 12) hx hb dX12_chains_324 hl (k := 9) rfl (by decide) g304_l11 (by decide) (fun _ => rfl) (fun r16036 ls hr16036 er16036 hl => ?_)
                  refine lv_goto (tgt := 197) hx hb dX12_chains_327 (by decide) ?_
                  exact ih197 y304_l8 r16035 r16036 v _ _ ls g304_l3 g304_l4 g304_l6 g304_l10 (show Rg 0 12 r16036 from rg_w hr16036 (by decide) (by decide)) (by exact x304_0) hV hP hD hS (lv_sub (l' := [(0, .ref (b 0)), (3, .int x2), (4, .int y163_l4), (5, .int y163_l5), (6, .int y163_l6), (7, .int y163_l7), (8, .int y304_l8), (9, .int r16035), (10, .int y182_l10), (11, .int r16036)]) hl [2, 3, 4, 5, 6, 7, 8, 1, 9, 0] rfl) (me_up hm197 er16036 (by decide))
                · refine lv_iconst (v := 1) hx hb dX12_chains_315 (by decide) ?_
                  refine lv_goto (tgt := 320) hx hb dX12_chains_316 (by decide) ?_
                  refine wk_iadd (e1 := 1) (f := 2) hx hb dX12_chains_320 g304_s0 (by decide : Rg 1 1 (1 : Int32)) (by decide) (fun r16037 hr16037 er16037 qr16037 => ?_)
                  refine lv_iadd hx hb dX12_chains_321 ?_
                  refine wk_topP (P := fun r => r = y197_l9 + r16037) rfl (fun r16038 qr16038 => ?_)
                  refine lv_istore (lv' := [(9, .int r16038), (0, .ref (b 0)), (3, .int x2), (4, .int y163_l4), (5, .int y163_l5), (6, .int y163_l6), (7, .int y163_l7), (8, .int y304_l8), (10, .int y182_l10), (11, .int y197_l11)]) hx hb dX12_chains_322 hl (by decide) rfl (fun ls hl => ?_)
                  refine wk_iinc (lv' := fun r => [(11, .int r), (9, .int r16038), (0, .ref (b 0)), (3, .int x2), (4, .int y163_l4), (5, .int y163_l5), (6, .int y163_l6), (7, .int y163_l7), (8, .int y304_l8), (10, .int y182_l10)]) (e1 := 1) (f := 12) hx hb dX12_chains_324 hl (k := 9) rfl (by decide) g304_l11 (by decide) (fun _ => rfl) (fun r16039 ls hr16039 er16039 hl => ?_)
                  refine lv_goto (tgt := 197) hx hb dX12_chains_327 (by decide) ?_
                  exact ih197 y304_l8 r16038 r16039 v _ _ ls g304_l3 g304_l4 g304_l6 g304_l10 (show Rg 0 12 r16039 from rg_w hr16039 (by decide) (by decide)) (by exact x304_0) hV hP hD hS (lv_sub (l' := [(0, .ref (b 0)), (3, .int x2), (4, .int y163_l4), (5, .int y163_l5), (6, .int y163_l6), (7, .int y163_l7), (8, .int y304_l8), (9, .int r16038), (10, .int y182_l10), (11, .int r16039)]) hl [2, 3, 4, 5, 6, 7, 8, 1, 9, 0] rfl) (me_up hm197 er16039 (by decide))
              have ct261 : ∀ (y261_l8 : Int32) (v : SU) (H : Heap) (locs : List Loc) (ls : Array Slot), Rg 0 2 x2 → Rg 1 4095 y163_l4 → Rg 0 2147483647 y163_l6 → Rg 0 11 y182_l10 → Rg 0 11 y197_l11 → (y163_l4 &&& -y163_l4) &&& y261_l8 = y163_l4 &&& -y163_l4 → TyV v → va_P D cls (wM cI b L v) H → va_D A (wM cI b L v) → va_S A s.heap H locs → lv_has ls 12 [(0, .ref (b 0)), (3, .int x2), (4, .int y163_l4), (5, .int y163_l5), (6, .int y163_l6), (7, .int y163_l7), (8, .int y261_l8), (9, .int y197_l9), (10, .int y182_l10), (11, .int y197_l11)] → W p l e (headSpec wsX12_chains ({ frames := 3, cells := 0, slots := 0, locals := 120 })).room s m ([.ref (b 0), .int x0, .int x1, .int x2]).toArray below meth c H locs 0 0 (MQ below (QF (S := SU) D (wM cI b L v0) (wM cI b L) s.heap.size (fun r u => TyV u ∧ Rg (-2147483648) 2147483647 r ∧ True)) ([.ref (b 0), .int x0, .int x1, .int x2]).toArray s 0 0 (va_A (wM cI b L v0) s.heap.size)) (F0 m 261 ls []) := by
                intro y261_l8 v H locs ls g261_l3 g261_l4 g261_l6 g261_l10 g261_l11 x261_0 hV hP hD hS hl
                refine lv_aload_n hx hb dX12_chains_261 rfl (lv_at hl 0 rfl) ?_
                refine va_get (D := D) (ci := 12) (v := .ref (b 7)) (C := RX12) (T := TX12) (N := 24) hx hb hts hin12 hown hK hP 0 rfl rfl 8 (by decide) (hts (.fieldLink RX12 32 "MissedPointsModel" "others" "[I") (by decide +kernel)) (fun _ h9 => h9) rfl dX12_chains_262 ?_
                refine lv_iload hx hb dX12_chains_265 (lv_at hl 9 rfl) ?_
                refine wk_aldA hx hb hK hP 7 0 rfl rfl (rg_in g261_l11 (by decide) (by decide)) dX12_chains_267 (fun r16040 => ?_)
                refine lv_iconst (v := (-1)) hx hb dX12_chains_268 (by decide) ?_
                refine lv_icmp_eq (tgt := 286) hx hb dX12_chains_269 (by decide) (fun c16041 => ?_) (fun c16041 => ?_)
                · have g16042 : Rg (-1) (-1) r16040 := wk_eql (rg_any r16040) (by decide : Rg (-1) (-1) ((-1) : Int32)) c16041 (by decide)
                  refine lv_iload hx hb dX12_chains_286 (lv_at hl 7 rfl) ?_
                  refine lv_aload_n hx hb dX12_chains_288 rfl (lv_at hl 0 rfl) ?_
                  refine va_get (D := D) (ci := 12) (v := .ref (b 5)) (C := RX12) (T := TX12) (N := 24) hx hb hts hin12 hown hK hP 0 rfl rfl 6 (by decide) (hts (.fieldLink RX12 26 "MissedPointsModel" "mates" "[I") (by decide +kernel)) (fun _ h9 => h9) rfl dX12_chains_289 ?_
                  refine lv_iload hx hb dX12_chains_292 (lv_at hl 9 rfl) ?_
                  refine wk_ald hx hb hK hP 5 0 rfl rfl (rg_in g261_l11 (by decide) (by decide)) dX12_chains_294 hV.2.2.2.1 (fun r16043 hr16043 => ?_)
                  refine lv_iconst (v := (-1)) hx hb dX12_chains_295 (by decide) ?_
                  refine lv_icmp_eq (tgt := 303) hx hb dX12_chains_296 (by decide) (fun c16044 => ?_) (fun c16044 => ?_)
                  · have g16045 : Rg (-1) (-1) r16043 := wk_eql hr16043 (by decide : Rg (-1) (-1) ((-1) : Int32)) c16044 (by decide)
                    refine lv_iconst (v := 0) hx hb dX12_chains_303 (by decide) ?_
                    exact ct304 y261_l8 (0 : Int32) v _ _ ls g261_l3 g261_l4 g261_l6 g261_l10 g261_l11 (by decide : Rg 0 1 (0 : Int32)) (by exact x261_0) hV hP hD hS (lv_sub (l' := [(0, .ref (b 0)), (3, .int x2), (4, .int y163_l4), (5, .int y163_l5), (6, .int y163_l6), (7, .int y163_l7), (8, .int y261_l8), (10, .int y182_l10), (11, .int y197_l11)]) hl [0, 1, 2, 3, 4, 5, 6, 8, 9] rfl)
                  · have g16046 : Rg 0 11 r16043 := rg_ne_lo (k := (-1)) hr16043 (by decide) c16044 (by decide)
                    refine lv_iconst (v := 1) hx hb dX12_chains_299 (by decide) ?_
                    refine lv_goto (tgt := 304) hx hb dX12_chains_300 (by decide) ?_
                    exact ct304 y261_l8 (1 : Int32) v _ _ ls g261_l3 g261_l4 g261_l6 g261_l10 g261_l11 (by decide : Rg 0 1 (1 : Int32)) (by exact x261_0) hV hP hD hS (lv_sub (l' := [(0, .ref (b 0)), (3, .int x2), (4, .int y163_l4), (5, .int y163_l5), (6, .int y163_l6), (7, .int y163_l7), (8, .int y261_l8), (10, .int y182_l10), (11, .int y197_l11)]) hl [0, 1, 2, 3, 4, 5, 6, 8, 9] rfl)
                · refine lv_iload hx hb dX12_chains_272 (lv_at hl 6 rfl) ?_
                  refine lv_iconst (v := 1) hx hb dX12_chains_274 (by decide) ?_
                  refine lv_aload_n hx hb dX12_chains_275 rfl (lv_at hl 0 rfl) ?_
                  refine va_get (D := D) (ci := 12) (v := .ref (b 7)) (C := RX12) (T := TX12) (N := 24) hx hb hts hin12 hown hK hP 0 rfl rfl 8 (by decide) (hts (.fieldLink RX12 32 "MissedPointsModel" "others" "[I") (by decide +kernel)) (fun _ h9 => h9) rfl dX12_chains_276 ?_
                  refine lv_iload hx hb dX12_chains_279 (lv_at hl 9 rfl) ?_
                  refine wk_aldA hx hb hK hP 7 0 rfl rfl (rg_in g261_l11 (by decide) (by decide)) dX12_chains_281 (fun r16047 => ?_)
                  refine lv_ishl hx hb dX12_chains_282 ?_
                  refine wk_topP (P := fun r => r = (1 : Int32) <<< (r16047 &&& 31)) rfl (fun r16048 qr16048 => ?_)
                  refine lv_ior hx hb dX12_chains_283 ?_
                  refine wk_topP (P := fun r => r = y261_l8 ||| r16048) rfl (fun r16049 qr16049 => ?_)
                  refine lv_istore (lv' := [(8, .int r16049), (0, .ref (b 0)), (3, .int x2), (4, .int y163_l4), (5, .int y163_l5), (6, .int y163_l6), (7, .int y163_l7), (9, .int y197_l9), (10, .int y182_l10), (11, .int y197_l11)]) hx hb dX12_chains_284 hl (by decide) rfl (fun ls hl => ?_)
                  refine lv_iload hx hb dX12_chains_286 (lv_at hl 7 rfl) ?_
                  refine lv_aload_n hx hb dX12_chains_288 rfl (lv_at hl 1 rfl) ?_
                  refine va_get (D := D) (ci := 12) (v := .ref (b 5)) (C := RX12) (T := TX12) (N := 24) hx hb hts hin12 hown hK hP 0 rfl rfl 6 (by decide) (hts (.fieldLink RX12 26 "MissedPointsModel" "mates" "[I") (by decide +kernel)) (fun _ h9 => h9) rfl dX12_chains_289 ?_
                  refine lv_iload hx hb dX12_chains_292 (lv_at hl 9 rfl) ?_
                  refine wk_ald hx hb hK hP 5 0 rfl rfl (rg_in g261_l11 (by decide) (by decide)) dX12_chains_294 hV.2.2.2.1 (fun r16050 hr16050 => ?_)
                  refine lv_iconst (v := (-1)) hx hb dX12_chains_295 (by decide) ?_
                  refine lv_icmp_eq (tgt := 303) hx hb dX12_chains_296 (by decide) (fun c16051 => ?_) (fun c16051 => ?_)
                  · have g16052 : Rg (-1) (-1) r16050 := wk_eql hr16050 (by decide : Rg (-1) (-1) ((-1) : Int32)) c16051 (by decide)
                    refine lv_iconst (v := 0) hx hb dX12_chains_303 (by decide) ?_
                    exact ct304 r16049 (0 : Int32) v _ _ ls g261_l3 g261_l4 g261_l6 g261_l10 g261_l11 (by decide : Rg 0 1 (0 : Int32)) (by exact (by rw [qr16049]; exact lb_or x261_0)) hV hP hD hS (lv_sub (l' := [(0, .ref (b 0)), (3, .int x2), (4, .int y163_l4), (5, .int y163_l5), (6, .int y163_l6), (7, .int y163_l7), (8, .int r16049), (10, .int y182_l10), (11, .int y197_l11)]) hl [1, 2, 3, 4, 5, 6, 0, 8, 9] rfl)
                  · have g16053 : Rg 0 11 r16050 := rg_ne_lo (k := (-1)) hr16050 (by decide) c16051 (by decide)
                    refine lv_iconst (v := 1) hx hb dX12_chains_299 (by decide) ?_
                    refine lv_goto (tgt := 304) hx hb dX12_chains_300 (by decide) ?_
                    exact ct304 r16049 (1 : Int32) v _ _ ls g261_l3 g261_l4 g261_l6 g261_l10 g261_l11 (by decide : Rg 0 1 (1 : Int32)) (by exact (by rw [qr16049]; exact lb_or x261_0)) hV hP hD hS (lv_sub (l' := [(0, .ref (b 0)), (3, .int x2), (4, .int y163_l4), (5, .int y163_l5), (6, .int y163_l6), (7, .int y163_l7), (8, .int r16049), (10, .int y182_l10), (11, .int y197_l11)]) hl [1, 2, 3, 4, 5, 6, 0, 8, 9] rfl)
              refine lv_iload hx hb dX12_chains_197 (lv_at hl 9 rfl) ?_
              refine lv_aload_n hx hb dX12_chains_199 rfl (lv_at hl 0 rfl) ?_
              refine va_get (D := D) (ci := 12) (v := .int (L 0 0)) (C := RX12) (T := TX12) (N := 24) hx hb hts hin12 hown hK hP 0 rfl rfl 0 (by decide) (hts (.fieldLink RX12 63 "MissedPointsModel" "many" "I") (by decide +kernel)) (fun _ h9 => h9) rfl dX12_chains_200 ?_
              refine lv_icmp_ge (tgt := 330) hx hb dX12_chains_203 (by decide) (fun c16054 => ?_) (fun c16054 => ?_)
              · refine wk_iinc (lv' := fun r => [(10, .int r), (0, .ref (b 0)), (3, .int x2), (4, .int y163_l4), (5, .int y163_l5), (6, .int y163_l6), (7, .int y163_l7), (8, .int y197_l8), (9, .int y197_l9), (11, .int y197_l11)]) (e1 := 1) (f := 12) hx hb dX12_chains_330 hl (k := 8) rfl (by decide) g197_l10 (by decide) (fun _ => rfl) (fun r16055 ls hr16055 er16055 hl => ?_)
                refine lv_goto (tgt := 182) hx hb dX12_chains_333 (by decide) ?_
                exact ih182 y197_l8 y197_l9 r16055 v _ _ ls g197_l3 g197_l4 g197_l6 (show Rg 0 12 r16055 from rg_w hr16055 (by decide) (by decide)) (by exact x197_0) hV hP hD hS (lv_sub (l' := [(0, .ref (b 0)), (3, .int x2), (4, .int y163_l4), (5, .int y163_l5), (6, .int y163_l6), (7, .int y163_l7), (8, .int y197_l8), (9, .int y197_l9), (10, .int r16055)]) hl [1, 2, 3, 4, 5, 6, 7, 8, 0] rfl) (me_up hm182 er16055 (by decide))
              · have g16056 : Rg 1 12 (L 0 0) := rg_ltr g197_l11 hL.1 (rg_nle c16054) (by decide)
                have g16057 : Rg 0 11 y197_l11 := rg_ltl g197_l11 hL.1 (rg_nle c16054) (by decide)
                refine lv_iload hx hb dX12_chains_206 (lv_at hl 6 rfl) ?_
                refine lv_iload hx hb dX12_chains_208 (lv_at hl 9 rfl) ?_
                refine lz_ss (As := [.int y197_l8, .int y197_l11]) (rest := []) ⟨hx, hb, hml, hown, hts⟩ (w_X12_has l D cI cS y197_l8 y197_l11) hKK (hP.sub (ws' := []) [] rfl) (va_cwS 2 hts gX12_chains_X12_has rfl rfl rfl (by decide +kernel) ⟨Nat.le_of_ble_eq_true rfl, Nat.le_of_ble_eq_true rfl⟩) rfl hl.1 rfl (Nat.le_of_ble_eq_true rfl) dX12_chains_210 ⟨Nat.le_of_ble_eq_true rfl, Nat.le_of_ble_eq_true rfl⟩ (fun r16058 hr16058 => ?_)
                refine lv_if_eq (tgt := 324) hx hb dX12_chains_213 (by decide) (fun c16059 => ?_) (fun c16059 => ?_)
                · have g16060 : Rg 0 0 r16058 := wk_eql hr16058.1 (by decide : Rg 0 0 (0 : Int32)) c16059 (by decide)
                  refine wk_iinc (lv' := fun r => [(11, .int r), (0, .ref (b 0)), (3, .int x2), (4, .int y163_l4), (5, .int y163_l5), (6, .int y163_l6), (7, .int y163_l7), (8, .int y197_l8), (9, .int y197_l9), (10, .int y182_l10)]) (e1 := 1) (f := 12) hx hb dX12_chains_324 hl (k := 9) rfl (by decide) g16057 (by decide) (fun _ => rfl) (fun r16061 ls hr16061 er16061 hl => ?_)
                  refine lv_goto (tgt := 197) hx hb dX12_chains_327 (by decide) ?_
                  exact ih197 y197_l8 y197_l9 r16061 v _ _ ls g197_l3 g197_l4 g197_l6 g197_l10 (show Rg 0 12 r16061 from rg_w hr16061 (by decide) (by decide)) (by exact x197_0) hV hP hD hS (lv_sub (l' := [(0, .ref (b 0)), (3, .int x2), (4, .int y163_l4), (5, .int y163_l5), (6, .int y163_l6), (7, .int y163_l7), (8, .int y197_l8), (9, .int y197_l9), (10, .int y182_l10), (11, .int r16061)]) hl [1, 2, 3, 4, 5, 6, 7, 8, 9, 0] rfl) (me_up hm197 er16061 (by decide))
                · have g16062 : Rg 1 1 r16058 := rg_ne_lo (k := 0) hr16058.1 (by decide) c16059 (by decide)
                  refine lv_aload_n hx hb dX12_chains_216 rfl (lv_at hl 0 rfl) ?_
                  refine va_get (D := D) (ci := 12) (v := .ref (b 5)) (C := RX12) (T := TX12) (N := 24) hx hb hts hin12 hown hK hP 0 rfl rfl 6 (by decide) (hts (.fieldLink RX12 26 "MissedPointsModel" "mates" "[I") (by decide +kernel)) (fun _ h9 => h9) rfl dX12_chains_217 ?_
                  refine lv_iload hx hb dX12_chains_220 (lv_at hl 9 rfl) ?_
                  refine wk_ald hx hb hK hP 5 0 rfl rfl (rg_in g16057 (by decide) (by decide)) dX12_chains_222 hV.2.2.2.1 (fun r16063 hr16063 => ?_)
                  refine lv_aload_n hx hb dX12_chains_223 rfl (lv_at hl 0 rfl) ?_
                  refine va_get (D := D) (ci := 12) (v := .ref (b 7)) (C := RX12) (T := TX12) (N := 24) hx hb hts hin12 hown hK hP 0 rfl rfl 8 (by decide) (hts (.fieldLink RX12 32 "MissedPointsModel" "others" "[I") (by decide +kernel)) (fun _ h9 => h9) rfl dX12_chains_224 ?_
                  refine lv_iload hx hb dX12_chains_227 (lv_at hl 9 rfl) ?_
                  refine wk_aldA hx hb hK hP 7 0 rfl rfl (rg_in g16057 (by decide) (by decide)) dX12_chains_229 (fun r16064 => ?_)
                  refine lv_icmp_ne (tgt := 236) hx hb dX12_chains_230 (by decide) (fun c16065 => ?_) (fun c16065 => ?_)
                  · refine lv_aload_n hx hb dX12_chains_236 rfl (lv_at hl 0 rfl) ?_
                    refine va_get (D := D) (ci := 12) (v := .ref (b 5)) (C := RX12) (T := TX12) (N := 24) hx hb hts hin12 hown hK hP 0 rfl rfl 6 (by decide) (hts (.fieldLink RX12 26 "MissedPointsModel" "mates" "[I") (by decide +kernel)) (fun _ h9 => h9) rfl dX12_chains_237 ?_
                    refine lv_iload hx hb dX12_chains_240 (lv_at hl 9 rfl) ?_
                    refine wk_ald hx hb hK hP 5 0 rfl rfl (rg_in g16057 (by decide) (by decide)) dX12_chains_242 hV.2.2.2.1 (fun r16066 hr16066 => ?_)
                    refine lv_iconst (v := (-1)) hx hb dX12_chains_243 (by decide) ?_
                    refine lv_icmp_eq (tgt := 261) hx hb dX12_chains_244 (by decide) (fun c16067 => ?_) (fun c16067 => ?_)
                    · have g16068 : Rg (-1) (-1) r16066 := wk_eql hr16066 (by decide : Rg (-1) (-1) ((-1) : Int32)) c16067 (by decide)
                      exact ct261 y197_l8 v _ _ ls g197_l3 g197_l4 g197_l6 g197_l10 g16057 (by exact x197_0) hV hP hD hS (lv_sub (l' := [(0, .ref (b 0)), (3, .int x2), (4, .int y163_l4), (5, .int y163_l5), (6, .int y163_l6), (7, .int y163_l7), (8, .int y197_l8), (9, .int y197_l9), (10, .int y182_l10), (11, .int y197_l11)]) hl [0, 1, 2, 3, 4, 5, 6, 7, 8, 9] rfl)
                    · have g16069 : Rg 0 11 r16066 := rg_ne_lo (k := (-1)) hr16066 (by decide) c16067 (by decide)
                      refine lv_iload hx hb dX12_chains_247 (lv_at hl 6 rfl) ?_
                      refine lv_iconst (v := 1) hx hb dX12_chains_249 (by decide) ?_
                      refine lv_aload_n hx hb dX12_chains_250 rfl (lv_at hl 0 rfl) ?_
                      refine va_get (D := D) (ci := 12) (v := .ref (b 5)) (C := RX12) (T := TX12) (N := 24) hx hb hts hin12 hown hK hP 0 rfl rfl 6 (by decide) (hts (.fieldLink RX12 26 "MissedPointsModel" "mates" "[I") (by decide +kernel)) (fun _ h9 => h9) rfl dX12_chains_251 ?_
                      refine lv_iload hx hb dX12_chains_254 (lv_at hl 9 rfl) ?_
                      refine wk_ald hx hb hK hP 5 0 rfl rfl (rg_in g16057 (by decide) (by decide)) dX12_chains_256 hV.2.2.2.1 (fun r16070 hr16070 => ?_)
                      refine lv_ishl hx hb dX12_chains_257 ?_
                      refine wk_topP (P := fun r => r = (1 : Int32) <<< (r16070 &&& 31)) rfl (fun r16071 qr16071 => ?_)
                      refine lv_ior hx hb dX12_chains_258 ?_
                      refine wk_topP (P := fun r => r = y197_l8 ||| r16071) rfl (fun r16072 qr16072 => ?_)
                      refine lv_istore (lv' := [(8, .int r16072), (0, .ref (b 0)), (3, .int x2), (4, .int y163_l4), (5, .int y163_l5), (6, .int y163_l6), (7, .int y163_l7), (9, .int y197_l9), (10, .int y182_l10), (11, .int y197_l11)]) hx hb dX12_chains_259 hl (by decide) rfl (fun ls hl => ?_)
                      exact ct261 r16072 v _ _ ls g197_l3 g197_l4 g197_l6 g197_l10 g16057 (by exact (by rw [qr16072]; exact lb_or x197_0)) hV hP hD hS (lv_sub (l' := [(0, .ref (b 0)), (3, .int x2), (4, .int y163_l4), (5, .int y163_l5), (6, .int y163_l6), (7, .int y163_l7), (8, .int r16072), (9, .int y197_l9), (10, .int y182_l10), (11, .int y197_l11)]) hl [1, 2, 3, 4, 5, 6, 0, 7, 8, 9] rfl)
                  · have g16073 : Rg (-1) 11 r16064 := wk_eqr hr16063 (rg_any r16064) c16065 (by decide)
                    refine lv_goto (tgt := 324) hx hb dX12_chains_233 (by decide) ?_
                    refine wk_iinc (lv' := fun r => [(11, .int r), (0, .ref (b 0)), (3, .int x2), (4, .int y163_l4), (5, .int y163_l5), (6, .int y163_l6), (7, .int y163_l7), (8, .int y197_l8), (9, .int y197_l9), (10, .int y182_l10)]) (e1 := 1) (f := 12) hx hb dX12_chains_324 hl (k := 9) rfl (by decide) g16057 (by decide) (fun _ => rfl) (fun r16074 ls hr16074 er16074 hl => ?_)
                    refine lv_goto (tgt := 197) hx hb dX12_chains_327 (by decide) ?_
                    exact ih197 y197_l8 y197_l9 r16074 v _ _ ls g197_l3 g197_l4 g197_l6 g197_l10 (show Rg 0 12 r16074 from rg_w hr16074 (by decide) (by decide)) (by exact x197_0) hV hP hD hS (lv_sub (l' := [(0, .ref (b 0)), (3, .int x2), (4, .int y163_l4), (5, .int y163_l5), (6, .int y163_l6), (7, .int y163_l7), (8, .int y197_l8), (9, .int y197_l9), (10, .int y182_l10), (11, .int r16074)]) hl [1, 2, 3, 4, 5, 6, 7, 8, 9, 0] rfl) (me_up hm197 er16074 (by decide))
          refine lv_iload hx hb dX12_chains_182 (lv_at hl 8 rfl) ?_
          refine lv_aload_n hx hb dX12_chains_184 rfl (lv_at hl 0 rfl) ?_
          refine va_get (D := D) (ci := 12) (v := .int (L 0 0)) (C := RX12) (T := TX12) (N := 24) hx hb hts hin12 hown hK hP 0 rfl rfl 0 (by decide) (hts (.fieldLink RX12 63 "MissedPointsModel" "many" "I") (by decide +kernel)) (fun _ h9 => h9) rfl dX12_chains_185 ?_
          refine lv_icmp_ge (tgt := 336) hx hb dX12_chains_188 (by decide) (fun c16075 => ?_) (fun c16075 => ?_)
          · refine lv_iload hx hb dX12_chains_336 (lv_at hl 7 rfl) ?_
            refine lv_iconst (v := 2) hx hb dX12_chains_338 (by decide) ?_
            refine lv_idiv hx hb dX12_chains_339 (by decide) ?_
            refine wk_any (fun r16076 => ?_)
            refine lv_istore (lv' := [(10, .int r16076), (0, .ref (b 0)), (3, .int x2), (4, .int y163_l4), (5, .int y163_l5), (6, .int y163_l6), (7, .int y163_l7), (8, .int y182_l8), (9, .int y182_l9)]) hx hb dX12_chains_340 hl (by decide) rfl (fun ls hl => ?_)
            refine wk_iincA (lv' := fun r => [(5, .int r), (10, .int r16076), (0, .ref (b 0)), (3, .int x2), (4, .int y163_l4), (6, .int y163_l6), (7, .int y163_l7), (8, .int y182_l8), (9, .int y182_l9)]) hx hb dX12_chains_342 hl (k := 4) rfl (by decide) (fun _ => rfl) (fun r16077 ls hl => ?_)
            refine lv_iload hx hb dX12_chains_345 (lv_at hl 1 rfl) ?_
            refine lv_iload hx hb dX12_chains_347 (lv_at hl 5 rfl) ?_
            refine lv_icmp_le (tgt := 357) hx hb dX12_chains_349 (by decide) (fun c16078 => ?_) (fun c16078 => ?_)
            · refine lv_iload hx hb dX12_chains_357 (lv_at hl 5 rfl) ?_
              exact ct359 r16077 y182_l8 r16076 y163_l6 v _ _ ls g182_l3 g182_l4 g182_l6 (by exact x182_0) hV hP hD hS (lv_sub (l' := [(0, .ref (b 0)), (3, .int x2), (4, .int y163_l4), (5, .int r16077), (7, .int y163_l7), (8, .int y182_l8), (10, .int r16076)]) hl [2, 3, 4, 0, 6, 7, 1] rfl)
            · have g16079 : Rg 1 2147483647 r16076 := rg_ltr g182_l6 (rg_any r16076) (rg_nle c16078) (by decide)
              have g16080 : Rg 0 2147483646 y163_l6 := rg_ltl g182_l6 (rg_any r16076) (rg_nle c16078) (by decide)
              refine lv_iload hx hb dX12_chains_352 (lv_at hl 1 rfl) ?_
              refine lv_goto (tgt := 359) hx hb dX12_chains_354 (by decide) ?_
              exact ct359 r16077 y182_l8 r16076 r16076 v _ _ ls g182_l3 g182_l4 (show Rg 0 2147483647 r16076 from rg_w g16079 (by decide) (by decide)) (by exact x182_0) hV hP hD hS (lv_sub (l' := [(0, .ref (b 0)), (3, .int x2), (4, .int y163_l4), (5, .int r16077), (7, .int y163_l7), (8, .int y182_l8), (10, .int r16076)]) hl [2, 3, 4, 0, 6, 7, 1] rfl)
          · have g16081 : Rg 1 12 (L 0 0) := rg_ltr g182_l10 hL.1 (rg_nle c16075) (by decide)
            have g16082 : Rg 0 11 y182_l10 := rg_ltl g182_l10 hL.1 (rg_nle c16075) (by decide)
            refine lv_iconst (v := 0) hx hb dX12_chains_191 (by decide) ?_
            refine lv_istore (lv' := [(9, .int 0), (0, .ref (b 0)), (3, .int x2), (4, .int y163_l4), (5, .int y163_l5), (6, .int y163_l6), (7, .int y163_l7), (8, .int y182_l8), (10, .int y182_l10)]) hx hb dX12_chains_192 hl (by decide) rfl (fun ls hl => ?_)
            refine lv_iconst (v := 0) hx hb dX12_chains_194 (by decide) ?_
            refine lv_istore (lv' := [(11, .int 0), (9, .int 0), (0, .ref (b 0)), (3, .int x2), (4, .int y163_l4), (5, .int y163_l5), (6, .int y163_l6), (7, .int y163_l7), (8, .int y182_l8), (10, .int y182_l10)]) hx hb dX12_chains_195 hl (by decide) rfl (fun ls hl => ?_)
            exact lp197 13 y182_l8 (0 : Int32) (0 : Int32) v _ _ ls g182_l3 g182_l4 g182_l6 g16082 (by decide : Rg 0 12 (0 : Int32)) (by exact x182_0) hV hP hD hS (lv_sub (l' := [(0, .ref (b 0)), (3, .int x2), (4, .int y163_l4), (5, .int y163_l5), (6, .int y163_l6), (7, .int y163_l7), (8, .int y182_l8), (9, .int 0), (10, .int y182_l10), (11, .int 0)]) hl [2, 3, 4, 5, 6, 7, 8, 1, 9, 0] rfl) (me_i (by decide : Rg 0 12 (0 : Int32)) (by decide))
      refine lv_iload hx hb dX12_chains_163 (lv_at hl 2 rfl) ?_
      refine lv_if_eq (tgt := 393) hx hb dX12_chains_165 (by decide) (fun c16083 => ?_) (fun c16083 => ?_)
      · have g16084 : Rg 0 0 y163_l4 := wk_eql g163_l4 (by decide : Rg 0 0 (0 : Int32)) c16083 (by decide)
        refine lv_iload_n hx hb dX12_chains_393 rfl (lv_at hl 1 rfl) ?_
        refine lv_if_ne (tgt := 402) hx hb dX12_chains_394 (by decide) (fun c16085 => ?_) (fun c16085 => ?_)
        · have g16086 : Rg 1 2 x2 := rg_ne_lo (k := 0) g163_l3 (by decide) c16085 (by decide)
          refine lv_iload_n hx hb dX12_chains_402 rfl (lv_at hl 1 rfl) ?_
          refine lv_iconst (v := 1) hx hb dX12_chains_403 (by decide) ?_
          refine lv_icmp_ne (tgt := 412) hx hb dX12_chains_404 (by decide) (fun c16087 => ?_) (fun c16087 => ?_)
          · have g16088 : Rg 2 2 x2 := rg_ne_lo (k := 1) g16086 (by decide) c16087 (by decide)
            refine lv_iload hx hb dX12_chains_412 (lv_at hl 5 rfl) ?_
            subst hAe
            exact W.iret (v := y163_l7) hx hb hr (fun t ht hW => ⟨⟨_, v, rfl, ⟨hV, (rg_any y163_l7), trivial⟩, by rw [ht]; exact hP, hD⟩, hS.F ht⟩) hS.2.2 dX12_chains_414
          · have g16089 : Rg 1 1 x2 := wk_eql g16086 (by decide : Rg 1 1 (1 : Int32)) c16087 (by decide)
            refine lv_iload hx hb dX12_chains_407 (lv_at hl 4 rfl) ?_
            refine lv_goto (tgt := 414) hx hb dX12_chains_409 (by decide) ?_
            subst hAe
            exact W.iret (v := y163_l6) hx hb hr (fun t ht hW => ⟨⟨_, v, rfl, ⟨hV, (rg_any y163_l6), trivial⟩, by rw [ht]; exact hP, hD⟩, hS.F ht⟩) hS.2.2 dX12_chains_414
        · have g16090 : Rg 0 0 x2 := wk_eql g163_l3 (by decide : Rg 0 0 (0 : Int32)) c16085 (by decide)
          refine lv_iload hx hb dX12_chains_397 (lv_at hl 3 rfl) ?_
          refine lv_goto (tgt := 414) hx hb dX12_chains_399 (by decide) ?_
          subst hAe
          exact W.iret (v := y163_l5) hx hb hr (fun t ht hW => ⟨⟨_, v, rfl, ⟨hV, (rg_any y163_l5), trivial⟩, by rw [ht]; exact hP, hD⟩, hS.F ht⟩) hS.2.2 dX12_chains_414
      · have g16091 : Rg 1 4095 y163_l4 := rg_ne_lo (k := 0) g163_l4 (by decide) c16083 (by decide)
        refine lv_iload hx hb dX12_chains_168 (lv_at hl 2 rfl) ?_
        refine lv_iload hx hb dX12_chains_170 (lv_at hl 2 rfl) ?_
        refine lv_ineg hx hb dX12_chains_172 ?_
        refine wk_topP (P := fun r => r = -y163_l4) rfl (fun r16092 qr16092 => ?_)
        refine wk_iandl hx hb dX12_chains_173 g16091 (by decide) (fun r16093 hr16093 qr16093 => ?_)
        refine lv_istore (lv' := [(8, .int r16093), (0, .ref (b 0)), (3, .int x2), (4, .int y163_l4), (5, .int y163_l5), (6, .int y163_l6), (7, .int y163_l7)]) hx hb dX12_chains_174 hl (by decide) rfl (fun ls hl => ?_)
        refine lv_iconst (v := 0) hx hb dX12_chains_176 (by decide) ?_
        refine lv_istore (lv' := [(9, .int 0), (8, .int r16093), (0, .ref (b 0)), (3, .int x2), (4, .int y163_l4), (5, .int y163_l5), (6, .int y163_l6), (7, .int y163_l7)]) hx hb dX12_chains_177 hl (by decide) rfl (fun ls hl => ?_)
        refine lv_iconst (v := 0) hx hb dX12_chains_179 (by decide) ?_
        refine lv_istore (lv' := [(10, .int 0), (9, .int 0), (8, .int r16093), (0, .ref (b 0)), (3, .int x2), (4, .int y163_l4), (5, .int y163_l5), (6, .int y163_l6), (7, .int y163_l7)]) hx hb dX12_chains_180 hl (by decide) rfl (fun ls hl => ?_)
        exact lp182 13 r16093 (0 : Int32) (0 : Int32) v _ _ ls g163_l3 g16091 g163_l6 (by decide : Rg 0 12 (0 : Int32)) (by exact (by rw [qr16093, qr16092]; exact Int32.and_self)) hV hP hD hS (lv_sub (l' := [(0, .ref (b 0)), (3, .int x2), (4, .int y163_l4), (5, .int y163_l5), (6, .int y163_l6), (7, .int y163_l7), (8, .int r16093), (9, .int 0), (10, .int 0)]) hl [3, 4, 5, 6, 7, 8, 2, 1, 0] rfl) (me_i (by decide : Rg 0 12 (0 : Int32)) (by decide))
  have lp109 : ∀ (n109 : Nat) (y109_l4 y109_l5 : Int32) (v : SU) (H : Heap) (locs : List Loc) (ls : Array Slot), Rg 0 2 x2 → Rg 0 4095 y109_l4 → Rg 0 12 y109_l5 → TyV v → va_P D cls (wM cI b L v) H → va_D A (wM cI b L v) → va_S A s.heap H locs → lv_has ls 12 [(0, .ref (b 0)), (3, .int x2), (4, .int y109_l4), (5, .int y109_l5)] → 12 - y109_l5.toInt < (n109 : Int) → W p l e (headSpec wsX12_chains ({ frames := 3, cells := 0, slots := 0, locals := 120 })).room s m ([.ref (b 0), .int x0, .int x1, .int x2]).toArray below meth c H locs 0 0 (MQ below (QF (S := SU) D (wM cI b L v0) (wM cI b L) s.heap.size (fun r u => TyV u ∧ Rg (-2147483648) 2147483647 r ∧ True)) ([.ref (b 0), .int x0, .int x1, .int x2]).toArray s 0 0 (va_A (wM cI b L v0) s.heap.size)) (F0 m 109 ls []) := by
    intro n109
    induction n109 with
    | zero =>
      intro y109_l4 y109_l5 v H locs ls g109_l3 g109_l4 g109_l5 hV hP hD hS hl hm109
      exact absurd rfl (me_z g109_l5 hm109)
    | succ n109 ih109 =>
      intro y109_l4 y109_l5 v H locs ls g109_l3 g109_l4 g109_l5 hV hP hD hS hl hm109
      refine lv_iload hx hb dX12_chains_109 (lv_at hl 3 rfl) ?_
      refine lv_aload_n hx hb dX12_chains_111 rfl (lv_at hl 0 rfl) ?_
      refine va_get (D := D) (ci := 12) (v := .int (L 0 0)) (C := RX12) (T := TX12) (N := 24) hx hb hts hin12 hown hK hP 0 rfl rfl 0 (by decide) (hts (.fieldLink RX12 63 "MissedPointsModel" "many" "I") (by decide +kernel)) (fun _ h9 => h9) rfl dX12_chains_112 ?_
      refine lv_icmp_ge (tgt := 154) hx hb dX12_chains_115 (by decide) (fun c16094 => ?_) (fun c16094 => ?_)
      · refine lv_iconst (v := 0) hx hb dX12_chains_154 (by decide) ?_
        refine lv_istore (lv' := [(5, .int 0), (0, .ref (b 0)), (3, .int x2), (4, .int y109_l4)]) hx hb dX12_chains_155 hl (by decide) rfl (fun ls hl => ?_)
        refine lv_iconst (v := 0) hx hb dX12_chains_157 (by decide) ?_
        refine lv_istore (lv' := [(6, .int 0), (5, .int 0), (0, .ref (b 0)), (3, .int x2), (4, .int y109_l4)]) hx hb dX12_chains_158 hl (by decide) rfl (fun ls hl => ?_)
        refine lv_iconst (v := 0) hx hb dX12_chains_160 (by decide) ?_
        refine lv_istore (lv' := [(7, .int 0), (6, .int 0), (5, .int 0), (0, .ref (b 0)), (3, .int x2), (4, .int y109_l4)]) hx hb dX12_chains_161 hl (by decide) rfl (fun ls hl => ?_)
        exact lp163 4096 y109_l4 (0 : Int32) (0 : Int32) (0 : Int32) v _ _ ls g109_l3 g109_l4 (by decide : Rg 0 2147483647 (0 : Int32)) hV hP hD hS (lv_sub (l' := [(0, .ref (b 0)), (3, .int x2), (4, .int y109_l4), (5, .int 0), (6, .int 0), (7, .int 0)]) hl [3, 4, 5, 2, 1, 0] rfl) (me_k g109_l4 (by decide))
      · have g16095 : Rg 1 12 (L 0 0) := rg_ltr g109_l5 hL.1 (rg_nle c16094) (by decide)
        have g16096 : Rg 0 11 y109_l5 := rg_ltl g109_l5 hL.1 (rg_nle c16094) (by decide)
        refine lv_iload hx hb dX12_chains_118 (lv_at hl 2 rfl) ?_
        refine lv_aload_n hx hb dX12_chains_120 rfl (lv_at hl 0 rfl) ?_
        refine va_get (D := D) (ci := 12) (v := .ref (b 5)) (C := RX12) (T := TX12) (N := 24) hx hb hts hin12 hown hK hP 0 rfl rfl 6 (by decide) (hts (.fieldLink RX12 26 "MissedPointsModel" "mates" "[I") (by decide +kernel)) (fun _ h9 => h9) rfl dX12_chains_121 ?_
        refine lv_iload hx hb dX12_chains_124 (lv_at hl 3 rfl) ?_
        refine wk_ald hx hb hK hP 5 0 rfl rfl (rg_in g16096 (by decide) (by decide)) dX12_chains_126 hV.2.2.2.1 (fun r16097 hr16097 => ?_)
        refine lv_aload_n hx hb dX12_chains_127 rfl (lv_at hl 0 rfl) ?_
        refine va_get (D := D) (ci := 12) (v := .ref (b 7)) (C := RX12) (T := TX12) (N := 24) hx hb hts hin12 hown hK hP 0 rfl rfl 8 (by decide) (hts (.fieldLink RX12 32 "MissedPointsModel" "others" "[I") (by decide +kernel)) (fun _ h9 => h9) rfl dX12_chains_128 ?_
        refine lv_iload hx hb dX12_chains_131 (lv_at hl 3 rfl) ?_
        refine wk_aldA hx hb hK hP 7 0 rfl rfl (rg_in g16096 (by decide) (by decide)) dX12_chains_133 (fun r16098 => ?_)
        refine lv_icmp_eq (tgt := 144) hx hb dX12_chains_134 (by decide) (fun c16099 => ?_) (fun c16099 => ?_)
        · have g16100 : Rg (-1) 11 r16098 := wk_eqr hr16097 (rg_any r16098) c16099 (by decide)
          refine lv_iconst (v := 0) hx hb dX12_chains_144 (by decide) ?_
          refine wk_ior 12 (e1 := 0) (f := 4095) hx hb dX12_chains_145 g109_l4 (by decide : Rg 0 0 (0 : Int32)) (by decide) (fun r16101 hr16101 qr16101 => ?_)
          refine lv_istore (lv' := [(4, .int r16101), (0, .ref (b 0)), (3, .int x2), (5, .int y109_l5)]) hx hb dX12_chains_146 hl (by decide) rfl (fun ls hl => ?_)
          refine wk_iinc (lv' := fun r => [(5, .int r), (4, .int r16101), (0, .ref (b 0)), (3, .int x2)]) (e1 := 1) (f := 12) hx hb dX12_chains_148 hl (k := 3) rfl (by decide) g16096 (by decide) (fun _ => rfl) (fun r16102 ls hr16102 er16102 hl => ?_)
          refine lv_goto (tgt := 109) hx hb dX12_chains_151 (by decide) ?_
          exact ih109 r16101 r16102 v _ _ ls g109_l3 hr16101 (show Rg 0 12 r16102 from rg_w hr16102 (by decide) (by decide)) hV hP hD hS (lv_sub (l' := [(0, .ref (b 0)), (3, .int x2), (4, .int r16101), (5, .int r16102)]) hl [2, 3, 1, 0] rfl) (me_up hm109 er16102 (by decide))
        · refine lv_iconst (v := 1) hx hb dX12_chains_137 (by decide) ?_
          refine lv_iload hx hb dX12_chains_138 (lv_at hl 3 rfl) ?_
          refine wk_ishl1 (f := 2048) hx hb dX12_chains_140 g16096 (by decide) (fun r16103 hr16103 qr16103 => ?_)
          refine lv_goto (tgt := 145) hx hb dX12_chains_141 (by decide) ?_
          refine wk_ior 12 (e1 := 1) (f := 4095) hx hb dX12_chains_145 g109_l4 hr16103 (by decide) (fun r16104 hr16104 qr16104 => ?_)
          refine lv_istore (lv' := [(4, .int r16104), (0, .ref (b 0)), (3, .int x2), (5, .int y109_l5)]) hx hb dX12_chains_146 hl (by decide) rfl (fun ls hl => ?_)
          refine wk_iinc (lv' := fun r => [(5, .int r), (4, .int r16104), (0, .ref (b 0)), (3, .int x2)]) (e1 := 1) (f := 12) hx hb dX12_chains_148 hl (k := 3) rfl (by decide) g16096 (by decide) (fun _ => rfl) (fun r16105 ls hr16105 er16105 hl => ?_)
          refine lv_goto (tgt := 109) hx hb dX12_chains_151 (by decide) ?_
          exact ih109 r16104 r16105 v _ _ ls g109_l3 (show Rg 0 4095 r16104 from rg_w hr16104 (by decide) (by decide)) (show Rg 0 12 r16105 from rg_w hr16105 (by decide) (by decide)) hV hP hD hS (lv_sub (l' := [(0, .ref (b 0)), (3, .int x2), (4, .int r16104), (5, .int r16105)]) hl [2, 3, 1, 0] rfl) (me_up hm109 er16105 (by decide))
  have lp63 : ∀ (n63 : Nat) (y63_l4 : Int32) (v : SU) (H : Heap) (locs : List Loc) (ls : Array Slot), Rg 0 3 x1 → Rg 0 2 x2 → Rg 0 12 y63_l4 → TyV v → va_P D cls (wM cI b L v) H → va_D A (wM cI b L v) → va_S A s.heap H locs → lv_has ls 12 [(0, .ref (b 0)), (2, .int x1), (3, .int x2), (4, .int y63_l4)] → 12 - y63_l4.toInt < (n63 : Int) → W p l e (headSpec wsX12_chains ({ frames := 3, cells := 0, slots := 0, locals := 120 })).room s m ([.ref (b 0), .int x0, .int x1, .int x2]).toArray below meth c H locs 0 0 (MQ below (QF (S := SU) D (wM cI b L v0) (wM cI b L) s.heap.size (fun r u => TyV u ∧ Rg (-2147483648) 2147483647 r ∧ True)) ([.ref (b 0), .int x0, .int x1, .int x2]).toArray s 0 0 (va_A (wM cI b L v0) s.heap.size)) (F0 m 63 ls []) := by
    intro n63
    induction n63 with
    | zero =>
      intro y63_l4 v H locs ls g63_l2 g63_l3 g63_l4 hV hP hD hS hl hm63
      exact absurd rfl (me_z g63_l4 hm63)
    | succ n63 ih63 =>
      intro y63_l4 v H locs ls g63_l2 g63_l3 g63_l4 hV hP hD hS hl hm63
      refine lv_iload hx hb dX12_chains_63 (lv_at hl 3 rfl) ?_
      refine lv_aload_n hx hb dX12_chains_65 rfl (lv_at hl 0 rfl) ?_
      refine va_get (D := D) (ci := 12) (v := .int (L 0 0)) (C := RX12) (T := TX12) (N := 24) hx hb hts hin12 hown hK hP 0 rfl rfl 0 (by decide) (hts (.fieldLink RX12 63 "MissedPointsModel" "many" "I") (by decide +kernel)) (fun _ h9 => h9) rfl dX12_chains_66 ?_
      refine lv_icmp_ge (tgt := 92) hx hb dX12_chains_69 (by decide) (fun c16106 => ?_) (fun c16106 => ?_)
      · refine lv_aload_n hx hb dX12_chains_92 rfl (lv_at hl 0 rfl) ?_
        refine lv_iload_n hx hb dX12_chains_93 rfl (lv_at hl 1 rfl) ?_
        refine wk_qi (wM cI b L) v (As := [.int x1]) (rest := []) ⟨hx, hb, hml, hown, hts⟩ (w_X12_wrongPairing l D cI cS _ b L v hL hV x1) hKK hP hD hS hA 0 (ci := 12) rfl rfl (cwV 1 hts gX12_chains_X12_wrongPairing rfl rfl rfl (by decide +kernel) ⟨Nat.le_of_ble_eq_true rfl, Nat.le_of_ble_eq_true rfl⟩) rfl hl.1 rfl (Nat.le_of_ble_eq_true rfl) dX12_chains_94 ⟨Nat.le_of_ble_eq_true rfl, Nat.le_of_ble_eq_true rfl⟩ (fun r16107 v H locs hr16107 hP hD hS => ?_)
        have hV := hr16107.1
        refine lv_if_eq (tgt := 103) hx hb dX12_chains_97 (by decide) (fun c16108 => ?_) (fun c16108 => ?_)
        · have g16109 : Rg 0 0 r16107 := wk_eql hr16107.2.1 (by decide : Rg 0 0 (0 : Int32)) c16108 (by decide)
          refine lv_iconst (v := 0) hx hb dX12_chains_103 (by decide) ?_
          refine lv_istore (lv' := [(4, .int 0), (0, .ref (b 0)), (2, .int x1), (3, .int x2)]) hx hb dX12_chains_104 hl (by decide) rfl (fun ls hl => ?_)
          refine lv_iconst (v := 0) hx hb dX12_chains_106 (by decide) ?_
          refine lv_istore (lv' := [(5, .int 0), (4, .int 0), (0, .ref (b 0)), (2, .int x1), (3, .int x2)]) hx hb dX12_chains_107 hl (by decide) rfl (fun ls hl => ?_)
          exact lp109 13 (0 : Int32) (0 : Int32) v _ _ ls g63_l3 (by decide : Rg 0 4095 (0 : Int32)) (by decide : Rg 0 12 (0 : Int32)) hV hP hD hS (lv_sub (l' := [(0, .ref (b 0)), (3, .int x2), (4, .int 0), (5, .int 0)]) hl [2, 4, 1, 0] rfl) (me_i (by decide : Rg 0 12 (0 : Int32)) (by decide))
        · have g16110 : Rg (-11) (-1) r16107 := rg_ne_hi (k := 0) hr16107.2.1 (by decide) c16108 (by decide)
          refine lv_bipush (v := (-3)) hx hb dX12_chains_100 (by decide) ?_
          subst hAe
          exact W.iret (v := (-3)) hx hb hr (fun t ht hW => ⟨⟨_, v, rfl, ⟨hV, (by decide : Rg (-2147483648) 2147483647 ((-3) : Int32)), trivial⟩, by rw [ht]; exact hP, hD⟩, hS.F ht⟩) hS.2.2 dX12_chains_102
      · have g16111 : Rg 1 12 (L 0 0) := rg_ltr g63_l4 hL.1 (rg_nle c16106) (by decide)
        have g16112 : Rg 0 11 y63_l4 := rg_ltl g63_l4 hL.1 (rg_nle c16106) (by decide)
        refine lv_aload_n hx hb dX12_chains_72 rfl (lv_at hl 0 rfl) ?_
        refine va_get (D := D) (ci := 12) (v := .ref (b 7)) (C := RX12) (T := TX12) (N := 24) hx hb hts hin12 hown hK hP 0 rfl rfl 8 (by decide) (hts (.fieldLink RX12 32 "MissedPointsModel" "others" "[I") (by decide +kernel)) (fun _ h9 => h9) rfl dX12_chains_73 ?_
        refine lv_iload hx hb dX12_chains_76 (lv_at hl 3 rfl) ?_
        refine lv_aload_n hx hb dX12_chains_78 rfl (lv_at hl 0 rfl) ?_
        refine va_get (D := D) (ci := 12) (v := .ref (b 5)) (C := RX12) (T := TX12) (N := 24) hx hb hts hin12 hown hK hP 0 rfl rfl 6 (by decide) (hts (.fieldLink RX12 26 "MissedPointsModel" "mates" "[I") (by decide +kernel)) (fun _ h9 => h9) rfl dX12_chains_79 ?_
        refine lv_iload hx hb dX12_chains_82 (lv_at hl 3 rfl) ?_
        refine wk_ald hx hb hK hP 5 0 rfl rfl (rg_in g16112 (by decide) (by decide)) dX12_chains_84 hV.2.2.2.1 (fun r16113 hr16113 => ?_)
        refine ms_7 hx hb hK hP hD hS hV rfl (rg_in g16112 (by decide) (by decide)) dX12_chains_85 (fun v H locs hV ev16114 hP hD hS => ?_)
        refine wk_iinc (lv' := fun r => [(4, .int r), (0, .ref (b 0)), (2, .int x1), (3, .int x2)]) (e1 := 1) (f := 12) hx hb dX12_chains_86 hl (k := 3) rfl (by decide) g16112 (by decide) (fun _ => rfl) (fun r16115 ls hr16115 er16115 hl => ?_)
        refine lv_goto (tgt := 63) hx hb dX12_chains_89 (by decide) ?_
        exact ih63 r16115 v _ _ ls g63_l2 g63_l3 (show Rg 0 12 r16115 from rg_w hr16115 (by decide) (by decide)) hV hP hD hS (lv_sub (l' := [(0, .ref (b 0)), (2, .int x1), (3, .int x2), (4, .int r16115)]) hl [1, 2, 3, 0] rfl) (me_up hm63 er16115 (by decide))
  refine lv_iload_n hx hb dX12_chains_0 rfl (lv_at hl 1 rfl) ?_
  refine lz_ss (As := [.int x0]) (rest := []) ⟨hx, hb, hml, hown, hts⟩ (w_X12_isSheet l D cI cS x0) hKK (hP.sub (ws' := []) [] rfl) (va_cwS 1 hts gX12_chains_X12_isSheet rfl rfl rfl (by decide +kernel) ⟨Nat.le_of_ble_eq_true rfl, Nat.le_of_ble_eq_true rfl⟩) rfl hl.1 rfl (Nat.le_of_ble_eq_true rfl) dX12_chains_1 ⟨Nat.le_of_ble_eq_true rfl, Nat.le_of_ble_eq_true rfl⟩ (fun r16116 hr16116 => ?_)
  refine lv_if_eq (tgt := 23) hx hb dX12_chains_4 (by decide) (fun c16117 => ?_) (fun c16117 => ?_)
  · have g16118 : Rg 0 0 r16116 := wk_eql hr16116.1 (by decide : Rg 0 0 (0 : Int32)) c16117 (by decide)
    refine lv_bipush (v := (-2)) hx hb dX12_chains_23 (by decide) ?_
    subst hAe
    exact W.iret (v := (-2)) hx hb hr (fun t ht hW => ⟨⟨_, v, rfl, ⟨hV, (by decide : Rg (-2147483648) 2147483647 ((-2) : Int32)), trivial⟩, by rw [ht]; exact hP, hD⟩, hS.F ht⟩) hS.2.2 dX12_chains_25
  · have g16119 : Rg 0 3 x0 := (hr16116.2 c16117)
    have g16120 : Rg 1 1 r16116 := rg_ne_lo (k := 0) hr16116.1 (by decide) c16117 (by decide)
    refine lv_iload_n hx hb dX12_chains_7 rfl (lv_at hl 2 rfl) ?_
    refine lz_ss (As := [.int x1]) (rest := []) ⟨hx, hb, hml, hown, hts⟩ (w_X12_isSheet l D cI cS x1) hKK (hP.sub (ws' := []) [] rfl) (va_cwS 1 hts gX12_chains_X12_isSheet rfl rfl rfl (by decide +kernel) ⟨Nat.le_of_ble_eq_true rfl, Nat.le_of_ble_eq_true rfl⟩) rfl hl.1 rfl (Nat.le_of_ble_eq_true rfl) dX12_chains_8 ⟨Nat.le_of_ble_eq_true rfl, Nat.le_of_ble_eq_true rfl⟩ (fun r16121 hr16121 => ?_)
    refine lv_if_eq (tgt := 23) hx hb dX12_chains_11 (by decide) (fun c16122 => ?_) (fun c16122 => ?_)
    · have g16123 : Rg 0 0 r16121 := wk_eql hr16121.1 (by decide : Rg 0 0 (0 : Int32)) c16122 (by decide)
      refine lv_bipush (v := (-2)) hx hb dX12_chains_23 (by decide) ?_
      subst hAe
      exact W.iret (v := (-2)) hx hb hr (fun t ht hW => ⟨⟨_, v, rfl, ⟨hV, (by decide : Rg (-2147483648) 2147483647 ((-2) : Int32)), trivial⟩, by rw [ht]; exact hP, hD⟩, hS.F ht⟩) hS.2.2 dX12_chains_25
    · have g16124 : Rg 0 3 x1 := (hr16121.2 c16122)
      have g16125 : Rg 1 1 r16121 := rg_ne_lo (k := 0) hr16121.1 (by decide) c16122 (by decide)
      refine lv_iload_n hx hb dX12_chains_14 rfl (lv_at hl 3 rfl) ?_
      refine lv_iconst (v := 0) hx hb dX12_chains_15 (by decide) ?_
      refine lv_iconst (v := 2) hx hb dX12_chains_16 (by decide) ?_
      refine lz_ss (As := [.int x2, .int 0, .int 2]) (rest := []) ⟨hx, hb, hml, hown, hts⟩ (w_X12_in l D cI cS x2 (0 : Int32) (2 : Int32)) hKK (hP.sub (ws' := []) [] rfl) (va_cwS 3 hts gX12_chains_X12_in rfl rfl rfl (by decide +kernel) ⟨Nat.le_of_ble_eq_true rfl, Nat.le_of_ble_eq_true rfl⟩) rfl hl.1 rfl (Nat.le_of_ble_eq_true rfl) dX12_chains_17 ⟨Nat.le_of_ble_eq_true rfl, Nat.le_of_ble_eq_true rfl⟩ (fun r16126 hr16126 => ?_)
      refine lv_if_ne (tgt := 26) hx hb dX12_chains_20 (by decide) (fun c16127 => ?_) (fun c16127 => ?_)
      · have g16128 : Rg 0 2 x2 := wk_in3 (rg_any x2) (by decide : Rg 0 0 (0 : Int32)) (by decide : Rg 2 2 (2 : Int32)) (hr16126.2 c16127) (by decide)
        have g16129 : Rg 1 1 r16126 := rg_ne_lo (k := 0) hr16126.1 (by decide) c16127 (by decide)
        refine lv_aload_n hx hb dX12_chains_26 rfl (lv_at hl 0 rfl) ?_
        refine va_get (D := D) (ci := 12) (v := .ref (b 9)) (C := RX12) (T := TX12) (N := 24) hx hb hts hin12 hown hK hP 0 rfl rfl 16 (by decide) (hts (.fieldLink RX12 38 "MissedPointsModel" "sort" "[I") (by decide +kernel)) (fun _ h9 => h9) rfl dX12_chains_27 ?_
        refine lv_iload_n hx hb dX12_chains_30 rfl (lv_at hl 1 rfl) ?_
        refine wk_ald hx hb hK hP 9 0 rfl rfl (rg_in g16119 (by decide) (by decide)) dX12_chains_31 hL.2.2.1 (fun r16130 hr16130 => ?_)
        refine lv_iconst (v := (-1)) hx hb dX12_chains_32 (by decide) ?_
        refine lv_icmp_eq (tgt := 46) hx hb dX12_chains_33 (by decide) (fun c16131 => ?_) (fun c16131 => ?_)
        · have g16132 : Rg (-1) (-1) r16130 := wk_eql hr16130 (by decide : Rg (-1) (-1) ((-1) : Int32)) c16131 (by decide)
          refine lv_bipush (v := (-11)) hx hb dX12_chains_46 (by decide) ?_
          subst hAe
          exact W.iret (v := (-11)) hx hb hr (fun t ht hW => ⟨⟨_, v, rfl, ⟨hV, (by decide : Rg (-2147483648) 2147483647 ((-11) : Int32)), trivial⟩, by rw [ht]; exact hP, hD⟩, hS.F ht⟩) hS.2.2 dX12_chains_48
        · have g16133 : Rg 0 1 r16130 := rg_ne_lo (k := (-1)) hr16130 (by decide) c16131 (by decide)
          refine lv_aload_n hx hb dX12_chains_36 rfl (lv_at hl 0 rfl) ?_
          refine va_get (D := D) (ci := 12) (v := .ref (b 9)) (C := RX12) (T := TX12) (N := 24) hx hb hts hin12 hown hK hP 0 rfl rfl 16 (by decide) (hts (.fieldLink RX12 38 "MissedPointsModel" "sort" "[I") (by decide +kernel)) (fun _ h9 => h9) rfl dX12_chains_37 ?_
          refine lv_iload_n hx hb dX12_chains_40 rfl (lv_at hl 2 rfl) ?_
          refine wk_ald hx hb hK hP 9 0 rfl rfl (rg_in g16124 (by decide) (by decide)) dX12_chains_41 hL.2.2.1 (fun r16134 hr16134 => ?_)
          refine lv_iconst (v := (-1)) hx hb dX12_chains_42 (by decide) ?_
          refine lv_icmp_ne (tgt := 49) hx hb dX12_chains_43 (by decide) (fun c16135 => ?_) (fun c16135 => ?_)
          · have g16136 : Rg 0 1 r16134 := rg_ne_lo (k := (-1)) hr16134 (by decide) c16135 (by decide)
            refine lv_aload_n hx hb dX12_chains_49 rfl (lv_at hl 0 rfl) ?_
            refine lv_iload_n hx hb dX12_chains_50 rfl (lv_at hl 1 rfl) ?_
            refine wk_qi (wM cI b L) v (As := [.int x0]) (rest := []) ⟨hx, hb, hml, hown, hts⟩ (w_X12_wrongPairing l D cI cS _ b L v hL hV x0) hKK hP hD hS hA 0 (ci := 12) rfl rfl (cwV 1 hts gX12_chains_X12_wrongPairing rfl rfl rfl (by decide +kernel) ⟨Nat.le_of_ble_eq_true rfl, Nat.le_of_ble_eq_true rfl⟩) rfl hl.1 rfl (Nat.le_of_ble_eq_true rfl) dX12_chains_51 ⟨Nat.le_of_ble_eq_true rfl, Nat.le_of_ble_eq_true rfl⟩ (fun r16137 v H locs hr16137 hP hD hS => ?_)
            have hV := hr16137.1
            refine lv_if_eq (tgt := 60) hx hb dX12_chains_54 (by decide) (fun c16138 => ?_) (fun c16138 => ?_)
            · have g16139 : Rg 0 0 r16137 := wk_eql hr16137.2.1 (by decide : Rg 0 0 (0 : Int32)) c16138 (by decide)
              refine lv_iconst (v := 0) hx hb dX12_chains_60 (by decide) ?_
              refine lv_istore (lv' := [(4, .int 0), (0, .ref (b 0)), (1, .int x0), (2, .int x1), (3, .int x2)]) hx hb dX12_chains_61 hl (by decide) rfl (fun ls hl => ?_)
              exact lp63 13 (0 : Int32) v _ _ ls g16124 g16128 (by decide : Rg 0 12 (0 : Int32)) hV hP hD hS (lv_sub (l' := [(0, .ref (b 0)), (2, .int x1), (3, .int x2), (4, .int 0)]) hl [1, 3, 4, 0] rfl) (me_i (by decide : Rg 0 12 (0 : Int32)) (by decide))
            · have g16140 : Rg (-11) (-1) r16137 := rg_ne_hi (k := 0) hr16137.2.1 (by decide) c16138 (by decide)
              refine lv_bipush (v := (-3)) hx hb dX12_chains_57 (by decide) ?_
              subst hAe
              exact W.iret (v := (-3)) hx hb hr (fun t ht hW => ⟨⟨_, v, rfl, ⟨hV, (by decide : Rg (-2147483648) 2147483647 ((-3) : Int32)), trivial⟩, by rw [ht]; exact hP, hD⟩, hS.F ht⟩) hS.2.2 dX12_chains_59
          · have g16141 : Rg (-1) (-1) r16134 := wk_eql hr16134 (by decide : Rg (-1) (-1) ((-1) : Int32)) c16135 (by decide)
            refine lv_bipush (v := (-11)) hx hb dX12_chains_46 (by decide) ?_
            subst hAe
            exact W.iret (v := (-11)) hx hb hr (fun t ht hW => ⟨⟨_, v, rfl, ⟨hV, (by decide : Rg (-2147483648) 2147483647 ((-11) : Int32)), trivial⟩, by rw [ht]; exact hP, hD⟩, hS.F ht⟩) hS.2.2 dX12_chains_48
      · have g16142 : Rg 0 0 r16126 := wk_eql hr16126.1 (by decide : Rg 0 0 (0 : Int32)) c16127 (by decide)
        refine lv_bipush (v := (-2)) hx hb dX12_chains_23 (by decide) ?_
        subst hAe
        exact W.iret (v := (-2)) hx hb hr (fun t ht hW => ⟨⟨_, v, rfl, ⟨hV, (by decide : Rg (-2147483648) 2147483647 ((-2) : Int32)), trivial⟩, by rw [ht]; exact hP, hD⟩, hS.F ht⟩) hS.2.2 dX12_chains_25
theorem dX12_over_0 : decode cX12_over 0 = .ok (.iload_n 0, 1) := by decide +kernel
theorem dX12_over_1 : decode cX12_over 1 = .ok (.ifCond .ne 7, 3) := by decide +kernel
theorem dX12_over_10 : decode cX12_over 10 = .ok (.if_icmp .ge 7, 3) := by decide +kernel
theorem dX12_over_13 : decode cX12_over 13 = .ok (.iconst 0, 1) := by decide +kernel
theorem dX12_over_14 : decode cX12_over 14 = .ok (.goto 13, 3) := by decide +kernel
theorem dX12_over_17 : decode cX12_over 17 = .ok (.iload_n 0, 1) := by decide +kernel
theorem dX12_over_18 : decode cX12_over 18 = .ok (.iconst 3, 1) := by decide +kernel
theorem dX12_over_19 : decode cX12_over 19 = .ok (.if_icmp .ne 7, 3) := by decide +kernel
theorem dX12_over_22 : decode cX12_over 22 = .ok (.iconst 1, 1) := by decide +kernel
theorem dX12_over_23 : decode cX12_over 23 = .ok (.goto 4, 3) := by decide +kernel
theorem dX12_over_26 : decode cX12_over 26 = .ok (.iconst 2, 1) := by decide +kernel
theorem dX12_over_27 : decode cX12_over 27 = .ok (.ireturn, 1) := by decide +kernel
theorem dX12_over_4 : decode cX12_over 4 = .ok (.iconst (-1), 1) := by decide +kernel
theorem dX12_over_5 : decode cX12_over 5 = .ok (.goto 22, 3) := by decide +kernel
theorem dX12_over_8 : decode cX12_over 8 = .ok (.iload_n 0, 1) := by decide +kernel
theorem dX12_over_9 : decode cX12_over 9 = .ok (.iconst 3, 1) := by decide +kernel
set_option maxHeartbeats 4000000 in
set_option maxRecDepth 100000 in
theorem w_X12_over (l : Launch) (D : va_G) (cI cS : ClassId) (x0 : Int32) (px0 : Rg 0 6 x0) : Met l yX12_over wsX12_over ({ frames := 0, cells := 0, slots := 0, locals := 0 }) (PS D cI cS [] [.int x0]) (vp_Si (fun r => Rg (-1) 2 r ∧ (r = 0 → Rg 1 2 x0) ∧ r.toInt < x0.toInt)) 0 0 (fun _ => False) := by
  refine Met.ofW (cc := cX12_over) (maxL := 1) (ret := (some .int)) (by decide) rfl ?_
  intro p e s m args below meth c s₁ B hml hv
  obtain ⟨rfl, hP, hKK⟩ := hv
  have hx := B.exec
  have hb := B.bytes
  have hr := B.returns
  have hts := atoms_spec (ws := wsX12_over) B.pre
  have hown : s.vm.findClass RX12 = some m.cls := findClass_of_methodNamed B.named
  have hlocks := B.notSynchronized
  have hK := hKK.1
  have hl := lv_entry ([.int x0]) (n := 1) (Nat.le_of_ble_eq_true rfl)
  rw [lg_entry_eq]
  generalize (lg_sl ([.int x0]) ++ List.replicate (1 - (lg_sl ([.int x0])).length) Slot.unset).toArray = ls at hl ⊢
  have hl : lv_has ls 1 [(0, .int x0)] := hl
  refine lv_iload_n hx hb dX12_over_0 rfl (lv_at hl 0 rfl) ?_
  refine lv_if_ne (tgt := 8) hx hb dX12_over_1 (by decide) (fun c16152 => ?_) (fun c16152 => ?_)
  · have g16153 : Rg 1 6 x0 := rg_ne_lo (k := 0) px0 (by decide) c16152 (by decide)
    refine lv_iload_n hx hb dX12_over_8 rfl (lv_at hl 0 rfl) ?_
    refine lv_iconst (v := 3) hx hb dX12_over_9 (by decide) ?_
    refine lv_icmp_ge (tgt := 17) hx hb dX12_over_10 (by decide) (fun c16154 => ?_) (fun c16154 => ?_)
    · have g16155 : Rg 3 6 x0 := rg_ler (by decide : Rg 3 3 (3 : Int32)) g16153 c16154 (by decide)
      refine lv_iload_n hx hb dX12_over_17 rfl (lv_at hl 0 rfl) ?_
      refine lv_iconst (v := 3) hx hb dX12_over_18 (by decide) ?_
      refine lv_icmp_ne (tgt := 26) hx hb dX12_over_19 (by decide) (fun c16156 => ?_) (fun c16156 => ?_)
      · have g16157 : Rg 4 6 x0 := rg_ne_lo (k := 3) g16155 (by decide) c16156 (by decide)
        refine lv_iconst (v := 2) hx hb dX12_over_26 (by decide) ?_
        exact W.iret (v := 2) hx hb hr (fun t ht hW => ⟨_, rfl, ⟨(by decide : Rg (-1) 2 (2 : Int32)), fun h9 => absurd h9 (by decide), (Int.lt_of_lt_of_le (by decide : (2 : Int32).toInt < 4) g16157.1)⟩, ht⟩) (fun q hq => absurd hq List.not_mem_nil) dX12_over_27
      · have g16158 : Rg 3 3 x0 := wk_eql g16155 (by decide : Rg 3 3 (3 : Int32)) c16156 (by decide)
        refine lv_iconst (v := 1) hx hb dX12_over_22 (by decide) ?_
        refine lv_goto (tgt := 27) hx hb dX12_over_23 (by decide) ?_
        exact W.iret (v := 1) hx hb hr (fun t ht hW => ⟨_, rfl, ⟨(by decide : Rg (-1) 2 (1 : Int32)), fun h9 => absurd h9 (by decide), (Int.lt_of_lt_of_le (by decide : (1 : Int32).toInt < 3) g16158.1)⟩, ht⟩) (fun q hq => absurd hq List.not_mem_nil) dX12_over_27
    · have g16159 : Rg 1 2 x0 := rg_ltl g16153 (by decide : Rg 3 3 (3 : Int32)) (rg_nle c16154) (by decide)
      refine lv_iconst (v := 0) hx hb dX12_over_13 (by decide) ?_
      refine lv_goto (tgt := 27) hx hb dX12_over_14 (by decide) ?_
      exact W.iret (v := 0) hx hb hr (fun t ht hW => ⟨_, rfl, ⟨(by decide : Rg (-1) 2 (0 : Int32)), fun _ => g16159, (Int.lt_of_lt_of_le (by decide : (0 : Int32).toInt < 1) g16159.1)⟩, ht⟩) (fun q hq => absurd hq List.not_mem_nil) dX12_over_27
  · have g16160 : Rg 0 0 x0 := wk_eql px0 (by decide : Rg 0 0 (0 : Int32)) c16152 (by decide)
    refine lv_iconst (v := (-1)) hx hb dX12_over_4 (by decide) ?_
    refine lv_goto (tgt := 27) hx hb dX12_over_5 (by decide) ?_
    exact W.iret (v := (-1)) hx hb hr (fun t ht hW => ⟨_, rfl, ⟨(by decide : Rg (-1) 2 ((-1) : Int32)), fun h9 => absurd h9 (by decide), (Int.lt_of_lt_of_le (by decide : ((-1) : Int32).toInt < 0) g16160.1)⟩, ht⟩) (fun q hq => absurd hq List.not_mem_nil) dX12_over_27
set_option maxRecDepth 20000 in
theorem ggX12_isOf_X12_over : GoodIn wsX12_isOf wsX12_over := goodIn_r _ [4] (by decide +kernel) (by decide +kernel)
set_option maxRecDepth 20000 in
theorem gX12_isOf_X12_over : GoodIn wsX12_isOf (va_wsS RX12 228 yX12_over wsX12_over) := goodIn_app (goodIn_of _ (by decide +kernel)) ggX12_isOf_X12_over
theorem dX12_isOf_0 : decode cX12_isOf 0 = .ok (.iload_n 0, 1) := by decide +kernel
theorem dX12_isOf_1 : decode cX12_isOf 1 = .ok (.istore_n 2, 1) := by decide +kernel
theorem dX12_isOf_12 : decode cX12_isOf 12 = .ok (.iload_n 2, 1) := by decide +kernel
theorem dX12_isOf_13 : decode cX12_isOf 13 = .ok (.invokestatic 228, 3) := by decide +kernel
theorem dX12_isOf_16 : decode cX12_isOf 16 = .ok (.istore_n 2, 1) := by decide +kernel
theorem dX12_isOf_17 : decode cX12_isOf 17 = .ok (.goto (-15), 3) := by decide +kernel
theorem dX12_isOf_2 : decode cX12_isOf 2 = .ok (.iload_n 2, 1) := by decide +kernel
theorem dX12_isOf_20 : decode cX12_isOf 20 = .ok (.iload_n 2, 1) := by decide +kernel
theorem dX12_isOf_21 : decode cX12_isOf 21 = .ok (.iload_n 1, 1) := by decide +kernel
theorem dX12_isOf_22 : decode cX12_isOf 22 = .ok (.if_icmp .ne 7, 3) := by decide +kernel
theorem dX12_isOf_25 : decode cX12_isOf 25 = .ok (.iconst 1, 1) := by decide +kernel
theorem dX12_isOf_26 : decode cX12_isOf 26 = .ok (.goto 4, 3) := by decide +kernel
theorem dX12_isOf_29 : decode cX12_isOf 29 = .ok (.iconst 0, 1) := by decide +kernel
theorem dX12_isOf_3 : decode cX12_isOf 3 = .ok (.iconst (-1), 1) := by decide +kernel
theorem dX12_isOf_30 : decode cX12_isOf 30 = .ok (.ireturn, 1) := by decide +kernel
theorem dX12_isOf_4 : decode cX12_isOf 4 = .ok (.if_icmp .eq 16, 3) := by decide +kernel
theorem dX12_isOf_7 : decode cX12_isOf 7 = .ok (.iload_n 2, 1) := by decide +kernel
theorem dX12_isOf_8 : decode cX12_isOf 8 = .ok (.iload_n 1, 1) := by decide +kernel
theorem dX12_isOf_9 : decode cX12_isOf 9 = .ok (.if_icmp .eq 11, 3) := by decide +kernel
set_option maxHeartbeats 4000000 in
set_option maxRecDepth 100000 in
theorem w_X12_isOf (l : Launch) (D : va_G) (cI cS : ClassId) (x0 x1 : Int32) (px0 : Rg (-1) 6 x0) : Met l yX12_isOf wsX12_isOf ({ frames := 1, cells := 0, slots := 0, locals := 40 }) (PS D cI cS [] [.int x0, .int x1]) (vp_Si (fun r => Rg 0 1 r ∧ (r ≠ 0 → Rg (-1) 6 x1))) 0 0 (fun _ => False) := by
  refine Met.ofW (cc := cX12_isOf) (maxL := 3) (ret := (some .boolean)) (by decide) rfl ?_
  intro p e s m args below meth c s₁ B hml hv
  obtain ⟨rfl, hP, hKK⟩ := hv
  have hx := B.exec
  have hb := B.bytes
  have hr := B.returns
  have hts := atoms_spec (ws := wsX12_isOf) B.pre
  have hown : s.vm.findClass RX12 = some m.cls := findClass_of_methodNamed B.named
  have hlocks := B.notSynchronized
  have hK := hKK.1
  have hl := lv_entry ([.int x0, .int x1]) (n := 3) (Nat.le_of_ble_eq_true rfl)
  rw [lg_entry_eq]
  generalize (lg_sl ([.int x0, .int x1]) ++ List.replicate (3 - (lg_sl ([.int x0, .int x1])).length) Slot.unset).toArray = ls at hl ⊢
  have hl : lv_has ls 3 [(0, .int x0), (1, .int x1)] := hl
  have lp2 : ∀ (n2 : Nat) (y2_l2 : Int32) (ls : Array Slot), Rg (-1) 6 y2_l2 → lv_has ls 3 [(1, .int x1), (2, .int y2_l2)] → y2_l2.toInt + 1 < (n2 : Int) → W p l e (headSpec wsX12_isOf ({ frames := 1, cells := 0, slots := 0, locals := 40 })).room s m ([.int x0, .int x1]).toArray below meth c s.heap [] 0 0 (MQ below (vp_Si (fun r => Rg 0 1 r ∧ (r ≠ 0 → Rg (-1) 6 x1))) ([.int x0, .int x1]).toArray s 0 0 (fun _ => False)) (F0 m 2 ls []) := by
    intro n2
    induction n2 with
    | zero =>
      intro y2_l2 ls g2_l2 hl hm2
      exact False.elim (by have z9 := g2_l2.1; omega)
    | succ n2 ih2 =>
      intro y2_l2 ls g2_l2 hl hm2
      refine lv_iload_n hx hb dX12_isOf_2 rfl (lv_at hl 1 rfl) ?_
      refine lv_iconst (v := (-1)) hx hb dX12_isOf_3 (by decide) ?_
      refine lv_icmp_eq (tgt := 20) hx hb dX12_isOf_4 (by decide) (fun c16179 => ?_) (fun c16179 => ?_)
      · have g16180 : Rg (-1) (-1) y2_l2 := wk_eql g2_l2 (by decide : Rg (-1) (-1) ((-1) : Int32)) c16179 (by decide)
        refine lv_iload_n hx hb dX12_isOf_20 rfl (lv_at hl 1 rfl) ?_
        refine lv_iload_n hx hb dX12_isOf_21 rfl (lv_at hl 0 rfl) ?_
        refine lv_icmp_ne (tgt := 29) hx hb dX12_isOf_22 (by decide) (fun c16181 => ?_) (fun c16181 => ?_)
        · refine lv_iconst (v := 0) hx hb dX12_isOf_29 (by decide) ?_
          exact W.zret (v := 0) hx hb hr (by decide) (fun t ht hW => ⟨_, rfl, ⟨(by decide : Rg 0 1 (0 : Int32)), fun h9 => absurd rfl h9⟩, ht⟩) (fun q hq => absurd hq List.not_mem_nil) dX12_isOf_30
        · have g16182 : Rg (-1) (-1) x1 := wk_eqr g16180 (rg_any x1) c16181 (by decide)
          refine lv_iconst (v := 1) hx hb dX12_isOf_25 (by decide) ?_
          refine lv_goto (tgt := 30) hx hb dX12_isOf_26 (by decide) ?_
          exact W.zret (v := 1) hx hb hr (by decide) (fun t ht hW => ⟨_, rfl, ⟨(by decide : Rg 0 1 (1 : Int32)), fun _ => (show Rg (-1) 6 x1 from rg_w g16182 (by decide) (by decide))⟩, ht⟩) (fun q hq => absurd hq List.not_mem_nil) dX12_isOf_30
      · have g16183 : Rg 0 6 y2_l2 := rg_ne_lo (k := (-1)) g2_l2 (by decide) c16179 (by decide)
        refine lv_iload_n hx hb dX12_isOf_7 rfl (lv_at hl 1 rfl) ?_
        refine lv_iload_n hx hb dX12_isOf_8 rfl (lv_at hl 0 rfl) ?_
        refine lv_icmp_eq (tgt := 20) hx hb dX12_isOf_9 (by decide) (fun c16184 => ?_) (fun c16184 => ?_)
        · have g16185 : Rg 0 6 x1 := wk_eqr g16183 (rg_any x1) c16184 (by decide)
          refine lv_iload_n hx hb dX12_isOf_20 rfl (lv_at hl 1 rfl) ?_
          refine lv_iload_n hx hb dX12_isOf_21 rfl (lv_at hl 0 rfl) ?_
          refine lv_icmp_ne (tgt := 29) hx hb dX12_isOf_22 (by decide) (fun c16186 => ?_) (fun c16186 => ?_)
          · refine lv_iconst (v := 0) hx hb dX12_isOf_29 (by decide) ?_
            exact W.zret (v := 0) hx hb hr (by decide) (fun t ht hW => ⟨_, rfl, ⟨(by decide : Rg 0 1 (0 : Int32)), fun h9 => absurd rfl h9⟩, ht⟩) (fun q hq => absurd hq List.not_mem_nil) dX12_isOf_30
          · refine lv_iconst (v := 1) hx hb dX12_isOf_25 (by decide) ?_
            refine lv_goto (tgt := 30) hx hb dX12_isOf_26 (by decide) ?_
            exact W.zret (v := 1) hx hb hr (by decide) (fun t ht hW => ⟨_, rfl, ⟨(by decide : Rg 0 1 (1 : Int32)), fun _ => (show Rg (-1) 6 x1 from rg_w g16185 (by decide) (by decide))⟩, ht⟩) (fun q hq => absurd hq List.not_mem_nil) dX12_isOf_30
        · refine lv_iload_n hx hb dX12_isOf_12 rfl (lv_at hl 1 rfl) ?_
          refine lz_ss (As := [.int y2_l2]) (rest := []) ⟨hx, hb, hml, hown, hts⟩ (w_X12_over l D cI cS y2_l2 g16183) hKK (hP.sub (ws' := []) [] rfl) (va_cwS 1 hts gX12_isOf_X12_over rfl rfl rfl (by decide +kernel) ⟨Nat.le_of_ble_eq_true rfl, Nat.le_of_ble_eq_true rfl⟩) rfl hl.1 rfl (Nat.le_of_ble_eq_true rfl) dX12_isOf_13 ⟨Nat.le_of_ble_eq_true rfl, Nat.le_of_ble_eq_true rfl⟩ (fun r16187 hr16187 => ?_)
          refine lv_istore_n (lv' := [(2, .int r16187), (1, .int x1)]) hx hb dX12_isOf_16 rfl hl (by decide) rfl (fun ls hl => ?_)
          refine lv_goto (tgt := 2) hx hb dX12_isOf_17 (by decide) ?_
          exact ih2 r16187 ls (show Rg (-1) 6 r16187 from rg_w hr16187.1 (by decide) (by decide)) (lv_sub (l' := [(1, .int x1), (2, .int r16187)]) hl [1, 0] rfl) (by have z9 := hr16187.2.2; omega)
  refine lv_iload_n hx hb dX12_isOf_0 rfl (lv_at hl 0 rfl) ?_
  refine lv_istore_n (lv' := [(2, .int x0), (0, .int x0), (1, .int x1)]) hx hb dX12_isOf_1 rfl hl (by decide) rfl (fun ls hl => ?_)
  exact lp2 8 x0 ls px0 (lv_sub (l' := [(1, .int x1), (2, .int x0)]) hl [2, 0] rfl) (by have z9 := px0.2; omega)
set_option maxRecDepth 20000 in
theorem ggX12_taken_X12_isOf : GoodIn wsX12_taken wsX12_isOf := goodIn_r _ [13, 14, 15, 6, 16] (by decide +kernel) (by decide +kernel)
set_option maxRecDepth 20000 in
theorem gX12_taken_X12_isOf : GoodIn wsX12_taken (va_wsS RX12 231 yX12_isOf wsX12_isOf) := goodIn_app (goodIn_of _ (by decide +kernel)) ggX12_taken_X12_isOf
theorem dX12_taken_100 : decode cX12_taken 100 = .ok (.iload_n 3, 1) := by decide +kernel
theorem dX12_taken_101 : decode cX12_taken 101 = .ok (.ifCond .eq 12, 3) := by decide +kernel
theorem dX12_taken_104 : decode cX12_taken 104 = .ok (.aload_n 0, 1) := by decide +kernel
theorem dX12_taken_105 : decode cX12_taken 105 = .ok (.getfield 50, 3) := by decide +kernel
theorem dX12_taken_108 : decode cX12_taken 108 = .ok (.iload_n 1, 1) := by decide +kernel
theorem dX12_taken_109 : decode cX12_taken 109 = .ok (.iaload, 1) := by decide +kernel
theorem dX12_taken_110 : decode cX12_taken 110 = .ok (.goto 5, 3) := by decide +kernel
theorem dX12_taken_113 : decode cX12_taken 113 = .ok (.bipush (-13), 2) := by decide +kernel
theorem dX12_taken_115 : decode cX12_taken 115 = .ok (.ireturn, 1) := by decide +kernel
theorem dX12_taken_43 : decode cX12_taken 43 = .ok (.aload_n 0, 1) := by decide +kernel
theorem dX12_taken_44 : decode cX12_taken 44 = .ok (.getfield 47, 3) := by decide +kernel
theorem dX12_taken_47 : decode cX12_taken 47 = .ok (.iload_n 1, 1) := by decide +kernel
theorem dX12_taken_48 : decode cX12_taken 48 = .ok (.iaload, 1) := by decide +kernel
theorem dX12_taken_49 : decode cX12_taken 49 = .ok (.bipush 6, 2) := by decide +kernel
theorem dX12_taken_51 : decode cX12_taken 51 = .ok (.if_icmp .ne 24, 3) := by decide +kernel
theorem dX12_taken_54 : decode cX12_taken 54 = .ok (.iload_n 2, 1) := by decide +kernel
theorem dX12_taken_55 : decode cX12_taken 55 = .ok (.bipush 10, 2) := by decide +kernel
theorem dX12_taken_57 : decode cX12_taken 57 = .ok (.isub, 1) := by decide +kernel
theorem dX12_taken_58 : decode cX12_taken 58 = .ok (.aload_n 0, 1) := by decide +kernel
theorem dX12_taken_59 : decode cX12_taken 59 = .ok (.getfield 53, 3) := by decide +kernel
theorem dX12_taken_62 : decode cX12_taken 62 = .ok (.iload_n 1, 1) := by decide +kernel
theorem dX12_taken_63 : decode cX12_taken 63 = .ok (.iaload, 1) := by decide +kernel
theorem dX12_taken_64 : decode cX12_taken 64 = .ok (.if_icmp .ne 7, 3) := by decide +kernel
theorem dX12_taken_67 : decode cX12_taken 67 = .ok (.iconst 1, 1) := by decide +kernel
theorem dX12_taken_68 : decode cX12_taken 68 = .ok (.goto 31, 3) := by decide +kernel
theorem dX12_taken_71 : decode cX12_taken 71 = .ok (.iconst 0, 1) := by decide +kernel
theorem dX12_taken_72 : decode cX12_taken 72 = .ok (.goto 27, 3) := by decide +kernel
theorem dX12_taken_75 : decode cX12_taken 75 = .ok (.iload_n 2, 1) := by decide +kernel
theorem dX12_taken_76 : decode cX12_taken 76 = .ok (.bipush 10, 2) := by decide +kernel
theorem dX12_taken_78 : decode cX12_taken 78 = .ok (.if_icmp .ge 20, 3) := by decide +kernel
theorem dX12_taken_81 : decode cX12_taken 81 = .ok (.aload_n 0, 1) := by decide +kernel
theorem dX12_taken_82 : decode cX12_taken 82 = .ok (.getfield 47, 3) := by decide +kernel
theorem dX12_taken_85 : decode cX12_taken 85 = .ok (.iload_n 1, 1) := by decide +kernel
theorem dX12_taken_86 : decode cX12_taken 86 = .ok (.iaload, 1) := by decide +kernel
theorem dX12_taken_87 : decode cX12_taken 87 = .ok (.iload_n 2, 1) := by decide +kernel
theorem dX12_taken_88 : decode cX12_taken 88 = .ok (.invokestatic 231, 3) := by decide +kernel
theorem dX12_taken_91 : decode cX12_taken 91 = .ok (.ifCond .eq 7, 3) := by decide +kernel
theorem dX12_taken_94 : decode cX12_taken 94 = .ok (.iconst 1, 1) := by decide +kernel
theorem dX12_taken_95 : decode cX12_taken 95 = .ok (.goto 4, 3) := by decide +kernel
theorem dX12_taken_98 : decode cX12_taken 98 = .ok (.iconst 0, 1) := by decide +kernel
theorem dX12_taken_99 : decode cX12_taken 99 = .ok (.istore_n 3, 1) := by decide +kernel
set_option maxHeartbeats 4000000 in
set_option maxRecDepth 100000 in
theorem w_X12_taken (l : Launch) (D : va_G) (cI cS : ClassId) (b : Nat → Nat) (L v : SU) (hL : TyL L) (hV : TyV v) (x0 x1 : Int32) : Met l yX12_taken wsX12_taken ({ frames := 2, cells := 0, slots := 0, locals := 80 }) (PS D cI cS (wM cI b L v) [.ref (b 0), .int x0, .int x1]) (vp_Si (fun r => Rg (-2147483648) 2147483647 r ∧ True)) 0 0 (fun _ => False) := by
  refine Met.ofW (cc := cX12_taken) (maxL := 4) (ret := (some .int)) (by decide) rfl ?_
  intro p e s m args below meth c s₁ B hml hv
  obtain ⟨rfl, hP, hKK⟩ := hv
  have hx := B.exec
  have hb := B.bytes
  have hr := B.returns
  have hts := atoms_spec (ws := wsX12_taken) B.pre
  have hown : s.vm.findClass RX12 = some m.cls := findClass_of_methodNamed B.named
  have hlocks := B.notSynchronized
  have hK := hKK.1
  have hin12 : ∀ w ∈ wsX120, w ∈ wsX12_taken := by decide +kernel
  have hl := lv_entry ([.ref (b 0), .int x0, .int x1]) (n := 4) (Nat.le_of_ble_eq_true rfl)
  rw [lg_entry_eq]
  generalize (lg_sl ([.ref (b 0), .int x0, .int x1]) ++ List.replicate (4 - (lg_sl ([.ref (b 0), .int x0, .int x1])).length) Slot.unset).toArray = ls at hl ⊢
  have hl : lv_has ls 4 [(0, .ref (b 0)), (1, .int x0), (2, .int x1)] := hl
  have ct30 : ∀ (ls : Array Slot), Rg 0 3 x0 → Rg 0 11 x1 → lv_has ls 4 [(0, .ref (b 0)), (1, .int x0), (2, .int x1)] → W p l e (headSpec wsX12_taken ({ frames := 2, cells := 0, slots := 0, locals := 80 })).room s m ([.ref (b 0), .int x0, .int x1]).toArray below meth c s.heap [] 0 0 (MQ below (vp_Si (fun r => Rg (-2147483648) 2147483647 r ∧ True)) ([.ref (b 0), .int x0, .int x1]).toArray s 0 0 (fun _ => False)) (F0 m 30 ls []) := by
    intro ls g30_l1 g30_l2 hl
    refine lv_aload_n hx hb dX12_taken_30 rfl (lv_at hl 0 rfl) ?_
    refine va_get (D := D) (ci := 12) (v := .ref (b 12)) (C := RX12) (T := TX12) (N := 24) hx hb hts hin12 hown hK hP 0 rfl rfl 19 (by decide) (hts (.fieldLink RX12 47 "MissedPointsModel" "heldKind" "[I") (by decide +kernel)) (fun _ h9 => h9) rfl dX12_taken_31 ?_
    refine lv_iload_n hx hb dX12_taken_34 rfl (lv_at hl 1 rfl) ?_
    refine wk_ald hx hb hK hP 12 0 rfl rfl (rg_in g30_l1 (by decide) (by decide)) dX12_taken_35 hV.2.2.2.2.2 (fun r16274 hr16274 => ?_)
    refine lv_iconst (v := (-1)) hx hb dX12_taken_36 (by decide) ?_
    refine lv_icmp_ne (tgt := 43) hx hb dX12_taken_37 (by decide) (fun c16275 => ?_) (fun c16275 => ?_)
    · have g16276 : Rg 0 6 r16274 := rg_ne_lo (k := (-1)) hr16274 (by decide) c16275 (by decide)
      refine lv_aload_n hx hb dX12_taken_43 rfl (lv_at hl 0 rfl) ?_
      refine va_get (D := D) (ci := 12) (v := .ref (b 12)) (C := RX12) (T := TX12) (N := 24) hx hb hts hin12 hown hK hP 0 rfl rfl 19 (by decide) (hts (.fieldLink RX12 47 "MissedPointsModel" "heldKind" "[I") (by decide +kernel)) (fun _ h9 => h9) rfl dX12_taken_44 ?_
      refine lv_iload_n hx hb dX12_taken_47 rfl (lv_at hl 1 rfl) ?_
      refine wk_ald hx hb hK hP 12 0 rfl rfl (rg_in g30_l1 (by decide) (by decide)) dX12_taken_48 hV.2.2.2.2.2 (fun r16277 hr16277 => ?_)
      refine lv_bipush (v := 6) hx hb dX12_taken_49 (by decide) ?_
      refine lv_icmp_ne (tgt := 75) hx hb dX12_taken_51 (by decide) (fun c16278 => ?_) (fun c16278 => ?_)
      · have g16279 : Rg (-1) 5 r16277 := rg_ne_hi (k := 6) hr16277 (by decide) c16278 (by decide)
        refine lv_iload_n hx hb dX12_taken_75 rfl (lv_at hl 2 rfl) ?_
        refine lv_bipush (v := 10) hx hb dX12_taken_76 (by decide) ?_
        refine lv_icmp_ge (tgt := 98) hx hb dX12_taken_78 (by decide) (fun c16280 => ?_) (fun c16280 => ?_)
        · have g16281 : Rg 10 11 x1 := rg_ler (by decide : Rg 10 10 (10 : Int32)) g30_l2 c16280 (by decide)
          refine lv_iconst (v := 0) hx hb dX12_taken_98 (by decide) ?_
          refine lv_istore_n (lv' := [(3, .int 0), (0, .ref (b 0)), (1, .int x0), (2, .int x1)]) hx hb dX12_taken_99 rfl hl (by decide) rfl (fun ls hl => ?_)
          refine lv_iload_n hx hb dX12_taken_100 rfl (lv_at hl 0 rfl) ?_
          refine lv_if_eq (tgt := 113) hx hb dX12_taken_101 (by decide) (fun c16282 => ?_) (fun c16282 => ?_)
          · refine lv_bipush (v := (-13)) hx hb dX12_taken_113 (by decide) ?_
            exact W.iret (v := (-13)) hx hb hr (fun t ht hW => ⟨_, rfl, ⟨(by decide : Rg (-2147483648) 2147483647 ((-13) : Int32)), trivial⟩, ht⟩) (fun q hq => absurd hq List.not_mem_nil) dX12_taken_115
          · exact absurd c16282 (by decide)
        · have g16283 : Rg 0 9 x1 := rg_ltl g30_l2 (by decide : Rg 10 10 (10 : Int32)) (rg_nle c16280) (by decide)
          refine lv_aload_n hx hb dX12_taken_81 rfl (lv_at hl 0 rfl) ?_
          refine va_get (D := D) (ci := 12) (v := .ref (b 12)) (C := RX12) (T := TX12) (N := 24) hx hb hts hin12 hown hK hP 0 rfl rfl 19 (by decide) (hts (.fieldLink RX12 47 "MissedPointsModel" "heldKind" "[I") (by decide +kernel)) (fun _ h9 => h9) rfl dX12_taken_82 ?_
          refine lv_iload_n hx hb dX12_taken_85 rfl (lv_at hl 1 rfl) ?_
          refine wk_ald hx hb hK hP 12 0 rfl rfl (rg_in g30_l1 (by decide) (by decide)) dX12_taken_86 hV.2.2.2.2.2 (fun r16284 hr16284 => ?_)
          refine lv_iload_n hx hb dX12_taken_87 rfl (lv_at hl 2 rfl) ?_
          refine lz_ss (As := [.int r16284, .int x1]) (rest := []) ⟨hx, hb, hml, hown, hts⟩ (w_X12_isOf l D cI cS r16284 x1 hr16284) hKK (hP.sub (ws' := []) [] rfl) (va_cwS 2 hts gX12_taken_X12_isOf rfl rfl rfl (by decide +kernel) ⟨Nat.le_of_ble_eq_true rfl, Nat.le_of_ble_eq_true rfl⟩) rfl hl.1 rfl (Nat.le_of_ble_eq_true rfl) dX12_taken_88 ⟨Nat.le_of_ble_eq_true rfl, Nat.le_of_ble_eq_true rfl⟩ (fun r16285 hr16285 => ?_)
          refine lv_if_eq (tgt := 98) hx hb dX12_taken_91 (by decide) (fun c16286 => ?_) (fun c16286 => ?_)
          · have g16287 : Rg 0 0 r16285 := wk_eql hr16285.1 (by decide : Rg 0 0 (0 : Int32)) c16286 (by decide)
            refine lv_iconst (v := 0) hx hb dX12_taken_98 (by decide) ?_
            refine lv_istore_n (lv' := [(3, .int 0), (0, .ref (b 0)), (1, .int x0), (2, .int x1)]) hx hb dX12_taken_99 rfl hl (by decide) rfl (fun ls hl => ?_)
            refine lv_iload_n hx hb dX12_taken_100 rfl (lv_at hl 0 rfl) ?_
            refine lv_if_eq (tgt := 113) hx hb dX12_taken_101 (by decide) (fun c16288 => ?_) (fun c16288 => ?_)
            · refine lv_bipush (v := (-13)) hx hb dX12_taken_113 (by decide) ?_
              exact W.iret (v := (-13)) hx hb hr (fun t ht hW => ⟨_, rfl, ⟨(by decide : Rg (-2147483648) 2147483647 ((-13) : Int32)), trivial⟩, ht⟩) (fun q hq => absurd hq List.not_mem_nil) dX12_taken_115
            · exact absurd c16288 (by decide)
          · have g16289 : Rg (-1) 6 x1 := (hr16285.2 c16286)
            have g16290 : Rg 1 1 r16285 := rg_ne_lo (k := 0) hr16285.1 (by decide) c16286 (by decide)
            refine lv_iconst (v := 1) hx hb dX12_taken_94 (by decide) ?_
            refine lv_goto (tgt := 99) hx hb dX12_taken_95 (by decide) ?_
            refine lv_istore_n (lv' := [(3, .int 1), (0, .ref (b 0)), (1, .int x0), (2, .int x1)]) hx hb dX12_taken_99 rfl hl (by decide) rfl (fun ls hl => ?_)
            refine lv_iload_n hx hb dX12_taken_100 rfl (lv_at hl 0 rfl) ?_
            refine lv_if_eq (tgt := 113) hx hb dX12_taken_101 (by decide) (fun c16291 => ?_) (fun c16291 => ?_)
            · exact absurd c16291 (by decide)
            · refine lv_aload_n hx hb dX12_taken_104 rfl (lv_at hl 1 rfl) ?_
              refine va_get (D := D) (ci := 12) (v := .ref (b 13)) (C := RX12) (T := TX12) (N := 24) hx hb hts hin12 hown hK hP 0 rfl rfl 20 (by decide) (hts (.fieldLink RX12 50 "MissedPointsModel" "heldSet" "[I") (by decide +kernel)) (fun _ h9 => h9) rfl dX12_taken_105 ?_
              refine lv_iload_n hx hb dX12_taken_108 rfl (lv_at hl 2 rfl) ?_
              refine wk_aldA hx hb hK hP 13 0 rfl rfl (rg_in g30_l1 (by decide) (by decide)) dX12_taken_109 (fun r16292 => ?_)
              refine lv_goto (tgt := 115) hx hb dX12_taken_110 (by decide) ?_
              exact W.iret (v := r16292) hx hb hr (fun t ht hW => ⟨_, rfl, ⟨(rg_any r16292), trivial⟩, ht⟩) (fun q hq => absurd hq List.not_mem_nil) dX12_taken_115
      · have g16293 : Rg 6 6 r16277 := wk_eql hr16277 (by decide : Rg 6 6 (6 : Int32)) c16278 (by decide)
        refine lv_iload_n hx hb dX12_taken_54 rfl (lv_at hl 2 rfl) ?_
        refine lv_bipush (v := 10) hx hb dX12_taken_55 (by decide) ?_
        refine wk_isub (e1 := (-10)) (f := 1) hx hb dX12_taken_57 g30_l2 (by decide : Rg 10 10 (10 : Int32)) (by decide) (fun r16294 hr16294 er16294 qr16294 => ?_)
        refine lv_aload_n hx hb dX12_taken_58 rfl (lv_at hl 0 rfl) ?_
        refine va_get (D := D) (ci := 12) (v := .ref (b 14)) (C := RX12) (T := TX12) (N := 24) hx hb hts hin12 hown hK hP 0 rfl rfl 21 (by decide) (hts (.fieldLink RX12 53 "MissedPointsModel" "heldSort" "[I") (by decide +kernel)) (fun _ h9 => h9) rfl dX12_taken_59 ?_
        refine lv_iload_n hx hb dX12_taken_62 rfl (lv_at hl 1 rfl) ?_
        refine wk_aldA hx hb hK hP 14 0 rfl rfl (rg_in g30_l1 (by decide) (by decide)) dX12_taken_63 (fun r16295 => ?_)
        refine lv_icmp_ne (tgt := 71) hx hb dX12_taken_64 (by decide) (fun c16296 => ?_) (fun c16296 => ?_)
        · refine lv_iconst (v := 0) hx hb dX12_taken_71 (by decide) ?_
          refine lv_goto (tgt := 99) hx hb dX12_taken_72 (by decide) ?_
          refine lv_istore_n (lv' := [(3, .int 0), (0, .ref (b 0)), (1, .int x0), (2, .int x1)]) hx hb dX12_taken_99 rfl hl (by decide) rfl (fun ls hl => ?_)
          refine lv_iload_n hx hb dX12_taken_100 rfl (lv_at hl 0 rfl) ?_
          refine lv_if_eq (tgt := 113) hx hb dX12_taken_101 (by decide) (fun c16297 => ?_) (fun c16297 => ?_)
          · refine lv_bipush (v := (-13)) hx hb dX12_taken_113 (by decide) ?_
            exact W.iret (v := (-13)) hx hb hr (fun t ht hW => ⟨_, rfl, ⟨(by decide : Rg (-2147483648) 2147483647 ((-13) : Int32)), trivial⟩, ht⟩) (fun q hq => absurd hq List.not_mem_nil) dX12_taken_115
          · exact absurd c16297 (by decide)
        · have g16298 : Rg (-10) 1 r16295 := wk_eqr hr16294 (rg_any r16295) c16296 (by decide)
          refine lv_iconst (v := 1) hx hb dX12_taken_67 (by decide) ?_
          refine lv_goto (tgt := 99) hx hb dX12_taken_68 (by decide) ?_
          refine lv_istore_n (lv' := [(3, .int 1), (0, .ref (b 0)), (1, .int x0), (2, .int x1)]) hx hb dX12_taken_99 rfl hl (by decide) rfl (fun ls hl => ?_)
          refine lv_iload_n hx hb dX12_taken_100 rfl (lv_at hl 0 rfl) ?_
          refine lv_if_eq (tgt := 113) hx hb dX12_taken_101 (by decide) (fun c16299 => ?_) (fun c16299 => ?_)
          · exact absurd c16299 (by decide)
          · refine lv_aload_n hx hb dX12_taken_104 rfl (lv_at hl 1 rfl) ?_
            refine va_get (D := D) (ci := 12) (v := .ref (b 13)) (C := RX12) (T := TX12) (N := 24) hx hb hts hin12 hown hK hP 0 rfl rfl 20 (by decide) (hts (.fieldLink RX12 50 "MissedPointsModel" "heldSet" "[I") (by decide +kernel)) (fun _ h9 => h9) rfl dX12_taken_105 ?_
            refine lv_iload_n hx hb dX12_taken_108 rfl (lv_at hl 2 rfl) ?_
            refine wk_aldA hx hb hK hP 13 0 rfl rfl (rg_in g30_l1 (by decide) (by decide)) dX12_taken_109 (fun r16300 => ?_)
            refine lv_goto (tgt := 115) hx hb dX12_taken_110 (by decide) ?_
            exact W.iret (v := r16300) hx hb hr (fun t ht hW => ⟨_, rfl, ⟨(rg_any r16300), trivial⟩, ht⟩) (fun q hq => absurd hq List.not_mem_nil) dX12_taken_115
    · have g16301 : Rg (-1) (-1) r16274 := wk_eql hr16274 (by decide : Rg (-1) (-1) ((-1) : Int32)) c16275 (by decide)
      refine lv_bipush (v := (-11)) hx hb dX12_taken_40 (by decide) ?_
      exact W.iret (v := (-11)) hx hb hr (fun t ht hW => ⟨_, rfl, ⟨(by decide : Rg (-2147483648) 2147483647 ((-11) : Int32)), trivial⟩, ht⟩) (fun q hq => absurd hq List.not_mem_nil) dX12_taken_42
  refine lv_iload_n hx hb dX12_taken_0 rfl (lv_at hl 1 rfl) ?_
  refine lz_ss (As := [.int x0]) (rest := []) ⟨hx, hb, hml, hown, hts⟩ (w_X12_isShelf l D cI cS x0) hKK (hP.sub (ws' := []) [] rfl) (va_cwS 1 hts gX12_taken_X12_isShelf rfl rfl rfl (by decide +kernel) ⟨Nat.le_of_ble_eq_true rfl, Nat.le_of_ble_eq_true rfl⟩) rfl hl.1 rfl (Nat.le_of_ble_eq_true rfl) dX12_taken_1 ⟨Nat.le_of_ble_eq_true rfl, Nat.le_of_ble_eq_true rfl⟩ (fun r16302 hr16302 => ?_)
  refine lv_if_eq (tgt := 27) hx hb dX12_taken_4 (by decide) (fun c16303 => ?_) (fun c16303 => ?_)
  · have g16304 : Rg 0 0 r16302 := wk_eql hr16302.1 (by decide : Rg 0 0 (0 : Int32)) c16303 (by decide)
    refine lv_bipush (v := (-2)) hx hb dX12_taken_27 (by decide) ?_
    exact W.iret (v := (-2)) hx hb hr (fun t ht hW => ⟨_, rfl, ⟨(by decide : Rg (-2147483648) 2147483647 ((-2) : Int32)), trivial⟩, ht⟩) (fun q hq => absurd hq List.not_mem_nil) dX12_taken_29
  · have g16305 : Rg 0 3 x0 := (hr16302.2 c16303)
    have g16306 : Rg 1 1 r16302 := rg_ne_lo (k := 0) hr16302.1 (by decide) c16303 (by decide)
    refine lv_iload_n hx hb dX12_taken_7 rfl (lv_at hl 2 rfl) ?_
    refine lv_iconst (v := 0) hx hb dX12_taken_8 (by decide) ?_
    refine lv_iconst (v := 5) hx hb dX12_taken_9 (by decide) ?_
    refine lz_ss (As := [.int x1, .int 0, .int 5]) (rest := []) ⟨hx, hb, hml, hown, hts⟩ (w_X12_in l D cI cS x1 (0 : Int32) (5 : Int32)) hKK (hP.sub (ws' := []) [] rfl) (va_cwS 3 hts gX12_taken_X12_in rfl rfl rfl (by decide +kernel) ⟨Nat.le_of_ble_eq_true rfl, Nat.le_of_ble_eq_true rfl⟩) rfl hl.1 rfl (Nat.le_of_ble_eq_true rfl) dX12_taken_10 ⟨Nat.le_of_ble_eq_true rfl, Nat.le_of_ble_eq_true rfl⟩ (fun r16307 hr16307 => ?_)
    refine lv_if_ne (tgt := 30) hx hb dX12_taken_13 (by decide) (fun c16308 => ?_) (fun c16308 => ?_)
    · have g16309 : Rg 0 5 x1 := wk_in3 (rg_any x1) (by decide : Rg 0 0 (0 : Int32)) (by decide : Rg 5 5 (5 : Int32)) (hr16307.2 c16308) (by decide)
      have g16310 : Rg 1 1 r16307 := rg_ne_lo (k := 0) hr16307.1 (by decide) c16308 (by decide)
      exact ct30 ls g16305 (show Rg 0 11 x1 from rg_w g16309 (by decide) (by decide)) (lv_sub (l' := [(0, .ref (b 0)), (1, .int x0), (2, .int x1)]) hl [0, 1, 2] rfl)
    · have g16311 : Rg 0 0 r16307 := wk_eql hr16307.1 (by decide : Rg 0 0 (0 : Int32)) c16308 (by decide)
      refine lv_iload_n hx hb dX12_taken_16 rfl (lv_at hl 2 rfl) ?_
      refine lv_bipush (v := 10) hx hb dX12_taken_17 (by decide) ?_
      refine lv_bipush (v := 11) hx hb dX12_taken_19 (by decide) ?_
      refine lz_ss (As := [.int x1, .int 10, .int 11]) (rest := []) ⟨hx, hb, hml, hown, hts⟩ (w_X12_in l D cI cS x1 (10 : Int32) (11 : Int32)) hKK (hP.sub (ws' := []) [] rfl) (va_cwS 3 hts gX12_taken_X12_in rfl rfl rfl (by decide +kernel) ⟨Nat.le_of_ble_eq_true rfl, Nat.le_of_ble_eq_true rfl⟩) rfl hl.1 rfl (Nat.le_of_ble_eq_true rfl) dX12_taken_21 ⟨Nat.le_of_ble_eq_true rfl, Nat.le_of_ble_eq_true rfl⟩ (fun r16312 hr16312 => ?_)
      refine lv_if_ne (tgt := 30) hx hb dX12_taken_24 (by decide) (fun c16313 => ?_) (fun c16313 => ?_)
      · have g16314 : Rg 10 11 x1 := wk_in3 (rg_any x1) (by decide : Rg 10 10 (10 : Int32)) (by decide : Rg 11 11 (11 : Int32)) (hr16312.2 c16313) (by decide)
        have g16315 : Rg 1 1 r16312 := rg_ne_lo (k := 0) hr16312.1 (by decide) c16313 (by decide)
        exact ct30 ls g16305 (show Rg 0 11 x1 from rg_w g16314 (by decide) (by decide)) (lv_sub (l' := [(0, .ref (b 0)), (1, .int x0), (2, .int x1)]) hl [0, 1, 2] rfl)
      · have g16316 : Rg 0 0 r16312 := wk_eql hr16312.1 (by decide : Rg 0 0 (0 : Int32)) c16313 (by decide)
        refine lv_bipush (v := (-2)) hx hb dX12_taken_27 (by decide) ?_
        exact W.iret (v := (-2)) hx hb hr (fun t ht hW => ⟨_, rfl, ⟨(by decide : Rg (-2147483648) 2147483647 ((-2) : Int32)), trivial⟩, ht⟩) (fun q hq => absurd hq List.not_mem_nil) dX12_taken_29
set_option maxRecDepth 20000 in
theorem ggX12_held_X12_bits : GoodIn wsX12_held wsX12_bits := goodIn_r _ [15] (by decide +kernel) (by decide +kernel)
set_option maxRecDepth 20000 in
theorem gX12_held_X12_bits : GoodIn wsX12_held (va_wsS RX12 85 yX12_bits wsX12_bits) := goodIn_app (goodIn_of _ (by decide +kernel)) ggX12_held_X12_bits
set_option maxRecDepth 20000 in
theorem ggX12_held_X12_isOf : GoodIn wsX12_held wsX12_isOf := goodIn_r _ [9, 10, 11, 5, 12] (by decide +kernel) (by decide +kernel)
set_option maxRecDepth 20000 in
theorem gX12_held_X12_isOf : GoodIn wsX12_held (va_wsS RX12 231 yX12_isOf wsX12_isOf) := goodIn_app (goodIn_of _ (by decide +kernel)) ggX12_held_X12_isOf
theorem dX12_held_101 : decode cX12_held 101 = .ok (.aload_n 0, 1) := by decide +kernel
theorem dX12_held_102 : decode cX12_held 102 = .ok (.getfield 50, 3) := by decide +kernel
theorem dX12_held_105 : decode cX12_held 105 = .ok (.iload 5, 2) := by decide +kernel
theorem dX12_held_107 : decode cX12_held 107 = .ok (.iaload, 1) := by decide +kernel
theorem dX12_held_108 : decode cX12_held 108 = .ok (.invokestatic 85, 3) := by decide +kernel
theorem dX12_held_111 : decode cX12_held 111 = .ok (.if_icmp .le 8, 3) := by decide +kernel
theorem dX12_held_114 : decode cX12_held 114 = .ok (.iload 6, 2) := by decide +kernel
theorem dX12_held_116 : decode cX12_held 116 = .ok (.goto 5, 3) := by decide +kernel
theorem dX12_held_119 : decode cX12_held 119 = .ok (.iload 5, 2) := by decide +kernel
theorem dX12_held_121 : decode cX12_held 121 = .ok (.istore 5, 2) := by decide +kernel
theorem dX12_held_53 : decode cX12_held 53 = .ok (.aload_n 0, 1) := by decide +kernel
theorem dX12_held_54 : decode cX12_held 54 = .ok (.getfield 47, 3) := by decide +kernel
theorem dX12_held_57 : decode cX12_held 57 = .ok (.iload 6, 2) := by decide +kernel
theorem dX12_held_59 : decode cX12_held 59 = .ok (.iaload, 1) := by decide +kernel
theorem dX12_held_60 : decode cX12_held 60 = .ok (.iload_n 1, 1) := by decide +kernel
theorem dX12_held_61 : decode cX12_held 61 = .ok (.invokestatic 231, 3) := by decide +kernel
theorem dX12_held_64 : decode cX12_held 64 = .ok (.ifCond .ne 6, 3) := by decide +kernel
theorem dX12_held_67 : decode cX12_held 67 = .ok (.goto 56, 3) := by decide +kernel
theorem dX12_held_70 : decode cX12_held 70 = .ok (.iinc 3 1, 3) := by decide +kernel
theorem dX12_held_73 : decode cX12_held 73 = .ok (.iload 4, 2) := by decide +kernel
theorem dX12_held_75 : decode cX12_held 75 = .ok (.aload_n 0, 1) := by decide +kernel
theorem dX12_held_76 : decode cX12_held 76 = .ok (.getfield 50, 3) := by decide +kernel
theorem dX12_held_79 : decode cX12_held 79 = .ok (.iload 6, 2) := by decide +kernel
theorem dX12_held_81 : decode cX12_held 81 = .ok (.iaload, 1) := by decide +kernel
theorem dX12_held_82 : decode cX12_held 82 = .ok (.ior, 1) := by decide +kernel
theorem dX12_held_83 : decode cX12_held 83 = .ok (.istore 4, 2) := by decide +kernel
theorem dX12_held_85 : decode cX12_held 85 = .ok (.iload 5, 2) := by decide +kernel
theorem dX12_held_87 : decode cX12_held 87 = .ok (.iconst (-1), 1) := by decide +kernel
theorem dX12_held_88 : decode cX12_held 88 = .ok (.if_icmp .eq 26, 3) := by decide +kernel
theorem dX12_held_91 : decode cX12_held 91 = .ok (.aload_n 0, 1) := by decide +kernel
theorem dX12_held_92 : decode cX12_held 92 = .ok (.getfield 50, 3) := by decide +kernel
theorem dX12_held_95 : decode cX12_held 95 = .ok (.iload 6, 2) := by decide +kernel
theorem dX12_held_97 : decode cX12_held 97 = .ok (.iaload, 1) := by decide +kernel
theorem dX12_held_98 : decode cX12_held 98 = .ok (.invokestatic 85, 3) := by decide +kernel
set_option maxHeartbeats 4000000 in
set_option maxRecDepth 100000 in
theorem w_X12_held (l : Launch) (D : va_G) (cI cS : ClassId) (b : Nat → Nat) (L v : SU) (hL : TyL L) (hV : TyV v) (x0 x1 : Int32) : Met l yX12_held wsX12_held ({ frames := 2, cells := 0, slots := 0, locals := 80 }) (PS D cI cS (wM cI b L v) [.ref (b 0), .int x0, .int x1]) (vp_Si (fun r => Rg (-2147483648) 2147483647 r ∧ True)) 0 0 (fun _ => False) := by
  refine Met.ofW (cc := cX12_held) (maxL := 7) (ret := (some .int)) (by decide) rfl ?_
  intro p e s m args below meth c s₁ B hml hv
  obtain ⟨rfl, hP, hKK⟩ := hv
  have hx := B.exec
  have hb := B.bytes
  have hr := B.returns
  have hts := atoms_spec (ws := wsX12_held) B.pre
  have hown : s.vm.findClass RX12 = some m.cls := findClass_of_methodNamed B.named
  have hlocks := B.notSynchronized
  have hK := hKK.1
  have hin12 : ∀ w ∈ wsX120, w ∈ wsX12_held := by decide +kernel
  have hl := lv_entry ([.ref (b 0), .int x0, .int x1]) (n := 7) (Nat.le_of_ble_eq_true rfl)
  rw [lg_entry_eq]
  generalize (lg_sl ([.ref (b 0), .int x0, .int x1]) ++ List.replicate (7 - (lg_sl ([.ref (b 0), .int x0, .int x1])).length) Slot.unset).toArray = ls at hl ⊢
  have hl : lv_has ls 7 [(0, .ref (b 0)), (1, .int x0), (2, .int x1)] := hl
  have lp32 : ∀ (n32 : Nat) (y32_l3 y32_l4 y32_l5 y32_l6 : Int32) (ls : Array Slot), Rg 0 5 x0 → Rg 0 2 x1 → Rg (-1) 3 y32_l5 → Rg 0 4 y32_l6 → lv_has ls 7 [(0, .ref (b 0)), (1, .int x0), (2, .int x1), (3, .int y32_l3), (4, .int y32_l4), (5, .int y32_l5), (6, .int y32_l6)] → 4 - y32_l6.toInt < (n32 : Int) → W p l e (headSpec wsX12_held ({ frames := 2, cells := 0, slots := 0, locals := 80 })).room s m ([.ref (b 0), .int x0, .int x1]).toArray below meth c s.heap [] 0 0 (MQ below (vp_Si (fun r => Rg (-2147483648) 2147483647 r ∧ True)) ([.ref (b 0), .int x0, .int x1]).toArray s 0 0 (fun _ => False)) (F0 m 32 ls []) := by
    intro n32
    induction n32 with
    | zero =>
      intro y32_l3 y32_l4 y32_l5 y32_l6 ls g32_l1 g32_l2 g32_l5 g32_l6 hl hm32
      exact absurd rfl (me_z g32_l6 hm32)
    | succ n32 ih32 =>
      intro y32_l3 y32_l4 y32_l5 y32_l6 ls g32_l1 g32_l2 g32_l5 g32_l6 hl hm32
      refine lv_iload hx hb dX12_held_32 (lv_at hl 6 rfl) ?_
      refine lv_iconst (v := 4) hx hb dX12_held_34 (by decide) ?_
      refine lv_icmp_ge (tgt := 129) hx hb dX12_held_35 (by decide) (fun c17581 => ?_) (fun c17581 => ?_)
      · have g17582 : Rg 4 4 y32_l6 := rg_ler (by decide : Rg 4 4 (4 : Int32)) g32_l6 c17581 (by decide)
        refine lv_iload_n hx hb dX12_held_129 rfl (lv_at hl 2 rfl) ?_
        refine lv_if_ne (tgt := 137) hx hb dX12_held_130 (by decide) (fun c17583 => ?_) (fun c17583 => ?_)
        · have g17584 : Rg 1 2 x1 := rg_ne_lo (k := 0) g32_l2 (by decide) c17583 (by decide)
          refine lv_iload_n hx hb dX12_held_137 rfl (lv_at hl 2 rfl) ?_
          refine lv_iconst (v := 1) hx hb dX12_held_138 (by decide) ?_
          refine lv_icmp_ne (tgt := 147) hx hb dX12_held_139 (by decide) (fun c17585 => ?_) (fun c17585 => ?_)
          · have g17586 : Rg 2 2 x1 := rg_ne_lo (k := 1) g17584 (by decide) c17585 (by decide)
            refine lv_iload hx hb dX12_held_147 (lv_at hl 5 rfl) ?_
            exact W.iret (v := y32_l5) hx hb hr (fun t ht hW => ⟨_, rfl, ⟨(rg_any y32_l5), trivial⟩, ht⟩) (fun q hq => absurd hq List.not_mem_nil) dX12_held_149
          · have g17587 : Rg 1 1 x1 := wk_eql g17584 (by decide : Rg 1 1 (1 : Int32)) c17585 (by decide)
            refine lv_iload hx hb dX12_held_142 (lv_at hl 4 rfl) ?_
            refine lv_goto (tgt := 149) hx hb dX12_held_144 (by decide) ?_
            exact W.iret (v := y32_l4) hx hb hr (fun t ht hW => ⟨_, rfl, ⟨(rg_any y32_l4), trivial⟩, ht⟩) (fun q hq => absurd hq List.not_mem_nil) dX12_held_149
        · have g17588 : Rg 0 0 x1 := wk_eql g32_l2 (by decide : Rg 0 0 (0 : Int32)) c17583 (by decide)
          refine lv_iload_n hx hb dX12_held_133 rfl (lv_at hl 3 rfl) ?_
          refine lv_goto (tgt := 149) hx hb dX12_held_134 (by decide) ?_
          exact W.iret (v := y32_l3) hx hb hr (fun t ht hW => ⟨_, rfl, ⟨(rg_any y32_l3), trivial⟩, ht⟩) (fun q hq => absurd hq List.not_mem_nil) dX12_held_149
      · have g17589 : Rg 0 3 y32_l6 := rg_ltl g32_l6 (by decide : Rg 4 4 (4 : Int32)) (rg_nle c17581) (by decide)
        refine lv_aload_n hx hb dX12_held_38 rfl (lv_at hl 0 rfl) ?_
        refine va_get (D := D) (ci := 12) (v := .ref (b 12)) (C := RX12) (T := TX12) (N := 24) hx hb hts hin12 hown hK hP 0 rfl rfl 19 (by decide) (hts (.fieldLink RX12 47 "MissedPointsModel" "heldKind" "[I") (by decide +kernel)) (fun _ h9 => h9) rfl dX12_held_39 ?_
        refine lv_iload hx hb dX12_held_42 (lv_at hl 6 rfl) ?_
        refine wk_ald hx hb hK hP 12 0 rfl rfl (rg_in g17589 (by decide) (by decide)) dX12_held_44 hV.2.2.2.2.2 (fun r17590 hr17590 => ?_)
        refine lv_iconst (v := 0) hx hb dX12_held_45 (by decide) ?_
        refine lv_iconst (v := 5) hx hb dX12_held_46 (by decide) ?_
        refine lz_ss (As := [.int r17590, .int 0, .int 5]) (rest := []) ⟨hx, hb, hml, hown, hts⟩ (w_X12_in l D cI cS r17590 (0 : Int32) (5 : Int32)) hKK (hP.sub (ws' := []) [] rfl) (va_cwS 3 hts gX12_held_X12_in rfl rfl rfl (by decide +kernel) ⟨Nat.le_of_ble_eq_true rfl, Nat.le_of_ble_eq_true rfl⟩) rfl hl.1 rfl (Nat.le_of_ble_eq_true rfl) dX12_held_47 ⟨Nat.le_of_ble_eq_true rfl, Nat.le_of_ble_eq_true rfl⟩ (fun r17591 hr17591 => ?_)
        refine lv_if_eq (tgt := 123) hx hb dX12_held_50 (by decide) (fun c17592 => ?_) (fun c17592 => ?_)
        · have g17593 : Rg 0 0 r17591 := wk_eql hr17591.1 (by decide : Rg 0 0 (0 : Int32)) c17592 (by decide)
          refine wk_iinc (lv' := fun r => [(6, .int r), (0, .ref (b 0)), (1, .int x0), (2, .int x1), (3, .int y32_l3), (4, .int y32_l4), (5, .int y32_l5)]) (e1 := 1) (f := 4) hx hb dX12_held_123 hl (k := 6) rfl (by decide) g17589 (by decide) (fun _ => rfl) (fun r17594 ls hr17594 er17594 hl => ?_)
          refine lv_goto (tgt := 32) hx hb dX12_held_126 (by decide) ?_
          exact ih32 y32_l3 y32_l4 y32_l5 r17594 ls g32_l1 g32_l2 g32_l5 (show Rg 0 4 r17594 from rg_w hr17594 (by decide) (by decide)) (lv_sub (l' := [(0, .ref (b 0)), (1, .int x0), (2, .int x1), (3, .int y32_l3), (4, .int y32_l4), (5, .int y32_l5), (6, .int r17594)]) hl [1, 2, 3, 4, 5, 6, 0] rfl) (me_up hm32 er17594 (by decide))
        · have g17595 : Rg 1 1 r17591 := rg_ne_lo (k := 0) hr17591.1 (by decide) c17592 (by decide)
          refine lv_aload_n hx hb dX12_held_53 rfl (lv_at hl 0 rfl) ?_
          refine va_get (D := D) (ci := 12) (v := .ref (b 12)) (C := RX12) (T := TX12) (N := 24) hx hb hts hin12 hown hK hP 0 rfl rfl 19 (by decide) (hts (.fieldLink RX12 47 "MissedPointsModel" "heldKind" "[I") (by decide +kernel)) (fun _ h9 => h9) rfl dX12_held_54 ?_
          refine lv_iload hx hb dX12_held_57 (lv_at hl 6 rfl) ?_
          refine wk_ald hx hb hK hP 12 0 rfl rfl (rg_in g17589 (by decide) (by decide)) dX12_held_59 hV.2.2.2.2.2 (fun r17596 hr17596 => ?_)
          refine lv_iload_n hx hb dX12_held_60 rfl (lv_at hl 1 rfl) ?_
          refine lz_ss (As := [.int r17596, .int x0]) (rest := []) ⟨hx, hb, hml, hown, hts⟩ (w_X12_isOf l D cI cS r17596 x0 hr17596) hKK (hP.sub (ws' := []) [] rfl) (va_cwS 2 hts gX12_held_X12_isOf rfl rfl rfl (by decide +kernel) ⟨Nat.le_of_ble_eq_true rfl, Nat.le_of_ble_eq_true rfl⟩) rfl hl.1 rfl (Nat.le_of_ble_eq_true rfl) dX12_held_61 ⟨Nat.le_of_ble_eq_true rfl, Nat.le_of_ble_eq_true rfl⟩ (fun r17597 hr17597 => ?_)
          refine lv_if_ne (tgt := 70) hx hb dX12_held_64 (by decide) (fun c17598 => ?_) (fun c17598 => ?_)
          · have g17599 : Rg 1 1 r17597 := rg_ne_lo (k := 0) hr17597.1 (by decide) c17598 (by decide)
            refine wk_iincA (lv' := fun r => [(3, .int r), (0, .ref (b 0)), (1, .int x0), (2, .int x1), (4, .int y32_l4), (5, .int y32_l5), (6, .int y32_l6)]) hx hb dX12_held_70 hl (k := 3) rfl (by decide) (fun _ => rfl) (fun r17600 ls hl => ?_)
            refine lv_iload hx hb dX12_held_73 (lv_at hl 4 rfl) ?_
            refine lv_aload_n hx hb dX12_held_75 rfl (lv_at hl 1 rfl) ?_
            refine va_get (D := D) (ci := 12) (v := .ref (b 13)) (C := RX12) (T := TX12) (N := 24) hx hb hts hin12 hown hK hP 0 rfl rfl 20 (by decide) (hts (.fieldLink RX12 50 "MissedPointsModel" "heldSet" "[I") (by decide +kernel)) (fun _ h9 => h9) rfl dX12_held_76 ?_
            refine lv_iload hx hb dX12_held_79 (lv_at hl 6 rfl) ?_
            refine wk_aldA hx hb hK hP 13 0 rfl rfl (rg_in g17589 (by decide) (by decide)) dX12_held_81 (fun r17601 => ?_)
            refine lv_ior hx hb dX12_held_82 ?_
            refine wk_topP (P := fun r => r = y32_l4 ||| r17601) rfl (fun r17602 qr17602 => ?_)
            refine lv_istore (lv' := [(4, .int r17602), (3, .int r17600), (0, .ref (b 0)), (1, .int x0), (2, .int x1), (5, .int y32_l5), (6, .int y32_l6)]) hx hb dX12_held_83 hl (by decide) rfl (fun ls hl => ?_)
            refine lv_iload hx hb dX12_held_85 (lv_at hl 5 rfl) ?_
            refine lv_iconst (v := (-1)) hx hb dX12_held_87 (by decide) ?_
            refine lv_icmp_eq (tgt := 114) hx hb dX12_held_88 (by decide) (fun c17603 => ?_) (fun c17603 => ?_)
            · have g17604 : Rg (-1) (-1) y32_l5 := wk_eql g32_l5 (by decide : Rg (-1) (-1) ((-1) : Int32)) c17603 (by decide)
              refine lv_iload hx hb dX12_held_114 (lv_at hl 6 rfl) ?_
              refine lv_goto (tgt := 121) hx hb dX12_held_116 (by decide) ?_
              refine lv_istore (lv' := [(5, .int y32_l6), (4, .int r17602), (3, .int r17600), (0, .ref (b 0)), (1, .int x0), (2, .int x1), (6, .int y32_l6)]) hx hb dX12_held_121 hl (by decide) rfl (fun ls hl => ?_)
              refine wk_iinc (lv' := fun r => [(6, .int r), (5, .int y32_l6), (4, .int r17602), (3, .int r17600), (0, .ref (b 0)), (1, .int x0), (2, .int x1)]) (e1 := 1) (f := 4) hx hb dX12_held_123 hl (k := 6) rfl (by decide) g17589 (by decide) (fun _ => rfl) (fun r17605 ls hr17605 er17605 hl => ?_)
              refine lv_goto (tgt := 32) hx hb dX12_held_126 (by decide) ?_
              exact ih32 r17600 r17602 y32_l6 r17605 ls g32_l1 g32_l2 (show Rg (-1) 3 y32_l6 from rg_w g17589 (by decide) (by decide)) (show Rg 0 4 r17605 from rg_w hr17605 (by decide) (by decide)) (lv_sub (l' := [(0, .ref (b 0)), (1, .int x0), (2, .int x1), (3, .int r17600), (4, .int r17602), (5, .int y32_l6), (6, .int r17605)]) hl [4, 5, 6, 3, 2, 1, 0] rfl) (me_up hm32 er17605 (by decide))
            · have g17606 : Rg 0 3 y32_l5 := rg_ne_lo (k := (-1)) g32_l5 (by decide) c17603 (by decide)
              refine lv_aload_n hx hb dX12_held_91 rfl (lv_at hl 2 rfl) ?_
              refine va_get (D := D) (ci := 12) (v := .ref (b 13)) (C := RX12) (T := TX12) (N := 24) hx hb hts hin12 hown hK hP 0 rfl rfl 20 (by decide) (hts (.fieldLink RX12 50 "MissedPointsModel" "heldSet" "[I") (by decide +kernel)) (fun _ h9 => h9) rfl dX12_held_92 ?_
              refine lv_iload hx hb dX12_held_95 (lv_at hl 6 rfl) ?_
              refine wk_aldA hx hb hK hP 13 0 rfl rfl (rg_in g17589 (by decide) (by decide)) dX12_held_97 (fun r17607 => ?_)
              refine lz_ss (As := [.int r17607]) (rest := []) ⟨hx, hb, hml, hown, hts⟩ (w_X12_bits l D cI cS r17607) hKK (hP.sub (ws' := []) [] rfl) (va_cwS 1 hts gX12_held_X12_bits rfl rfl rfl (by decide +kernel) ⟨Nat.le_of_ble_eq_true rfl, Nat.le_of_ble_eq_true rfl⟩) rfl hl.1 rfl (Nat.le_of_ble_eq_true rfl) dX12_held_98 ⟨Nat.le_of_ble_eq_true rfl, Nat.le_of_ble_eq_true rfl⟩ (fun r17608 hr17608 => ?_)
              refine lv_aload_n hx hb dX12_held_101 rfl (lv_at hl 2 rfl) ?_
              refine va_get (D := D) (ci := 12) (v := .ref (b 13)) (C := RX12) (T := TX12) (N := 24) hx hb hts hin12 hown hK hP 0 rfl rfl 20 (by decide) (hts (.fieldLink RX12 50 "MissedPointsModel" "heldSet" "[I") (by decide +kernel)) (fun _ h9 => h9) rfl dX12_held_102 ?_
              refine lv_iload hx hb dX12_held_105 (lv_at hl 5 rfl) ?_
              refine wk_aldA hx hb hK hP 13 0 rfl rfl (rg_in g17606 (by decide) (by decide)) dX12_held_107 (fun r17609 => ?_)
              refine lz_ss (As := [.int r17609]) (rest := [.int r17608]) ⟨hx, hb, hml, hown, hts⟩ (w_X12_bits l D cI cS r17609) hKK (hP.sub (ws' := []) [] rfl) (va_cwS 1 hts gX12_held_X12_bits rfl rfl rfl (by decide +kernel) ⟨Nat.le_of_ble_eq_true rfl, Nat.le_of_ble_eq_true rfl⟩) rfl hl.1 rfl (Nat.le_of_ble_eq_true rfl) dX12_held_108 ⟨Nat.le_of_ble_eq_true rfl, Nat.le_of_ble_eq_true rfl⟩ (fun r17610 hr17610 => ?_)
              refine lv_icmp_le (tgt := 119) hx hb dX12_held_111 (by decide) (fun c17611 => ?_) (fun c17611 => ?_)
              · refine lv_iload hx hb dX12_held_119 (lv_at hl 5 rfl) ?_
                refine lv_istore (lv' := [(5, .int y32_l5), (4, .int r17602), (3, .int r17600), (0, .ref (b 0)), (1, .int x0), (2, .int x1), (6, .int y32_l6)]) hx hb dX12_held_121 hl (by decide) rfl (fun ls hl => ?_)
                refine wk_iinc (lv' := fun r => [(6, .int r), (5, .int y32_l5), (4, .int r17602), (3, .int r17600), (0, .ref (b 0)), (1, .int x0), (2, .int x1)]) (e1 := 1) (f := 4) hx hb dX12_held_123 hl (k := 6) rfl (by decide) g17589 (by decide) (fun _ => rfl) (fun r17612 ls hr17612 er17612 hl => ?_)
                refine lv_goto (tgt := 32) hx hb dX12_held_126 (by decide) ?_
                exact ih32 r17600 r17602 y32_l5 r17612 ls g32_l1 g32_l2 (show Rg (-1) 3 y32_l5 from rg_w g17606 (by decide) (by decide)) (show Rg 0 4 r17612 from rg_w hr17612 (by decide) (by decide)) (lv_sub (l' := [(0, .ref (b 0)), (1, .int x0), (2, .int x1), (3, .int r17600), (4, .int r17602), (5, .int y32_l5), (6, .int r17612)]) hl [4, 5, 6, 3, 2, 1, 0] rfl) (me_up hm32 er17612 (by decide))
              · refine lv_iload hx hb dX12_held_114 (lv_at hl 6 rfl) ?_
                refine lv_goto (tgt := 121) hx hb dX12_held_116 (by decide) ?_
                refine lv_istore (lv' := [(5, .int y32_l6), (4, .int r17602), (3, .int r17600), (0, .ref (b 0)), (1, .int x0), (2, .int x1), (6, .int y32_l6)]) hx hb dX12_held_121 hl (by decide) rfl (fun ls hl => ?_)
                refine wk_iinc (lv' := fun r => [(6, .int r), (5, .int y32_l6), (4, .int r17602), (3, .int r17600), (0, .ref (b 0)), (1, .int x0), (2, .int x1)]) (e1 := 1) (f := 4) hx hb dX12_held_123 hl (k := 6) rfl (by decide) g17589 (by decide) (fun _ => rfl) (fun r17613 ls hr17613 er17613 hl => ?_)
                refine lv_goto (tgt := 32) hx hb dX12_held_126 (by decide) ?_
                exact ih32 r17600 r17602 y32_l6 r17613 ls g32_l1 g32_l2 (show Rg (-1) 3 y32_l6 from rg_w g17589 (by decide) (by decide)) (show Rg 0 4 r17613 from rg_w hr17613 (by decide) (by decide)) (lv_sub (l' := [(0, .ref (b 0)), (1, .int x0), (2, .int x1), (3, .int r17600), (4, .int r17602), (5, .int y32_l6), (6, .int r17613)]) hl [4, 5, 6, 3, 2, 1, 0] rfl) (me_up hm32 er17613 (by decide))
          · have g17614 : Rg 0 0 r17597 := wk_eql hr17597.1 (by decide : Rg 0 0 (0 : Int32)) c17598 (by decide)
            refine lv_goto (tgt := 123) hx hb dX12_held_67 (by decide) ?_
            refine wk_iinc (lv' := fun r => [(6, .int r), (0, .ref (b 0)), (1, .int x0), (2, .int x1), (3, .int y32_l3), (4, .int y32_l4), (5, .int y32_l5)]) (e1 := 1) (f := 4) hx hb dX12_held_123 hl (k := 6) rfl (by decide) g17589 (by decide) (fun _ => rfl) (fun r17615 ls hr17615 er17615 hl => ?_)
            refine lv_goto (tgt := 32) hx hb dX12_held_126 (by decide) ?_
            exact ih32 y32_l3 y32_l4 y32_l5 r17615 ls g32_l1 g32_l2 g32_l5 (show Rg 0 4 r17615 from rg_w hr17615 (by decide) (by decide)) (lv_sub (l' := [(0, .ref (b 0)), (1, .int x0), (2, .int x1), (3, .int y32_l3), (4, .int y32_l4), (5, .int y32_l5), (6, .int r17615)]) hl [1, 2, 3, 4, 5, 6, 0] rfl) (me_up hm32 er17615 (by decide))
  refine lv_iload_n hx hb dX12_held_0 rfl (lv_at hl 1 rfl) ?_
  refine lv_iconst (v := 0) hx hb dX12_held_1 (by decide) ?_
  refine lv_iconst (v := 5) hx hb dX12_held_2 (by decide) ?_
  refine lz_ss (As := [.int x0, .int 0, .int 5]) (rest := []) ⟨hx, hb, hml, hown, hts⟩ (w_X12_in l D cI cS x0 (0 : Int32) (5 : Int32)) hKK (hP.sub (ws' := []) [] rfl) (va_cwS 3 hts gX12_held_X12_in rfl rfl rfl (by decide +kernel) ⟨Nat.le_of_ble_eq_true rfl, Nat.le_of_ble_eq_true rfl⟩) rfl hl.1 rfl (Nat.le_of_ble_eq_true rfl) dX12_held_3 ⟨Nat.le_of_ble_eq_true rfl, Nat.le_of_ble_eq_true rfl⟩ (fun r17616 hr17616 => ?_)
  refine lv_if_eq (tgt := 18) hx hb dX12_held_6 (by decide) (fun c17617 => ?_) (fun c17617 => ?_)
  · have g17618 : Rg 0 0 r17616 := wk_eql hr17616.1 (by decide : Rg 0 0 (0 : Int32)) c17617 (by decide)
    refine lv_bipush (v := (-2)) hx hb dX12_held_18 (by decide) ?_
    exact W.iret (v := (-2)) hx hb hr (fun t ht hW => ⟨_, rfl, ⟨(by decide : Rg (-2147483648) 2147483647 ((-2) : Int32)), trivial⟩, ht⟩) (fun q hq => absurd hq List.not_mem_nil) dX12_held_20
  · have g17619 : Rg 0 5 x0 := wk_in3 (rg_any x0) (by decide : Rg 0 0 (0 : Int32)) (by decide : Rg 5 5 (5 : Int32)) (hr17616.2 c17617) (by decide)
    have g17620 : Rg 1 1 r17616 := rg_ne_lo (k := 0) hr17616.1 (by decide) c17617 (by decide)
    refine lv_iload_n hx hb dX12_held_9 rfl (lv_at hl 2 rfl) ?_
    refine lv_iconst (v := 0) hx hb dX12_held_10 (by decide) ?_
    refine lv_iconst (v := 2) hx hb dX12_held_11 (by decide) ?_
    refine lz_ss (As := [.int x1, .int 0, .int 2]) (rest := []) ⟨hx, hb, hml, hown, hts⟩ (w_X12_in l D cI cS x1 (0 : Int32) (2 : Int32)) hKK (hP.sub (ws' := []) [] rfl) (va_cwS 3 hts gX12_held_X12_in rfl rfl rfl (by decide +kernel) ⟨Nat.le_of_ble_eq_true rfl, Nat.le_of_ble_eq_true rfl⟩) rfl hl.1 rfl (Nat.le_of_ble_eq_true rfl) dX12_held_12 ⟨Nat.le_of_ble_eq_true rfl, Nat.le_of_ble_eq_true rfl⟩ (fun r17621 hr17621 => ?_)
    refine lv_if_ne (tgt := 21) hx hb dX12_held_15 (by decide) (fun c17622 => ?_) (fun c17622 => ?_)
    · have g17623 : Rg 0 2 x1 := wk_in3 (rg_any x1) (by decide : Rg 0 0 (0 : Int32)) (by decide : Rg 2 2 (2 : Int32)) (hr17621.2 c17622) (by decide)
      have g17624 : Rg 1 1 r17621 := rg_ne_lo (k := 0) hr17621.1 (by decide) c17622 (by decide)
      refine lv_iconst (v := 0) hx hb dX12_held_21 (by decide) ?_
      refine lv_istore_n (lv' := [(3, .int 0), (0, .ref (b 0)), (1, .int x0), (2, .int x1)]) hx hb dX12_held_22 rfl hl (by decide) rfl (fun ls hl => ?_)
      refine lv_iconst (v := 0) hx hb dX12_held_23 (by decide) ?_
      refine lv_istore (lv' := [(4, .int 0), (3, .int 0), (0, .ref (b 0)), (1, .int x0), (2, .int x1)]) hx hb dX12_held_24 hl (by decide) rfl (fun ls hl => ?_)
      refine lv_iconst (v := (-1)) hx hb dX12_held_26 (by decide) ?_
      refine lv_istore (lv' := [(5, .int (-1)), (4, .int 0), (3, .int 0), (0, .ref (b 0)), (1, .int x0), (2, .int x1)]) hx hb dX12_held_27 hl (by decide) rfl (fun ls hl => ?_)
      refine lv_iconst (v := 0) hx hb dX12_held_29 (by decide) ?_
      refine lv_istore (lv' := [(6, .int 0), (5, .int (-1)), (4, .int 0), (3, .int 0), (0, .ref (b 0)), (1, .int x0), (2, .int x1)]) hx hb dX12_held_30 hl (by decide) rfl (fun ls hl => ?_)
      exact lp32 5 (0 : Int32) (0 : Int32) (((-1) : Int32)) (0 : Int32) ls g17619 g17623 (by decide : Rg (-1) 3 ((-1) : Int32)) (by decide : Rg 0 4 (0 : Int32)) (lv_sub (l' := [(0, .ref (b 0)), (1, .int x0), (2, .int x1), (3, .int 0), (4, .int 0), (5, .int (-1)), (6, .int 0)]) hl [4, 5, 6, 3, 2, 1, 0] rfl) (me_i (by decide : Rg 0 4 (0 : Int32)) (by decide))
    · have g17625 : Rg 0 0 r17621 := wk_eql hr17621.1 (by decide : Rg 0 0 (0 : Int32)) c17622 (by decide)
      refine lv_bipush (v := (-2)) hx hb dX12_held_18 (by decide) ?_
      exact W.iret (v := (-2)) hx hb hr (fun t ht hW => ⟨_, rfl, ⟨(by decide : Rg (-2147483648) 2147483647 ((-2) : Int32)), trivial⟩, ht⟩) (fun q hq => absurd hq List.not_mem_nil) dX12_held_20
set_option maxRecDepth 20000 in
theorem ggX12_shelf_X12_mark : GoodIn wsX12_shelf wsX12_mark := goodIn_r _ [65, 13, 14, 15, 8, 16, 17, 10, 11, 12, 37, 38, 39, 40, 41, 42, 43, 22, 23, 24, 25, 44, 45, 46, 47, 48, 49, 50, 51, 52, 53, 54, 55, 56, 57, 66, 67, 68, 69, 70, 71, 72, 73, 74, 75, 76, 77, 78, 79, 80, 81, 82, 83, 84, 85, 86, 87, 88, 89] (by decide +kernel) (by decide +kernel)
set_option maxRecDepth 20000 in
theorem gX12_shelf_X12_mark : GoodIn wsX12_shelf (wsV RX12 225 RX12 yX12_mark wsX12_mark) := goodIn_app (goodIn_of _ (by decide +kernel)) ggX12_shelf_X12_mark
theorem dX12_shelf_109 : decode cX12_shelf 109 = .ok (.aload_n 0, 1) := by decide +kernel
theorem dX12_shelf_110 : decode cX12_shelf 110 = .ok (.iload_n 3, 1) := by decide +kernel
theorem dX12_shelf_111 : decode cX12_shelf 111 = .ok (.invokevirtual 225, 3) := by decide +kernel
theorem dX12_shelf_114 : decode cX12_shelf 114 = .ok (.iconst 1, 1) := by decide +kernel
theorem dX12_shelf_115 : decode cX12_shelf 115 = .ok (.if_icmp .ne 7, 3) := by decide +kernel
theorem dX12_shelf_118 : decode cX12_shelf 118 = .ok (.iconst 3, 1) := by decide +kernel
theorem dX12_shelf_119 : decode cX12_shelf 119 = .ok (.goto 45, 3) := by decide +kernel
theorem dX12_shelf_122 : decode cX12_shelf 122 = .ok (.iconst 1, 1) := by decide +kernel
theorem dX12_shelf_123 : decode cX12_shelf 123 = .ok (.goto 41, 3) := by decide +kernel
theorem dX12_shelf_131 : decode cX12_shelf 131 = .ok (.iconst 4, 1) := by decide +kernel
theorem dX12_shelf_132 : decode cX12_shelf 132 = .ok (.goto 32, 3) := by decide +kernel
theorem dX12_shelf_140 : decode cX12_shelf 140 = .ok (.iconst 5, 1) := by decide +kernel
theorem dX12_shelf_141 : decode cX12_shelf 141 = .ok (.goto 23, 3) := by decide +kernel
theorem dX12_shelf_158 : decode cX12_shelf 158 = .ok (.bipush 6, 2) := by decide +kernel
theorem dX12_shelf_160 : decode cX12_shelf 160 = .ok (.goto 4, 3) := by decide +kernel
theorem dX12_shelf_183 : decode cX12_shelf 183 = .ok (.iconst 1, 1) := by decide +kernel
theorem dX12_shelf_184 : decode cX12_shelf 184 = .ok (.iload_n 3, 1) := by decide +kernel
theorem dX12_shelf_185 : decode cX12_shelf 185 = .ok (.ishl, 1) := by decide +kernel
theorem dX12_shelf_186 : decode cX12_shelf 186 = .ok (.goto 37, 3) := by decide +kernel
theorem dX12_shelf_194 : decode cX12_shelf 194 = .ok (.iload 4, 2) := by decide +kernel
theorem dX12_shelf_196 : decode cX12_shelf 196 = .ok (.goto 27, 3) := by decide +kernel
theorem dX12_shelf_213 : decode cX12_shelf 213 = .ok (.aload_n 0, 1) := by decide +kernel
theorem dX12_shelf_214 : decode cX12_shelf 214 = .ok (.getfield 41, 3) := by decide +kernel
theorem dX12_shelf_217 : decode cX12_shelf 217 = .ok (.iload_n 3, 1) := by decide +kernel
theorem dX12_shelf_218 : decode cX12_shelf 218 = .ok (.iaload, 1) := by decide +kernel
theorem dX12_shelf_219 : decode cX12_shelf 219 = .ok (.goto 4, 3) := by decide +kernel
theorem dX12_shelf_234 : decode cX12_shelf 234 = .ok (.aload_n 0, 1) := by decide +kernel
theorem dX12_shelf_235 : decode cX12_shelf 235 = .ok (.getfield 38, 3) := by decide +kernel
theorem dX12_shelf_238 : decode cX12_shelf 238 = .ok (.iload_n 3, 1) := by decide +kernel
theorem dX12_shelf_239 : decode cX12_shelf 239 = .ok (.iaload, 1) := by decide +kernel
theorem dX12_shelf_240 : decode cX12_shelf 240 = .ok (.goto 4, 3) := by decide +kernel
set_option maxHeartbeats 4000000 in
set_option maxRecDepth 100000 in
theorem w_X12_shelf (l : Launch) (D : va_G) (cI cS : ClassId) (sz : Nat) (b : Nat → Nat) (L v0 : SU) (hL : TyL L) (hV : TyV v0) (x0 x1 x2 : Int32) : Met l yX12_shelf wsX12_shelf ({ frames := 5, cells := 0, slots := 0, locals := 200 }) (PQ D cI cS (wM cI b L v0) sz [.ref (b 0), .int x0, .int x1, .int x2]) (QF (S := SU) D (wM cI b L v0) (wM cI b L) sz (fun r u => TyV u ∧ Rg (-11) 1 r ∧ True)) 0 0 (va_A (wM cI b L v0) sz) := by
  refine Met.ofW (cc := cX12_shelf) (maxL := 6) (ret := (some .int)) (by decide) rfl ?_
  intro p e s m args below meth c s₁ B hml hv
  obtain ⟨rfl, hsz, hP, hKK, hD0⟩ := hv
  have hx := B.exec
  have hb := B.bytes
  have hr := B.returns
  have hts := atoms_spec (ws := wsX12_shelf) B.pre
  have hown : s.vm.findClass RX12 = some m.cls := findClass_of_methodNamed B.named
  have hlocks := B.notSynchronized
  have hK := hKK.1
  have hin12 : ∀ w ∈ wsX120, w ∈ wsX12_shelf := by decide +kernel
  subst hsz
  have hD := hD0.self (sz := s.heap.size)
  obtain ⟨A, hAe⟩ : ∃ A, A = va_A (wM cI b L v0) s.heap.size := ⟨_, rfl⟩
  rw [← hAe] at hD
  have hA : ∀ q : Nat, s.heap.size ≤ q → A q := fun q h => by rw [hAe]; exact Or.inr h
  have hS : va_S A s.heap s.heap [] := va_S.rf
  have hl := lv_entry ([.ref (b 0), .int x0, .int x1, .int x2]) (n := 6) (Nat.le_of_ble_eq_true rfl)
  rw [lg_entry_eq]
  generalize (lg_sl ([.ref (b 0), .int x0, .int x1, .int x2]) ++ List.replicate (6 - (lg_sl ([.ref (b 0), .int x0, .int x1, .int x2])).length) Slot.unset).toArray = ls at hl ⊢
  have hl : lv_has ls 6 [(0, .ref (b 0)), (1, .int x0), (2, .int x1), (3, .int x2)] := hl
  obtain ⟨v, hv9⟩ : ∃ v : SU, v = v0 := ⟨_, rfl⟩
  rw [← hv9] at hP hD hV
  have ct223 : ∀ (y223_s0 : Int32) (v : SU) (H : Heap) (locs : List Loc) (ls : Array Slot), Rg 0 3 x0 → Rg 0 5 x1 → Rg 0 3 x0 → (x1 = 4 → Rg 0 3 x2) → TyV v → va_P D cls (wM cI b L v) H → va_D A (wM cI b L v) → va_S A s.heap H locs → lv_has ls 6 [(0, .ref (b 0)), (1, .int x0), (2, .int x1), (3, .int x2)] → W p l e (headSpec wsX12_shelf ({ frames := 5, cells := 0, slots := 0, locals := 200 })).room s m ([.ref (b 0), .int x0, .int x1, .int x2]).toArray below meth c H locs 0 0 (MQ below (QF (S := SU) D (wM cI b L v0) (wM cI b L) s.heap.size (fun r u => TyV u ∧ Rg (-11) 1 r ∧ True)) ([.ref (b 0), .int x0, .int x1, .int x2]).toArray s 0 0 (va_A (wM cI b L v0) s.heap.size)) (F0 m 223 ls [.int y223_s0, .int x0, .ref (b 13)]) := by
    intro y223_s0 v H locs ls g223_l1 g223_l2 g223_s1 x223_0 hV hP hD hS hl
    refine ms_13 hx hb hK hP hD hS hV rfl (rg_in g223_s1 (by decide) (by decide)) dX12_shelf_223 (fun v H locs hV ev17992 hP hD hS => ?_)
    refine lv_aload_n hx hb dX12_shelf_224 rfl (lv_at hl 0 rfl) ?_
    refine va_get (D := D) (ci := 12) (v := .ref (b 14)) (C := RX12) (T := TX12) (N := 24) hx hb hts hin12 hown hK hP 0 rfl rfl 21 (by decide) (hts (.fieldLink RX12 53 "MissedPointsModel" "heldSort" "[I") (by decide +kernel)) (fun _ h9 => h9) rfl dX12_shelf_225 ?_
    refine lv_iload_n hx hb dX12_shelf_228 rfl (lv_at hl 1 rfl) ?_
    refine lv_iload_n hx hb dX12_shelf_229 rfl (lv_at hl 2 rfl) ?_
    refine lv_iconst (v := 4) hx hb dX12_shelf_230 (by decide) ?_
    refine lv_icmp_ne (tgt := 243) hx hb dX12_shelf_231 (by decide) (fun c17993 => ?_) (fun c17993 => ?_)
    · refine lv_iconst (v := 0) hx hb dX12_shelf_243 (by decide) ?_
      refine ms_14 hx hb hK hP hD hS hV rfl (rg_in g223_l1 (by decide) (by decide)) dX12_shelf_244 (fun v H locs hV ev17994 hP hD hS => ?_)
      refine lv_iconst (v := 1) hx hb dX12_shelf_245 (by decide) ?_
      subst hAe
      exact W.iret (v := 1) hx hb hr (fun t ht hW => ⟨⟨_, v, rfl, ⟨hV, (by decide : Rg (-11) 1 (1 : Int32)), trivial⟩, by rw [ht]; exact hP, hD⟩, hS.F ht⟩) hS.2.2 dX12_shelf_246
    · have g17995 : Rg 4 4 x1 := wk_eql g223_l2 (by decide : Rg 4 4 (4 : Int32)) c17993 (by decide)
      have g17996 : Rg 0 3 x2 := x223_0 c17993
      refine lv_aload_n hx hb dX12_shelf_234 rfl (lv_at hl 0 rfl) ?_
      refine va_get (D := D) (ci := 12) (v := .ref (b 9)) (C := RX12) (T := TX12) (N := 24) hx hb hts hin12 hown hK hP 0 rfl rfl 16 (by decide) (hts (.fieldLink RX12 38 "MissedPointsModel" "sort" "[I") (by decide +kernel)) (fun _ h9 => h9) rfl dX12_shelf_235 ?_
      refine lv_iload_n hx hb dX12_shelf_238 rfl (lv_at hl 3 rfl) ?_
      refine wk_ald hx hb hK hP 9 0 rfl rfl (rg_in g17996 (by decide) (by decide)) dX12_shelf_239 hL.2.2.1 (fun r17997 hr17997 => ?_)
      refine lv_goto (tgt := 244) hx hb dX12_shelf_240 (by decide) ?_
      refine ms_14 hx hb hK hP hD hS hV rfl (rg_in g223_l1 (by decide) (by decide)) dX12_shelf_244 (fun v H locs hV ev17998 hP hD hS => ?_)
      refine lv_iconst (v := 1) hx hb dX12_shelf_245 (by decide) ?_
      subst hAe
      exact W.iret (v := 1) hx hb hr (fun t ht hW => ⟨⟨_, v, rfl, ⟨hV, (by decide : Rg (-11) 1 (1 : Int32)), trivial⟩, by rw [ht]; exact hP, hD⟩, hS.F ht⟩) hS.2.2 dX12_shelf_246
  have ct164 : ∀ (y164_l4 y164_s0 : Int32) (v : SU) (H : Heap) (locs : List Loc) (ls : Array Slot), Rg 0 3 x0 → Rg 0 5 x1 → Rg 1 4095 y164_l4 → Rg (-1) 6 y164_s0 → (x1 = 4 → Rg 0 3 x2) → TyV v → va_P D cls (wM cI b L v) H → va_D A (wM cI b L v) → va_S A s.heap H locs → lv_has ls 6 [(0, .ref (b 0)), (1, .int x0), (2, .int x1), (3, .int x2), (4, .int y164_l4)] → W p l e (headSpec wsX12_shelf ({ frames := 5, cells := 0, slots := 0, locals := 200 })).room s m ([.ref (b 0), .int x0, .int x1, .int x2]).toArray below meth c H locs 0 0 (MQ below (QF (S := SU) D (wM cI b L v0) (wM cI b L) s.heap.size (fun r u => TyV u ∧ Rg (-11) 1 r ∧ True)) ([.ref (b 0), .int x0, .int x1, .int x2]).toArray s 0 0 (va_A (wM cI b L v0) s.heap.size)) (F0 m 164 ls [.int y164_s0]) := by
    intro y164_l4 y164_s0 v H locs ls g164_l1 g164_l2 g164_l4 g164_s0 x164_0 hV hP hD hS hl
    refine lv_istore (lv' := [(5, .int y164_s0), (0, .ref (b 0)), (1, .int x0), (2, .int x1), (3, .int x2), (4, .int y164_l4)]) hx hb dX12_shelf_164 hl (by decide) rfl (fun ls hl => ?_)
    refine lv_aload_n hx hb dX12_shelf_166 rfl (lv_at hl 1 rfl) ?_
    refine va_get (D := D) (ci := 12) (v := .ref (b 12)) (C := RX12) (T := TX12) (N := 24) hx hb hts hin12 hown hK hP 0 rfl rfl 19 (by decide) (hts (.fieldLink RX12 47 "MissedPointsModel" "heldKind" "[I") (by decide +kernel)) (fun _ h9 => h9) rfl dX12_shelf_167 ?_
    refine lv_iload_n hx hb dX12_shelf_170 rfl (lv_at hl 2 rfl) ?_
    refine lv_iload hx hb dX12_shelf_171 (lv_at hl 0 rfl) ?_
    refine ms_12 hx hb hK hP hD hS hV rfl (rg_in g164_l1 (by decide) (by decide)) g164_s0 dX12_shelf_173 (fun v H locs hV ev17999 hP hD hS => ?_)
    refine lv_aload_n hx hb dX12_shelf_174 rfl (lv_at hl 1 rfl) ?_
    refine va_get (D := D) (ci := 12) (v := .ref (b 13)) (C := RX12) (T := TX12) (N := 24) hx hb hts hin12 hown hK hP 0 rfl rfl 20 (by decide) (hts (.fieldLink RX12 50 "MissedPointsModel" "heldSet" "[I") (by decide +kernel)) (fun _ h9 => h9) rfl dX12_shelf_175 ?_
    refine lv_iload_n hx hb dX12_shelf_178 rfl (lv_at hl 2 rfl) ?_
    refine lv_iload_n hx hb dX12_shelf_179 rfl (lv_at hl 3 rfl) ?_
    refine lv_if_ne (tgt := 189) hx hb dX12_shelf_180 (by decide) (fun c18000 => ?_) (fun c18000 => ?_)
    · have g18001 : Rg 1 5 x1 := rg_ne_lo (k := 0) g164_l2 (by decide) c18000 (by decide)
      refine lv_iload_n hx hb dX12_shelf_189 rfl (lv_at hl 3 rfl) ?_
      refine lv_iconst (v := 3) hx hb dX12_shelf_190 (by decide) ?_
      refine lv_icmp_ge (tgt := 199) hx hb dX12_shelf_191 (by decide) (fun c18002 => ?_) (fun c18002 => ?_)
      · have g18003 : Rg 3 5 x1 := rg_ler (by decide : Rg 3 3 (3 : Int32)) g18001 c18002 (by decide)
        refine lv_iload_n hx hb dX12_shelf_199 rfl (lv_at hl 3 rfl) ?_
        refine lv_iconst (v := 3) hx hb dX12_shelf_200 (by decide) ?_
        refine lv_icmp_ne (tgt := 208) hx hb dX12_shelf_201 (by decide) (fun c18004 => ?_) (fun c18004 => ?_)
        · have g18005 : Rg 4 5 x1 := rg_ne_lo (k := 3) g18003 (by decide) c18004 (by decide)
          refine lv_iload_n hx hb dX12_shelf_208 rfl (lv_at hl 3 rfl) ?_
          refine lv_iconst (v := 4) hx hb dX12_shelf_209 (by decide) ?_
          refine lv_icmp_ne (tgt := 222) hx hb dX12_shelf_210 (by decide) (fun c18006 => ?_) (fun c18006 => ?_)
          · have g18007 : Rg 5 5 x1 := rg_ne_lo (k := 4) g18005 (by decide) c18006 (by decide)
            refine lv_iconst (v := 0) hx hb dX12_shelf_222 (by decide) ?_
            exact ct223 (0 : Int32) v _ _ ls g164_l1 (show Rg 0 5 x1 from rg_w g18007 (by decide) (by decide)) g164_l1 (by exact x164_0) hV hP hD hS (lv_sub (l' := [(0, .ref (b 0)), (1, .int x0), (2, .int x1), (3, .int x2)]) hl [1, 2, 3, 4] rfl)
          · have g18008 : Rg 4 4 x1 := wk_eql g18005 (by decide : Rg 4 4 (4 : Int32)) c18006 (by decide)
            have g18009 : Rg 0 3 x2 := x164_0 c18006
            refine lv_aload_n hx hb dX12_shelf_213 rfl (lv_at hl 1 rfl) ?_
            refine va_get (D := D) (ci := 12) (v := .ref (b 10)) (C := RX12) (T := TX12) (N := 24) hx hb hts hin12 hown hK hP 0 rfl rfl 17 (by decide) (hts (.fieldLink RX12 41 "MissedPointsModel" "size" "[I") (by decide +kernel)) (fun _ h9 => h9) rfl dX12_shelf_214 ?_
            refine lv_iload_n hx hb dX12_shelf_217 rfl (lv_at hl 4 rfl) ?_
            refine wk_ald hx hb hK hP 10 0 rfl rfl (rg_in g18009 (by decide) (by decide)) dX12_shelf_218 hL.2.2.2.1 (fun r18010 hr18010 => ?_)
            refine lv_goto (tgt := 223) hx hb dX12_shelf_219 (by decide) ?_
            exact ct223 r18010 v _ _ ls g164_l1 (show Rg 0 5 x1 from rg_w g18008 (by decide) (by decide)) g164_l1 (by exact x164_0) hV hP hD hS (lv_sub (l' := [(0, .ref (b 0)), (1, .int x0), (2, .int x1), (3, .int x2)]) hl [1, 2, 3, 4] rfl)
        · have g18011 : Rg 3 3 x1 := wk_eql g18003 (by decide : Rg 3 3 (3 : Int32)) c18004 (by decide)
          refine lv_iload_n hx hb dX12_shelf_204 rfl (lv_at hl 4 rfl) ?_
          refine lv_goto (tgt := 223) hx hb dX12_shelf_205 (by decide) ?_
          exact ct223 x2 v _ _ ls g164_l1 (show Rg 0 5 x1 from rg_w g18011 (by decide) (by decide)) g164_l1 (by exact x164_0) hV hP hD hS (lv_sub (l' := [(0, .ref (b 0)), (1, .int x0), (2, .int x1), (3, .int x2)]) hl [1, 2, 3, 4] rfl)
      · have g18012 : Rg 1 2 x1 := rg_ltl g18001 (by decide : Rg 3 3 (3 : Int32)) (rg_nle c18002) (by decide)
        refine lv_iload hx hb dX12_shelf_194 (lv_at hl 5 rfl) ?_
        refine lv_goto (tgt := 223) hx hb dX12_shelf_196 (by decide) ?_
        exact ct223 y164_l4 v _ _ ls g164_l1 (show Rg 0 5 x1 from rg_w g18012 (by decide) (by decide)) g164_l1 (by exact x164_0) hV hP hD hS (lv_sub (l' := [(0, .ref (b 0)), (1, .int x0), (2, .int x1), (3, .int x2)]) hl [1, 2, 3, 4] rfl)
    · have g18013 : Rg 0 0 x1 := wk_eql g164_l2 (by decide : Rg 0 0 (0 : Int32)) c18000 (by decide)
      refine lv_iconst (v := 1) hx hb dX12_shelf_183 (by decide) ?_
      refine lv_iload_n hx hb dX12_shelf_184 rfl (lv_at hl 4 rfl) ?_
      refine lv_ishl hx hb dX12_shelf_185 ?_
      refine wk_topP (P := fun r => r = (1 : Int32) <<< (x2 &&& 31)) rfl (fun r18014 qr18014 => ?_)
      refine lv_goto (tgt := 223) hx hb dX12_shelf_186 (by decide) ?_
      exact ct223 r18014 v _ _ ls g164_l1 (show Rg 0 5 x1 from rg_w g18013 (by decide) (by decide)) g164_l1 (by exact x164_0) hV hP hD hS (lv_sub (l' := [(0, .ref (b 0)), (1, .int x0), (2, .int x1), (3, .int x2)]) hl [1, 2, 3, 4] rfl)
  have ct105 : ∀ (y105_l4 : Int32) (v : SU) (H : Heap) (locs : List Loc) (ls : Array Slot), Rg 0 3 x0 → Rg 0 5 x1 → Rg 1 4095 y105_l4 → (x1 = 4 → Rg 0 3 x2) → TyV v → va_P D cls (wM cI b L v) H → va_D A (wM cI b L v) → va_S A s.heap H locs → lv_has ls 6 [(0, .ref (b 0)), (1, .int x0), (2, .int x1), (3, .int x2), (4, .int y105_l4)] → W p l e (headSpec wsX12_shelf ({ frames := 5, cells := 0, slots := 0, locals := 200 })).room s m ([.ref (b 0), .int x0, .int x1, .int x2]).toArray below meth c H locs 0 0 (MQ below (QF (S := SU) D (wM cI b L v0) (wM cI b L) s.heap.size (fun r u => TyV u ∧ Rg (-11) 1 r ∧ True)) ([.ref (b 0), .int x0, .int x1, .int x2]).toArray s 0 0 (va_A (wM cI b L v0) s.heap.size)) (F0 m 105 ls []) := by
    intro y105_l4 v H locs ls g105_l1 g105_l2 g105_l4 x105_0 hV hP hD hS hl
    refine lv_iload_n hx hb dX12_shelf_105 rfl (lv_at hl 2 rfl) ?_
    refine lv_if_ne (tgt := 126) hx hb dX12_shelf_106 (by decide) (fun c18015 => ?_) (fun c18015 => ?_)
    · have g18016 : Rg 1 5 x1 := rg_ne_lo (k := 0) g105_l2 (by decide) c18015 (by decide)
      refine lv_iload_n hx hb dX12_shelf_126 rfl (lv_at hl 2 rfl) ?_
      refine lv_iconst (v := 1) hx hb dX12_shelf_127 (by decide) ?_
      refine lv_icmp_ne (tgt := 135) hx hb dX12_shelf_128 (by decide) (fun c18017 => ?_) (fun c18017 => ?_)
      · have g18018 : Rg 2 5 x1 := rg_ne_lo (k := 1) g18016 (by decide) c18017 (by decide)
        refine lv_iload_n hx hb dX12_shelf_135 rfl (lv_at hl 2 rfl) ?_
        refine lv_iconst (v := 2) hx hb dX12_shelf_136 (by decide) ?_
        refine lv_icmp_ne (tgt := 144) hx hb dX12_shelf_137 (by decide) (fun c18019 => ?_) (fun c18019 => ?_)
        · have g18020 : Rg 3 5 x1 := rg_ne_lo (k := 2) g18018 (by decide) c18019 (by decide)
          refine lv_iload_n hx hb dX12_shelf_144 rfl (lv_at hl 2 rfl) ?_
          refine lv_iconst (v := 3) hx hb dX12_shelf_145 (by decide) ?_
          refine lv_icmp_ne (tgt := 153) hx hb dX12_shelf_146 (by decide) (fun c18021 => ?_) (fun c18021 => ?_)
          · have g18022 : Rg 4 5 x1 := rg_ne_lo (k := 3) g18020 (by decide) c18021 (by decide)
            refine lv_iload_n hx hb dX12_shelf_153 rfl (lv_at hl 2 rfl) ?_
            refine lv_iconst (v := 4) hx hb dX12_shelf_154 (by decide) ?_
            refine lv_icmp_ne (tgt := 163) hx hb dX12_shelf_155 (by decide) (fun c18023 => ?_) (fun c18023 => ?_)
            · have g18024 : Rg 5 5 x1 := rg_ne_lo (k := 4) g18022 (by decide) c18023 (by decide)
              refine lv_iconst (v := (-1)) hx hb dX12_shelf_163 (by decide) ?_
              exact ct164 y105_l4 (((-1) : Int32)) v _ _ ls g105_l1 (show Rg 0 5 x1 from rg_w g18024 (by decide) (by decide)) g105_l4 (by decide : Rg (-1) 6 ((-1) : Int32)) (by exact x105_0) hV hP hD hS (lv_sub (l' := [(0, .ref (b 0)), (1, .int x0), (2, .int x1), (3, .int x2), (4, .int y105_l4)]) hl [0, 1, 2, 3, 4] rfl)
            · have g18025 : Rg 4 4 x1 := wk_eql g18022 (by decide : Rg 4 4 (4 : Int32)) c18023 (by decide)
              refine lv_bipush (v := 6) hx hb dX12_shelf_158 (by decide) ?_
              refine lv_goto (tgt := 164) hx hb dX12_shelf_160 (by decide) ?_
              exact ct164 y105_l4 (6 : Int32) v _ _ ls g105_l1 (show Rg 0 5 x1 from rg_w g18025 (by decide) (by decide)) g105_l4 (by decide : Rg (-1) 6 (6 : Int32)) (by exact x105_0) hV hP hD hS (lv_sub (l' := [(0, .ref (b 0)), (1, .int x0), (2, .int x1), (3, .int x2), (4, .int y105_l4)]) hl [0, 1, 2, 3, 4] rfl)
          · have g18026 : Rg 3 3 x1 := wk_eql g18020 (by decide : Rg 3 3 (3 : Int32)) c18021 (by decide)
            refine lv_iconst (v := 2) hx hb dX12_shelf_149 (by decide) ?_
            refine lv_goto (tgt := 164) hx hb dX12_shelf_150 (by decide) ?_
            exact ct164 y105_l4 (2 : Int32) v _ _ ls g105_l1 (show Rg 0 5 x1 from rg_w g18026 (by decide) (by decide)) g105_l4 (by decide : Rg (-1) 6 (2 : Int32)) (by exact x105_0) hV hP hD hS (lv_sub (l' := [(0, .ref (b 0)), (1, .int x0), (2, .int x1), (3, .int x2), (4, .int y105_l4)]) hl [0, 1, 2, 3, 4] rfl)
        · have g18027 : Rg 2 2 x1 := wk_eql g18018 (by decide : Rg 2 2 (2 : Int32)) c18019 (by decide)
          refine lv_iconst (v := 5) hx hb dX12_shelf_140 (by decide) ?_
          refine lv_goto (tgt := 164) hx hb dX12_shelf_141 (by decide) ?_
          exact ct164 y105_l4 (5 : Int32) v _ _ ls g105_l1 (show Rg 0 5 x1 from rg_w g18027 (by decide) (by decide)) g105_l4 (by decide : Rg (-1) 6 (5 : Int32)) (by exact x105_0) hV hP hD hS (lv_sub (l' := [(0, .ref (b 0)), (1, .int x0), (2, .int x1), (3, .int x2), (4, .int y105_l4)]) hl [0, 1, 2, 3, 4] rfl)
      · have g18028 : Rg 1 1 x1 := wk_eql g18016 (by decide : Rg 1 1 (1 : Int32)) c18017 (by decide)
        refine lv_iconst (v := 4) hx hb dX12_shelf_131 (by decide) ?_
        refine lv_goto (tgt := 164) hx hb dX12_shelf_132 (by decide) ?_
        exact ct164 y105_l4 (4 : Int32) v _ _ ls g105_l1 (show Rg 0 5 x1 from rg_w g18028 (by decide) (by decide)) g105_l4 (by decide : Rg (-1) 6 (4 : Int32)) (by exact x105_0) hV hP hD hS (lv_sub (l' := [(0, .ref (b 0)), (1, .int x0), (2, .int x1), (3, .int x2), (4, .int y105_l4)]) hl [0, 1, 2, 3, 4] rfl)
    · have g18029 : Rg 0 0 x1 := wk_eql g105_l2 (by decide : Rg 0 0 (0 : Int32)) c18015 (by decide)
      refine lv_aload_n hx hb dX12_shelf_109 rfl (lv_at hl 0 rfl) ?_
      refine lv_iload_n hx hb dX12_shelf_110 rfl (lv_at hl 3 rfl) ?_
      refine wk_qi (wM cI b L) v (As := [.int x2]) (rest := []) ⟨hx, hb, hml, hown, hts⟩ (w_X12_mark l D cI cS _ b L v hL hV x2) hKK hP hD hS hA 0 (ci := 12) rfl rfl (cwV 1 hts gX12_shelf_X12_mark rfl rfl rfl (by decide +kernel) ⟨Nat.le_of_ble_eq_true rfl, Nat.le_of_ble_eq_true rfl⟩) rfl hl.1 rfl (Nat.le_of_ble_eq_true rfl) dX12_shelf_111 ⟨Nat.le_of_ble_eq_true rfl, Nat.le_of_ble_eq_true rfl⟩ (fun r18030 v H locs hr18030 hP hD hS => ?_)
      have hV := hr18030.1
      refine lv_iconst (v := 1) hx hb dX12_shelf_114 (by decide) ?_
      refine lv_icmp_ne (tgt := 122) hx hb dX12_shelf_115 (by decide) (fun c18031 => ?_) (fun c18031 => ?_)
      · refine lv_iconst (v := 1) hx hb dX12_shelf_122 (by decide) ?_
        refine lv_goto (tgt := 164) hx hb dX12_shelf_123 (by decide) ?_
        exact ct164 y105_l4 (1 : Int32) v _ _ ls g105_l1 (show Rg 0 5 x1 from rg_w g18029 (by decide) (by decide)) g105_l4 (by decide : Rg (-1) 6 (1 : Int32)) (by exact x105_0) hV hP hD hS (lv_sub (l' := [(0, .ref (b 0)), (1, .int x0), (2, .int x1), (3, .int x2), (4, .int y105_l4)]) hl [0, 1, 2, 3, 4] rfl)
      · have g18032 : Rg 1 1 r18030 := wk_eql hr18030.2.1 (by decide : Rg 1 1 (1 : Int32)) c18031 (by decide)
        refine lv_iconst (v := 3) hx hb dX12_shelf_118 (by decide) ?_
        refine lv_goto (tgt := 164) hx hb dX12_shelf_119 (by decide) ?_
        exact ct164 y105_l4 (3 : Int32) v _ _ ls g105_l1 (show Rg 0 5 x1 from rg_w g18029 (by decide) (by decide)) g105_l4 (by decide : Rg (-1) 6 (3 : Int32)) (by exact x105_0) hV hP hD hS (lv_sub (l' := [(0, .ref (b 0)), (1, .int x0), (2, .int x1), (3, .int x2), (4, .int y105_l4)]) hl [0, 1, 2, 3, 4] rfl)
  have ct77 : ∀ (y77_s0 : Int32) (v : SU) (H : Heap) (locs : List Loc) (ls : Array Slot), Rg 0 3 x0 → Rg 0 5 x1 → Rg 0 4095 y77_s0 → (x1 = 4 → Rg 0 3 x2) → TyV v → va_P D cls (wM cI b L v) H → va_D A (wM cI b L v) → va_S A s.heap H locs → lv_has ls 6 [(0, .ref (b 0)), (1, .int x0), (2, .int x1), (3, .int x2)] → W p l e (headSpec wsX12_shelf ({ frames := 5, cells := 0, slots := 0, locals := 200 })).room s m ([.ref (b 0), .int x0, .int x1, .int x2]).toArray below meth c H locs 0 0 (MQ below (QF (S := SU) D (wM cI b L v0) (wM cI b L) s.heap.size (fun r u => TyV u ∧ Rg (-11) 1 r ∧ True)) ([.ref (b 0), .int x0, .int x1, .int x2]).toArray s 0 0 (va_A (wM cI b L v0) s.heap.size)) (F0 m 77 ls [.int y77_s0]) := by
    intro y77_s0 v H locs ls g77_l1 g77_l2 g77_s0 x77_0 hV hP hD hS hl
    refine lv_istore (lv' := [(4, .int y77_s0), (0, .ref (b 0)), (1, .int x0), (2, .int x1), (3, .int x2)]) hx hb dX12_shelf_77 hl (by decide) rfl (fun ls hl => ?_)
    refine lv_iload hx hb dX12_shelf_79 (lv_at hl 0 rfl) ?_
    refine lv_if_ne (tgt := 87) hx hb dX12_shelf_81 (by decide) (fun c18033 => ?_) (fun c18033 => ?_)
    · have g18034 : Rg 1 4095 y77_s0 := rg_ne_lo (k := 0) g77_s0 (by decide) c18033 (by decide)
      refine lv_iload_n hx hb dX12_shelf_87 rfl (lv_at hl 3 rfl) ?_
      refine lv_iconst (v := 4) hx hb dX12_shelf_88 (by decide) ?_
      refine lv_icmp_ne (tgt := 105) hx hb dX12_shelf_89 (by decide) (fun c18035 => ?_) (fun c18035 => ?_)
      · exact ct105 y77_s0 v _ _ ls g77_l1 g77_l2 g18034 (by exact x77_0) hV hP hD hS (lv_sub (l' := [(0, .ref (b 0)), (1, .int x0), (2, .int x1), (3, .int x2), (4, .int y77_s0)]) hl [1, 2, 3, 4, 0] rfl)
      · have g18036 : Rg 4 4 x1 := wk_eql g77_l2 (by decide : Rg 4 4 (4 : Int32)) c18035 (by decide)
        have g18037 : Rg 0 3 x2 := x77_0 c18035
        refine lv_aload_n hx hb dX12_shelf_92 rfl (lv_at hl 1 rfl) ?_
        refine va_get (D := D) (ci := 12) (v := .ref (b 9)) (C := RX12) (T := TX12) (N := 24) hx hb hts hin12 hown hK hP 0 rfl rfl 16 (by decide) (hts (.fieldLink RX12 38 "MissedPointsModel" "sort" "[I") (by decide +kernel)) (fun _ h9 => h9) rfl dX12_shelf_93 ?_
        refine lv_iload_n hx hb dX12_shelf_96 rfl (lv_at hl 4 rfl) ?_
        refine wk_ald hx hb hK hP 9 0 rfl rfl (rg_in g18037 (by decide) (by decide)) dX12_shelf_97 hL.2.2.1 (fun r18038 hr18038 => ?_)
        refine lv_iconst (v := (-1)) hx hb dX12_shelf_98 (by decide) ?_
        refine lv_icmp_ne (tgt := 105) hx hb dX12_shelf_99 (by decide) (fun c18039 => ?_) (fun c18039 => ?_)
        · have g18040 : Rg 0 1 r18038 := rg_ne_lo (k := (-1)) hr18038 (by decide) c18039 (by decide)
          exact ct105 y77_s0 v _ _ ls g77_l1 (show Rg 0 5 x1 from rg_w g18036 (by decide) (by decide)) g18034 (by exact x77_0) hV hP hD hS (lv_sub (l' := [(0, .ref (b 0)), (1, .int x0), (2, .int x1), (3, .int x2), (4, .int y77_s0)]) hl [1, 2, 3, 4, 0] rfl)
        · have g18041 : Rg (-1) (-1) r18038 := wk_eql hr18038 (by decide : Rg (-1) (-1) ((-1) : Int32)) c18039 (by decide)
          refine lv_bipush (v := (-11)) hx hb dX12_shelf_102 (by decide) ?_
          subst hAe
          exact W.iret (v := (-11)) hx hb hr (fun t ht hW => ⟨⟨_, v, rfl, ⟨hV, (by decide : Rg (-11) 1 ((-11) : Int32)), trivial⟩, by rw [ht]; exact hP, hD⟩, hS.F ht⟩) hS.2.2 dX12_shelf_104
    · have g18042 : Rg 0 0 y77_s0 := wk_eql g77_s0 (by decide : Rg 0 0 (0 : Int32)) c18033 (by decide)
      refine lv_bipush (v := (-2)) hx hb dX12_shelf_84 (by decide) ?_
      subst hAe
      exact W.iret (v := (-2)) hx hb hr (fun t ht hW => ⟨⟨_, v, rfl, ⟨hV, (by decide : Rg (-11) 1 ((-2) : Int32)), trivial⟩, by rw [ht]; exact hP, hD⟩, hS.F ht⟩) hS.2.2 dX12_shelf_86
  have ct56 : ∀ (v : SU) (H : Heap) (locs : List Loc) (ls : Array Slot), Rg 0 3 x0 → Rg 0 5 x1 → (x1 = 4 → Rg 0 3 x2) → TyV v → va_P D cls (wM cI b L v) H → va_D A (wM cI b L v) → va_S A s.heap H locs → lv_has ls 6 [(0, .ref (b 0)), (1, .int x0), (2, .int x1), (3, .int x2)] → W p l e (headSpec wsX12_shelf ({ frames := 5, cells := 0, slots := 0, locals := 200 })).room s m ([.ref (b 0), .int x0, .int x1, .int x2]).toArray below meth c H locs 0 0 (MQ below (QF (S := SU) D (wM cI b L v0) (wM cI b L) s.heap.size (fun r u => TyV u ∧ Rg (-11) 1 r ∧ True)) ([.ref (b 0), .int x0, .int x1, .int x2]).toArray s 0 0 (va_A (wM cI b L v0) s.heap.size)) (F0 m 56 ls []) := by
    intro v H locs ls g56_l1 g56_l2 x56_0 hV hP hD hS hl
    refine lv_iload_n hx hb dX12_shelf_56 rfl (lv_at hl 2 rfl) ?_
    refine lv_iconst (v := 1) hx hb dX12_shelf_57 (by decide) ?_
    refine lv_iconst (v := 2) hx hb dX12_shelf_58 (by decide) ?_
    refine lz_ss (As := [.int x1, .int 1, .int 2]) (rest := []) ⟨hx, hb, hml, hown, hts⟩ (w_X12_in l D cI cS x1 (1 : Int32) (2 : Int32)) hKK (hP.sub (ws' := []) [] rfl) (va_cwS 3 hts gX12_shelf_X12_in rfl rfl rfl (by decide +kernel) ⟨Nat.le_of_ble_eq_true rfl, Nat.le_of_ble_eq_true rfl⟩) rfl hl.1 rfl (Nat.le_of_ble_eq_true rfl) dX12_shelf_59 ⟨Nat.le_of_ble_eq_true rfl, Nat.le_of_ble_eq_true rfl⟩ (fun r18043 hr18043 => ?_)
    refine lv_if_eq (tgt := 76) hx hb dX12_shelf_62 (by decide) (fun c18044 => ?_) (fun c18044 => ?_)
    · have g18045 : Rg 0 0 r18043 := wk_eql hr18043.1 (by decide : Rg 0 0 (0 : Int32)) c18044 (by decide)
      refine lv_iconst (v := 1) hx hb dX12_shelf_76 (by decide) ?_
      exact ct77 (1 : Int32) v _ _ ls g56_l1 g56_l2 (by decide : Rg 0 4095 (1 : Int32)) (by exact x56_0) hV hP hD hS (lv_sub (l' := [(0, .ref (b 0)), (1, .int x0), (2, .int x1), (3, .int x2)]) hl [0, 1, 2, 3] rfl)
    · have g18046 : Rg 1 2 x1 := wk_in3 g56_l2 (by decide : Rg 1 1 (1 : Int32)) (by decide : Rg 2 2 (2 : Int32)) (hr18043.2 c18044) (by decide)
      have g18047 : Rg 1 1 r18043 := rg_ne_lo (k := 0) hr18043.1 (by decide) c18044 (by decide)
      refine lv_aload_n hx hb dX12_shelf_65 rfl (lv_at hl 0 rfl) ?_
      refine lv_iload_n hx hb dX12_shelf_66 rfl (lv_at hl 2 rfl) ?_
      refine lv_iconst (v := 1) hx hb dX12_shelf_67 (by decide) ?_
      refine wk_isub (e1 := 0) (f := 1) hx hb dX12_shelf_68 g18046 (by decide : Rg 1 1 (1 : Int32)) (by decide) (fun r18048 hr18048 er18048 qr18048 => ?_)
      refine lv_iload_n hx hb dX12_shelf_69 rfl (lv_at hl 3 rfl) ?_
      refine wk_qi (wM cI b L) v (As := [.int r18048, .int x2]) (rest := []) ⟨hx, hb, hml, hown, hts⟩ (w_X12_pieceAt l D cI cS _ b L v hL hV r18048 x2 hr18048) hKK hP hD hS hA 0 (ci := 12) rfl rfl (cwV 2 hts gX12_shelf_X12_pieceAt rfl rfl rfl (by decide +kernel) ⟨Nat.le_of_ble_eq_true rfl, Nat.le_of_ble_eq_true rfl⟩) rfl hl.1 rfl (Nat.le_of_ble_eq_true rfl) dX12_shelf_70 ⟨Nat.le_of_ble_eq_true rfl, Nat.le_of_ble_eq_true rfl⟩ (fun r18049 v H locs hr18049 hP hD hS => ?_)
      have hV := hr18049.1
      refine lv_goto (tgt := 77) hx hb dX12_shelf_73 (by decide) ?_
      exact ct77 r18049 v _ _ ls g56_l1 (show Rg 0 5 x1 from rg_w g18046 (by decide) (by decide)) hr18049.2.1 (by exact x56_0) hV hP hD hS (lv_sub (l' := [(0, .ref (b 0)), (1, .int x0), (2, .int x1), (3, .int x2)]) hl [0, 1, 2, 3] rfl)
  have ct28 : ∀ (v : SU) (H : Heap) (locs : List Loc) (ls : Array Slot), Rg 0 3 x0 → Rg 0 5 x1 → TyV v → va_P D cls (wM cI b L v) H → va_D A (wM cI b L v) → va_S A s.heap H locs → lv_has ls 6 [(0, .ref (b 0)), (1, .int x0), (2, .int x1), (3, .int x2)] → W p l e (headSpec wsX12_shelf ({ frames := 5, cells := 0, slots := 0, locals := 200 })).room s m ([.ref (b 0), .int x0, .int x1, .int x2]).toArray below meth c H locs 0 0 (MQ below (QF (S := SU) D (wM cI b L v0) (wM cI b L) s.heap.size (fun r u => TyV u ∧ Rg (-11) 1 r ∧ True)) ([.ref (b 0), .int x0, .int x1, .int x2]).toArray s 0 0 (va_A (wM cI b L v0) s.heap.size)) (F0 m 28 ls []) := by
    intro v H locs ls g28_l1 g28_l2 hV hP hD hS hl
    refine lv_iload_n hx hb dX12_shelf_28 rfl (lv_at hl 2 rfl) ?_
    refine lv_iconst (v := 3) hx hb dX12_shelf_29 (by decide) ?_
    refine lv_icmp_ne (tgt := 41) hx hb dX12_shelf_30 (by decide) (fun c18050 => ?_) (fun c18050 => ?_)
    · refine lv_iload_n hx hb dX12_shelf_41 rfl (lv_at hl 2 rfl) ?_
      refine lv_iconst (v := 4) hx hb dX12_shelf_42 (by decide) ?_
      refine lv_icmp_ne (tgt := 56) hx hb dX12_shelf_43 (by decide) (fun c18051 => ?_) (fun c18051 => ?_)
      · exact ct56 v _ _ ls g28_l1 g28_l2 (by exact fun h9 => absurd h9 c18051) hV hP hD hS (lv_sub (l' := [(0, .ref (b 0)), (1, .int x0), (2, .int x1), (3, .int x2)]) hl [0, 1, 2, 3] rfl)
      · have g18052 : Rg 4 4 x1 := wk_eql g28_l2 (by decide : Rg 4 4 (4 : Int32)) c18051 (by decide)
        refine lv_iload_n hx hb dX12_shelf_46 rfl (lv_at hl 3 rfl) ?_
        refine lz_ss (As := [.int x2]) (rest := []) ⟨hx, hb, hml, hown, hts⟩ (w_X12_isSheet l D cI cS x2) hKK (hP.sub (ws' := []) [] rfl) (va_cwS 1 hts gX12_shelf_X12_isSheet rfl rfl rfl (by decide +kernel) ⟨Nat.le_of_ble_eq_true rfl, Nat.le_of_ble_eq_true rfl⟩) rfl hl.1 rfl (Nat.le_of_ble_eq_true rfl) dX12_shelf_47 ⟨Nat.le_of_ble_eq_true rfl, Nat.le_of_ble_eq_true rfl⟩ (fun r18053 hr18053 => ?_)
        refine lv_if_ne (tgt := 56) hx hb dX12_shelf_50 (by decide) (fun c18054 => ?_) (fun c18054 => ?_)
        · have g18055 : Rg 0 3 x2 := (hr18053.2 c18054)
          have g18056 : Rg 1 1 r18053 := rg_ne_lo (k := 0) hr18053.1 (by decide) c18054 (by decide)
          exact ct56 v _ _ ls g28_l1 (show Rg 0 5 x1 from rg_w g18052 (by decide) (by decide)) (by exact fun _ => g18055) hV hP hD hS (lv_sub (l' := [(0, .ref (b 0)), (1, .int x0), (2, .int x1), (3, .int x2)]) hl [0, 1, 2, 3] rfl)
        · have g18057 : Rg 0 0 r18053 := wk_eql hr18053.1 (by decide : Rg 0 0 (0 : Int32)) c18054 (by decide)
          refine lv_bipush (v := (-2)) hx hb dX12_shelf_53 (by decide) ?_
          subst hAe
          exact W.iret (v := (-2)) hx hb hr (fun t ht hW => ⟨⟨_, v, rfl, ⟨hV, (by decide : Rg (-11) 1 ((-2) : Int32)), trivial⟩, by rw [ht]; exact hP, hD⟩, hS.F ht⟩) hS.2.2 dX12_shelf_55
    · have g18058 : Rg 3 3 x1 := wk_eql g28_l2 (by decide : Rg 3 3 (3 : Int32)) c18050 (by decide)
      refine lv_aload_n hx hb dX12_shelf_33 rfl (lv_at hl 0 rfl) ?_
      refine lv_iload_n hx hb dX12_shelf_34 rfl (lv_at hl 3 rfl) ?_
      refine wk_sv 0 (As := [.int x2]) (rest := []) ⟨hx, hb, hml, hown, hts⟩ (w_X12_isSet l D cI cS b L v hL hV x2) hKK hP (ci := 12) rfl rfl (cwV 1 hts gX12_shelf_X12_isSet rfl rfl rfl (by decide +kernel) ⟨Nat.le_of_ble_eq_true rfl, Nat.le_of_ble_eq_true rfl⟩) rfl hl.1 rfl (Nat.le_of_ble_eq_true rfl) dX12_shelf_35 ⟨Nat.le_of_ble_eq_true rfl, Nat.le_of_ble_eq_true rfl⟩ (fun r18059 hr18059 => ?_)
      refine lv_if_eq (tgt := 53) hx hb dX12_shelf_38 (by decide) (fun c18060 => ?_) (fun c18060 => ?_)
      · have g18061 : Rg 0 0 r18059 := wk_eql hr18059.1 (by decide : Rg 0 0 (0 : Int32)) c18060 (by decide)
        refine lv_bipush (v := (-2)) hx hb dX12_shelf_53 (by decide) ?_
        subst hAe
        exact W.iret (v := (-2)) hx hb hr (fun t ht hW => ⟨⟨_, v, rfl, ⟨hV, (by decide : Rg (-11) 1 ((-2) : Int32)), trivial⟩, by rw [ht]; exact hP, hD⟩, hS.F ht⟩) hS.2.2 dX12_shelf_55
      · have g18062 : Rg 0 4095 x2 := (hr18059.2 c18060)
        have g18063 : Rg 1 1 r18059 := rg_ne_lo (k := 0) hr18059.1 (by decide) c18060 (by decide)
        refine lv_iload_n hx hb dX12_shelf_41 rfl (lv_at hl 2 rfl) ?_
        refine lv_iconst (v := 4) hx hb dX12_shelf_42 (by decide) ?_
        refine lv_icmp_ne (tgt := 56) hx hb dX12_shelf_43 (by decide) (fun c18064 => ?_) (fun c18064 => ?_)
        · exact ct56 v _ _ ls g28_l1 (show Rg 0 5 x1 from rg_w g18058 (by decide) (by decide)) (by exact fun h9 => absurd h9 c18064) hV hP hD hS (lv_sub (l' := [(0, .ref (b 0)), (1, .int x0), (2, .int x1), (3, .int x2)]) hl [0, 1, 2, 3] rfl)
        · exact absurd c18064 (wk_neq g18058 (by decide : Rg 4 4 (4 : Int32)) (by decide))
  refine lv_iload_n hx hb dX12_shelf_0 rfl (lv_at hl 1 rfl) ?_
  refine lz_ss (As := [.int x0]) (rest := []) ⟨hx, hb, hml, hown, hts⟩ (w_X12_isShelf l D cI cS x0) hKK (hP.sub (ws' := []) [] rfl) (va_cwS 1 hts gX12_shelf_X12_isShelf rfl rfl rfl (by decide +kernel) ⟨Nat.le_of_ble_eq_true rfl, Nat.le_of_ble_eq_true rfl⟩) rfl hl.1 rfl (Nat.le_of_ble_eq_true rfl) dX12_shelf_1 ⟨Nat.le_of_ble_eq_true rfl, Nat.le_of_ble_eq_true rfl⟩ (fun r18065 hr18065 => ?_)
  refine lv_if_eq (tgt := 53) hx hb dX12_shelf_4 (by decide) (fun c18066 => ?_) (fun c18066 => ?_)
  · have g18067 : Rg 0 0 r18065 := wk_eql hr18065.1 (by decide : Rg 0 0 (0 : Int32)) c18066 (by decide)
    refine lv_bipush (v := (-2)) hx hb dX12_shelf_53 (by decide) ?_
    subst hAe
    exact W.iret (v := (-2)) hx hb hr (fun t ht hW => ⟨⟨_, v, rfl, ⟨hV, (by decide : Rg (-11) 1 ((-2) : Int32)), trivial⟩, by rw [ht]; exact hP, hD⟩, hS.F ht⟩) hS.2.2 dX12_shelf_55
  · have g18068 : Rg 0 3 x0 := (hr18065.2 c18066)
    have g18069 : Rg 1 1 r18065 := rg_ne_lo (k := 0) hr18065.1 (by decide) c18066 (by decide)
    refine lv_iload_n hx hb dX12_shelf_7 rfl (lv_at hl 2 rfl) ?_
    refine lv_iconst (v := 0) hx hb dX12_shelf_8 (by decide) ?_
    refine lv_iconst (v := 5) hx hb dX12_shelf_9 (by decide) ?_
    refine lz_ss (As := [.int x1, .int 0, .int 5]) (rest := []) ⟨hx, hb, hml, hown, hts⟩ (w_X12_in l D cI cS x1 (0 : Int32) (5 : Int32)) hKK (hP.sub (ws' := []) [] rfl) (va_cwS 3 hts gX12_shelf_X12_in rfl rfl rfl (by decide +kernel) ⟨Nat.le_of_ble_eq_true rfl, Nat.le_of_ble_eq_true rfl⟩) rfl hl.1 rfl (Nat.le_of_ble_eq_true rfl) dX12_shelf_10 ⟨Nat.le_of_ble_eq_true rfl, Nat.le_of_ble_eq_true rfl⟩ (fun r18070 hr18070 => ?_)
    refine lv_if_eq (tgt := 53) hx hb dX12_shelf_13 (by decide) (fun c18071 => ?_) (fun c18071 => ?_)
    · have g18072 : Rg 0 0 r18070 := wk_eql hr18070.1 (by decide : Rg 0 0 (0 : Int32)) c18071 (by decide)
      refine lv_bipush (v := (-2)) hx hb dX12_shelf_53 (by decide) ?_
      subst hAe
      exact W.iret (v := (-2)) hx hb hr (fun t ht hW => ⟨⟨_, v, rfl, ⟨hV, (by decide : Rg (-11) 1 ((-2) : Int32)), trivial⟩, by rw [ht]; exact hP, hD⟩, hS.F ht⟩) hS.2.2 dX12_shelf_55
    · have g18073 : Rg 0 5 x1 := wk_in3 (rg_any x1) (by decide : Rg 0 0 (0 : Int32)) (by decide : Rg 5 5 (5 : Int32)) (hr18070.2 c18071) (by decide)
      have g18074 : Rg 1 1 r18070 := rg_ne_lo (k := 0) hr18070.1 (by decide) c18071 (by decide)
      refine lv_iload_n hx hb dX12_shelf_16 rfl (lv_at hl 2 rfl) ?_
      refine lv_if_ne (tgt := 28) hx hb dX12_shelf_17 (by decide) (fun c18075 => ?_) (fun c18075 => ?_)
      · have g18076 : Rg 1 5 x1 := rg_ne_lo (k := 0) g18073 (by decide) c18075 (by decide)
        exact ct28 v _ _ ls g18068 (show Rg 0 5 x1 from rg_w g18076 (by decide) (by decide)) hV hP hD hS (lv_sub (l' := [(0, .ref (b 0)), (1, .int x0), (2, .int x1), (3, .int x2)]) hl [0, 1, 2, 3] rfl)
      · have g18077 : Rg 0 0 x1 := wk_eql g18073 (by decide : Rg 0 0 (0 : Int32)) c18075 (by decide)
        refine lv_aload_n hx hb dX12_shelf_20 rfl (lv_at hl 0 rfl) ?_
        refine lv_iload_n hx hb dX12_shelf_21 rfl (lv_at hl 3 rfl) ?_
        refine wk_sv 0 (As := [.int x2]) (rest := []) ⟨hx, hb, hml, hown, hts⟩ (w_X12_isPoint l D cI cS b L v hL hV x2) hKK hP (ci := 12) rfl rfl (cwV 1 hts gX12_shelf_X12_isPoint rfl rfl rfl (by decide +kernel) ⟨Nat.le_of_ble_eq_true rfl, Nat.le_of_ble_eq_true rfl⟩) rfl hl.1 rfl (Nat.le_of_ble_eq_true rfl) dX12_shelf_22 ⟨Nat.le_of_ble_eq_true rfl, Nat.le_of_ble_eq_true rfl⟩ (fun r18078 hr18078 => ?_)
        refine lv_if_eq (tgt := 53) hx hb dX12_shelf_25 (by decide) (fun c18079 => ?_) (fun c18079 => ?_)
        · have g18080 : Rg 0 0 r18078 := wk_eql hr18078.1 (by decide : Rg 0 0 (0 : Int32)) c18079 (by decide)
          refine lv_bipush (v := (-2)) hx hb dX12_shelf_53 (by decide) ?_
          subst hAe
          exact W.iret (v := (-2)) hx hb hr (fun t ht hW => ⟨⟨_, v, rfl, ⟨hV, (by decide : Rg (-11) 1 ((-2) : Int32)), trivial⟩, by rw [ht]; exact hP, hD⟩, hS.F ht⟩) hS.2.2 dX12_shelf_55
        · have g18081 : Rg 0 11 x2 := (hr18078.2 c18079)
          have g18082 : Rg 1 1 r18078 := rg_ne_lo (k := 0) hr18078.1 (by decide) c18079 (by decide)
          exact ct28 v _ _ ls g18068 (show Rg 0 5 x1 from rg_w g18077 (by decide) (by decide)) hV hP hD hS (lv_sub (l' := [(0, .ref (b 0)), (1, .int x0), (2, .int x1), (3, .int x2)]) hl [0, 1, 2, 3] rfl)
set_option maxRecDepth 20000 in
theorem ggX12_wrongAt_X12_in : GoodIn wsX12_wrongAt wsX12_in := goodIn_r _ [9] (by decide +kernel) (by decide +kernel)
set_option maxRecDepth 20000 in
theorem gX12_wrongAt_X12_in : GoodIn wsX12_wrongAt (va_wsS RX12 66 yX12_in wsX12_in) := goodIn_app (goodIn_of _ (by decide +kernel)) ggX12_wrongAt_X12_in
theorem dX12_wrongAt_27 : decode cX12_wrongAt 27 = .ok (.iload_n 2, 1) := by decide +kernel
theorem dX12_wrongAt_28 : decode cX12_wrongAt 28 = .ok (.iconst 0, 1) := by decide +kernel
theorem dX12_wrongAt_29 : decode cX12_wrongAt 29 = .ok (.aload_n 0, 1) := by decide +kernel
theorem dX12_wrongAt_30 : decode cX12_wrongAt 30 = .ok (.getfield 41, 3) := by decide +kernel
theorem dX12_wrongAt_33 : decode cX12_wrongAt 33 = .ok (.iload_n 1, 1) := by decide +kernel
theorem dX12_wrongAt_34 : decode cX12_wrongAt 34 = .ok (.iaload, 1) := by decide +kernel
theorem dX12_wrongAt_35 : decode cX12_wrongAt 35 = .ok (.iconst 1, 1) := by decide +kernel
theorem dX12_wrongAt_36 : decode cX12_wrongAt 36 = .ok (.isub, 1) := by decide +kernel
theorem dX12_wrongAt_37 : decode cX12_wrongAt 37 = .ok (.invokestatic 66, 3) := by decide +kernel
theorem dX12_wrongAt_40 : decode cX12_wrongAt 40 = .ok (.ifCond .eq 7, 3) := by decide +kernel
theorem dX12_wrongAt_43 : decode cX12_wrongAt 43 = .ok (.iconst 0, 1) := by decide +kernel
theorem dX12_wrongAt_44 : decode cX12_wrongAt 44 = .ok (.goto 5, 3) := by decide +kernel
theorem dX12_wrongAt_47 : decode cX12_wrongAt 47 = .ok (.bipush (-12), 2) := by decide +kernel
set_option maxHeartbeats 4000000 in
set_option maxRecDepth 100000 in
theorem w_X12_wrongAt (l : Launch) (D : va_G) (cI cS : ClassId) (b : Nat → Nat) (L v : SU) (hL : TyL L) (hV : TyV v) (x0 x1 : Int32) : Met l yX12_wrongAt wsX12_wrongAt ({ frames := 2, cells := 0, slots := 0, locals := 80 }) (PS D cI cS (wM cI b L v) [.ref (b 0), .int x0, .int x1]) (vp_Si (fun r => Rg (-12) 0 r ∧ (r = 0 → Rg 0 3 x0 ∧ Rg 0 39 x1))) 0 0 (fun _ => False) := by
  refine Met.ofW (cc := cX12_wrongAt) (maxL := 3) (ret := (some .int)) (by decide) rfl ?_
  intro p e s m args below meth c s₁ B hml hv
  obtain ⟨rfl, hP, hKK⟩ := hv
  have hx := B.exec
  have hb := B.bytes
  have hr := B.returns
  have hts := atoms_spec (ws := wsX12_wrongAt) B.pre
  have hown : s.vm.findClass RX12 = some m.cls := findClass_of_methodNamed B.named
  have hlocks := B.notSynchronized
  have hK := hKK.1
  have hin12 : ∀ w ∈ wsX120, w ∈ wsX12_wrongAt := by decide +kernel
  have hl := lv_entry ([.ref (b 0), .int x0, .int x1]) (n := 3) (Nat.le_of_ble_eq_true rfl)
  rw [lg_entry_eq]
  generalize (lg_sl ([.ref (b 0), .int x0, .int x1]) ++ List.replicate (3 - (lg_sl ([.ref (b 0), .int x0, .int x1])).length) Slot.unset).toArray = ls at hl ⊢
  have hl : lv_has ls 3 [(0, .ref (b 0)), (1, .int x0), (2, .int x1)] := hl
  refine lv_iload_n hx hb dX12_wrongAt_0 rfl (lv_at hl 1 rfl) ?_
  refine lz_ss (As := [.int x0]) (rest := []) ⟨hx, hb, hml, hown, hts⟩ (w_X12_isSheet l D cI cS x0) hKK (hP.sub (ws' := []) [] rfl) (va_cwS 1 hts gX12_wrongAt_X12_isSheet rfl rfl rfl (by decide +kernel) ⟨Nat.le_of_ble_eq_true rfl, Nat.le_of_ble_eq_true rfl⟩) rfl hl.1 rfl (Nat.le_of_ble_eq_true rfl) dX12_wrongAt_1 ⟨Nat.le_of_ble_eq_true rfl, Nat.le_of_ble_eq_true rfl⟩ (fun r18099 hr18099 => ?_)
  refine lv_if_ne (tgt := 12) hx hb dX12_wrongAt_4 (by decide) (fun c18100 => ?_) (fun c18100 => ?_)
  · have g18101 : Rg 0 3 x0 := (hr18099.2 c18100)
    have g18102 : Rg 1 1 r18099 := rg_ne_lo (k := 0) hr18099.1 (by decide) c18100 (by decide)
    refine lv_aload_n hx hb dX12_wrongAt_12 rfl (lv_at hl 0 rfl) ?_
    refine va_get (D := D) (ci := 12) (v := .ref (b 9)) (C := RX12) (T := TX12) (N := 24) hx hb hts hin12 hown hK hP 0 rfl rfl 16 (by decide) (hts (.fieldLink RX12 38 "MissedPointsModel" "sort" "[I") (by decide +kernel)) (fun _ h9 => h9) rfl dX12_wrongAt_13 ?_
    refine lv_iload_n hx hb dX12_wrongAt_16 rfl (lv_at hl 1 rfl) ?_
    refine wk_ald hx hb hK hP 9 0 rfl rfl (rg_in g18101 (by decide) (by decide)) dX12_wrongAt_17 hL.2.2.1 (fun r18103 hr18103 => ?_)
    refine lv_iconst (v := (-1)) hx hb dX12_wrongAt_18 (by decide) ?_
    refine lv_icmp_ne (tgt := 27) hx hb dX12_wrongAt_19 (by decide) (fun c18104 => ?_) (fun c18104 => ?_)
    · have g18105 : Rg 0 1 r18103 := rg_ne_lo (k := (-1)) hr18103 (by decide) c18104 (by decide)
      refine lv_iload_n hx hb dX12_wrongAt_27 rfl (lv_at hl 2 rfl) ?_
      refine lv_iconst (v := 0) hx hb dX12_wrongAt_28 (by decide) ?_
      refine lv_aload_n hx hb dX12_wrongAt_29 rfl (lv_at hl 0 rfl) ?_
      refine va_get (D := D) (ci := 12) (v := .ref (b 10)) (C := RX12) (T := TX12) (N := 24) hx hb hts hin12 hown hK hP 0 rfl rfl 17 (by decide) (hts (.fieldLink RX12 41 "MissedPointsModel" "size" "[I") (by decide +kernel)) (fun _ h9 => h9) rfl dX12_wrongAt_30 ?_
      refine lv_iload_n hx hb dX12_wrongAt_33 rfl (lv_at hl 1 rfl) ?_
      refine wk_ald hx hb hK hP 10 0 rfl rfl (rg_in g18101 (by decide) (by decide)) dX12_wrongAt_34 hL.2.2.2.1 (fun r18106 hr18106 => ?_)
      refine lv_iconst (v := 1) hx hb dX12_wrongAt_35 (by decide) ?_
      refine wk_isub (e1 := (-1)) (f := 39) hx hb dX12_wrongAt_36 hr18106 (by decide : Rg 1 1 (1 : Int32)) (by decide) (fun r18107 hr18107 er18107 qr18107 => ?_)
      refine lz_ss (As := [.int x1, .int 0, .int r18107]) (rest := []) ⟨hx, hb, hml, hown, hts⟩ (w_X12_in l D cI cS x1 (0 : Int32) r18107) hKK (hP.sub (ws' := []) [] rfl) (va_cwS 3 hts gX12_wrongAt_X12_in rfl rfl rfl (by decide +kernel) ⟨Nat.le_of_ble_eq_true rfl, Nat.le_of_ble_eq_true rfl⟩) rfl hl.1 rfl (Nat.le_of_ble_eq_true rfl) dX12_wrongAt_37 ⟨Nat.le_of_ble_eq_true rfl, Nat.le_of_ble_eq_true rfl⟩ (fun r18108 hr18108 => ?_)
      refine lv_if_eq (tgt := 47) hx hb dX12_wrongAt_40 (by decide) (fun c18109 => ?_) (fun c18109 => ?_)
      · have g18110 : Rg 0 0 r18108 := wk_eql hr18108.1 (by decide : Rg 0 0 (0 : Int32)) c18109 (by decide)
        refine lv_bipush (v := (-12)) hx hb dX12_wrongAt_47 (by decide) ?_
        exact W.iret (v := (-12)) hx hb hr (fun t ht hW => ⟨_, rfl, ⟨(by decide : Rg (-12) 0 ((-12) : Int32)), fun h9 => absurd h9 (by decide)⟩, ht⟩) (fun q hq => absurd hq List.not_mem_nil) dX12_wrongAt_49
      · have g18111 : Rg 0 39 x1 := wk_in3 (rg_any x1) (by decide : Rg 0 0 (0 : Int32)) hr18107 (hr18108.2 c18109) (by decide)
        have g18112 : Rg 1 1 r18108 := rg_ne_lo (k := 0) hr18108.1 (by decide) c18109 (by decide)
        refine lv_iconst (v := 0) hx hb dX12_wrongAt_43 (by decide) ?_
        refine lv_goto (tgt := 49) hx hb dX12_wrongAt_44 (by decide) ?_
        exact W.iret (v := 0) hx hb hr (fun t ht hW => ⟨_, rfl, ⟨(by decide : Rg (-12) 0 (0 : Int32)), fun _ => ⟨g18101, g18111⟩⟩, ht⟩) (fun q hq => absurd hq List.not_mem_nil) dX12_wrongAt_49
    · have g18113 : Rg (-1) (-1) r18103 := wk_eql hr18103 (by decide : Rg (-1) (-1) ((-1) : Int32)) c18104 (by decide)
      refine lv_bipush (v := (-11)) hx hb dX12_wrongAt_22 (by decide) ?_
      refine lv_goto (tgt := 49) hx hb dX12_wrongAt_24 (by decide) ?_
      exact W.iret (v := (-11)) hx hb hr (fun t ht hW => ⟨_, rfl, ⟨(by decide : Rg (-12) 0 ((-11) : Int32)), fun h9 => absurd h9 (by decide)⟩, ht⟩) (fun q hq => absurd hq List.not_mem_nil) dX12_wrongAt_49
  · have g18114 : Rg 0 0 r18099 := wk_eql hr18099.1 (by decide : Rg 0 0 (0 : Int32)) c18100 (by decide)
    refine lv_bipush (v := (-2)) hx hb dX12_wrongAt_7 (by decide) ?_
    refine lv_goto (tgt := 49) hx hb dX12_wrongAt_9 (by decide) ?_
    exact W.iret (v := (-2)) hx hb hr (fun t ht hW => ⟨_, rfl, ⟨(by decide : Rg (-12) 0 ((-2) : Int32)), fun h9 => absurd h9 (by decide)⟩, ht⟩) (fun q hq => absurd hq List.not_mem_nil) dX12_wrongAt_49
theorem dX12_write_16 : decode cX12_write 16 = .ok (.aload_n 0, 1) := by decide +kernel
theorem dX12_write_17 : decode cX12_write 17 = .ok (.getfield 44, 3) := by decide +kernel
theorem dX12_write_20 : decode cX12_write 20 = .ok (.bipush 40, 2) := by decide +kernel
theorem dX12_write_22 : decode cX12_write 22 = .ok (.iload_n 1, 1) := by decide +kernel
theorem dX12_write_23 : decode cX12_write 23 = .ok (.imul, 1) := by decide +kernel
theorem dX12_write_24 : decode cX12_write 24 = .ok (.iload_n 2, 1) := by decide +kernel
theorem dX12_write_25 : decode cX12_write 25 = .ok (.iadd, 1) := by decide +kernel
theorem dX12_write_26 : decode cX12_write 26 = .ok (.aload_n 0, 1) := by decide +kernel
theorem dX12_write_27 : decode cX12_write 27 = .ok (.getfield 38, 3) := by decide +kernel
theorem dX12_write_30 : decode cX12_write 30 = .ok (.iload_n 1, 1) := by decide +kernel
theorem dX12_write_31 : decode cX12_write 31 = .ok (.iaload, 1) := by decide +kernel
theorem dX12_write_32 : decode cX12_write 32 = .ok (.ifCond .ne 8, 3) := by decide +kernel
theorem dX12_write_35 : decode cX12_write 35 = .ok (.iload_n 3, 1) := by decide +kernel
theorem dX12_write_36 : decode cX12_write 36 = .ok (.i2s, 1) := by decide +kernel
theorem dX12_write_37 : decode cX12_write 37 = .ok (.goto 4, 3) := by decide +kernel
theorem dX12_write_40 : decode cX12_write 40 = .ok (.iload_n 3, 1) := by decide +kernel
theorem dX12_write_41 : decode cX12_write 41 = .ok (.iastore, 1) := by decide +kernel
theorem dX12_write_42 : decode cX12_write 42 = .ok (.iconst 1, 1) := by decide +kernel
theorem dX12_write_43 : decode cX12_write 43 = .ok (.ireturn, 1) := by decide +kernel
set_option maxHeartbeats 4000000 in
set_option maxRecDepth 100000 in
theorem w_X12_write (l : Launch) (D : va_G) (cI cS : ClassId) (sz : Nat) (b : Nat → Nat) (L v0 : SU) (hL : TyL L) (hV : TyV v0) (x0 x1 x2 : Int32) : Met l yX12_write wsX12_write ({ frames := 3, cells := 0, slots := 0, locals := 120 }) (PQ D cI cS (wM cI b L v0) sz [.ref (b 0), .int x0, .int x1, .int x2]) (QF (S := SU) D (wM cI b L v0) (wM cI b L) sz (fun r u => TyV u ∧ Rg (-12) 1 r ∧ True)) 0 0 (va_A (wM cI b L v0) sz) := by
  refine Met.ofW (cc := cX12_write) (maxL := 5) (ret := (some .int)) (by decide) rfl ?_
  intro p e s m args below meth c s₁ B hml hv
  obtain ⟨rfl, hsz, hP, hKK, hD0⟩ := hv
  have hx := B.exec
  have hb := B.bytes
  have hr := B.returns
  have hts := atoms_spec (ws := wsX12_write) B.pre
  have hown : s.vm.findClass RX12 = some m.cls := findClass_of_methodNamed B.named
  have hlocks := B.notSynchronized
  have hK := hKK.1
  have hin12 : ∀ w ∈ wsX120, w ∈ wsX12_write := by decide +kernel
  subst hsz
  have hD := hD0.self (sz := s.heap.size)
  obtain ⟨A, hAe⟩ : ∃ A, A = va_A (wM cI b L v0) s.heap.size := ⟨_, rfl⟩
  rw [← hAe] at hD
  have hA : ∀ q : Nat, s.heap.size ≤ q → A q := fun q h => by rw [hAe]; exact Or.inr h
  have hS : va_S A s.heap s.heap [] := va_S.rf
  have hl := lv_entry ([.ref (b 0), .int x0, .int x1, .int x2]) (n := 5) (Nat.le_of_ble_eq_true rfl)
  rw [lg_entry_eq]
  generalize (lg_sl ([.ref (b 0), .int x0, .int x1, .int x2]) ++ List.replicate (5 - (lg_sl ([.ref (b 0), .int x0, .int x1, .int x2])).length) Slot.unset).toArray = ls at hl ⊢
  have hl : lv_has ls 5 [(0, .ref (b 0)), (1, .int x0), (2, .int x1), (3, .int x2)] := hl
  obtain ⟨v, hv9⟩ : ∃ v : SU, v = v0 := ⟨_, rfl⟩
  rw [← hv9] at hP hD hV
  refine lv_aload_n hx hb dX12_write_0 rfl (lv_at hl 0 rfl) ?_
  refine lv_iload_n hx hb dX12_write_1 rfl (lv_at hl 1 rfl) ?_
  refine lv_iload_n hx hb dX12_write_2 rfl (lv_at hl 2 rfl) ?_
  refine wk_sv 0 (As := [.int x0, .int x1]) (rest := []) ⟨hx, hb, hml, hown, hts⟩ (w_X12_wrongAt l D cI cS b L v hL hV x0 x1) hKK hP (ci := 12) rfl rfl (cwV 2 hts gX12_write_X12_wrongAt rfl rfl rfl (by decide +kernel) ⟨Nat.le_of_ble_eq_true rfl, Nat.le_of_ble_eq_true rfl⟩) rfl hl.1 rfl (Nat.le_of_ble_eq_true rfl) dX12_write_3 ⟨Nat.le_of_ble_eq_true rfl, Nat.le_of_ble_eq_true rfl⟩ (fun r18130 hr18130 => ?_)
  refine lv_istore (lv' := [(4, .int r18130), (0, .ref (b 0)), (1, .int x0), (2, .int x1), (3, .int x2)]) hx hb dX12_write_6 hl (by decide) rfl (fun ls hl => ?_)
  refine lv_iload hx hb dX12_write_8 (lv_at hl 0 rfl) ?_
  refine lv_if_eq (tgt := 16) hx hb dX12_write_10 (by decide) (fun c18131 => ?_) (fun c18131 => ?_)
  · have g18132 : Rg 0 3 x0 := (hr18130.2 c18131).1
    have g18133 : Rg 0 39 x1 := (hr18130.2 c18131).2
    have g18134 : Rg 0 0 r18130 := wk_eql hr18130.1 (by decide : Rg 0 0 (0 : Int32)) c18131 (by decide)
    refine lv_aload_n hx hb dX12_write_16 rfl (lv_at hl 1 rfl) ?_
    refine va_get (D := D) (ci := 12) (v := .ref (b 11)) (C := RX12) (T := TX12) (N := 24) hx hb hts hin12 hown hK hP 0 rfl rfl 18 (by decide) (hts (.fieldLink RX12 44 "MissedPointsModel" "items" "[I") (by decide +kernel)) (fun _ h9 => h9) rfl dX12_write_17 ?_
    refine lv_bipush (v := 40) hx hb dX12_write_20 (by decide) ?_
    refine lv_iload_n hx hb dX12_write_22 rfl (lv_at hl 2 rfl) ?_
    refine wk_imul (f := 120) hx hb dX12_write_23 (by decide : Rg 0 40 (40 : Int32)) g18132 (by decide) (fun r18135 hr18135 er18135 qr18135 => ?_)
    refine lv_iload_n hx hb dX12_write_24 rfl (lv_at hl 3 rfl) ?_
    refine wk_iadd (e1 := 0) (f := 159) hx hb dX12_write_25 hr18135 g18133 (by decide) (fun r18136 hr18136 er18136 qr18136 => ?_)
    refine lv_aload_n hx hb dX12_write_26 rfl (lv_at hl 1 rfl) ?_
    refine va_get (D := D) (ci := 12) (v := .ref (b 9)) (C := RX12) (T := TX12) (N := 24) hx hb hts hin12 hown hK hP 0 rfl rfl 16 (by decide) (hts (.fieldLink RX12 38 "MissedPointsModel" "sort" "[I") (by decide +kernel)) (fun _ h9 => h9) rfl dX12_write_27 ?_
    refine lv_iload_n hx hb dX12_write_30 rfl (lv_at hl 2 rfl) ?_
    refine wk_ald hx hb hK hP 9 0 rfl rfl (rg_in g18132 (by decide) (by decide)) dX12_write_31 hL.2.2.1 (fun r18137 hr18137 => ?_)
    refine lv_if_ne (tgt := 40) hx hb dX12_write_32 (by decide) (fun c18138 => ?_) (fun c18138 => ?_)
    · refine lv_iload_n hx hb dX12_write_40 rfl (lv_at hl 4 rfl) ?_
      refine ms_11 hx hb hK hP hD hS hV rfl (rg_in hr18136 (by decide) (by decide)) dX12_write_41 (fun v H locs hV ev18139 hP hD hS => ?_)
      refine lv_iconst (v := 1) hx hb dX12_write_42 (by decide) ?_
      subst hAe
      exact W.iret (v := 1) hx hb hr (fun t ht hW => ⟨⟨_, v, rfl, ⟨hV, (by decide : Rg (-12) 1 (1 : Int32)), trivial⟩, by rw [ht]; exact hP, hD⟩, hS.F ht⟩) hS.2.2 dX12_write_43
    · have g18140 : Rg 0 0 r18137 := wk_eql hr18137 (by decide : Rg 0 0 (0 : Int32)) c18138 (by decide)
      refine lv_iload_n hx hb dX12_write_35 rfl (lv_at hl 4 rfl) ?_
      refine lv_i2s hx hb dX12_write_36 rfl ?_
      refine wk_any (fun r18142 => ?_)
      refine lv_goto (tgt := 41) hx hb dX12_write_37 (by decide) ?_
      refine ms_11 hx hb hK hP hD hS hV rfl (rg_in hr18136 (by decide) (by decide)) dX12_write_41 (fun v H locs hV ev18143 hP hD hS => ?_)
      refine lv_iconst (v := 1) hx hb dX12_write_42 (by decide) ?_
      subst hAe
      exact W.iret (v := 1) hx hb hr (fun t ht hW => ⟨⟨_, v, rfl, ⟨hV, (by decide : Rg (-12) 1 (1 : Int32)), trivial⟩, by rw [ht]; exact hP, hD⟩, hS.F ht⟩) hS.2.2 dX12_write_43
  · have g18144 : Rg (-12) (-1) r18130 := rg_ne_hi (k := 0) hr18130.1 (by decide) c18131 (by decide)
    refine lv_iload hx hb dX12_write_13 (lv_at hl 0 rfl) ?_
    subst hAe
    exact W.iret (v := r18130) hx hb hr (fun t ht hW => ⟨⟨_, v, rfl, ⟨hV, (show Rg (-12) 1 r18130 from rg_w g18144 (by decide) (by decide)), trivial⟩, by rw [ht]; exact hP, hD⟩, hS.F ht⟩) hS.2.2 dX12_write_15
theorem dX12_item_15 : decode cX12_item 15 = .ok (.aload_n 0, 1) := by decide +kernel
theorem dX12_item_16 : decode cX12_item 16 = .ok (.getfield 44, 3) := by decide +kernel
theorem dX12_item_19 : decode cX12_item 19 = .ok (.bipush 40, 2) := by decide +kernel
theorem dX12_item_21 : decode cX12_item 21 = .ok (.iload_n 1, 1) := by decide +kernel
theorem dX12_item_22 : decode cX12_item 22 = .ok (.imul, 1) := by decide +kernel
theorem dX12_item_23 : decode cX12_item 23 = .ok (.iload_n 2, 1) := by decide +kernel
theorem dX12_item_24 : decode cX12_item 24 = .ok (.iadd, 1) := by decide +kernel
theorem dX12_item_25 : decode cX12_item 25 = .ok (.iaload, 1) := by decide +kernel
set_option maxHeartbeats 4000000 in
set_option maxRecDepth 100000 in
theorem w_X12_item (l : Launch) (D : va_G) (cI cS : ClassId) (b : Nat → Nat) (L v : SU) (hL : TyL L) (hV : TyV v) (x0 x1 : Int32) : Met l yX12_item wsX12_item ({ frames := 3, cells := 0, slots := 0, locals := 120 }) (PS D cI cS (wM cI b L v) [.ref (b 0), .int x0, .int x1]) (vp_Si (fun r => Rg (-2147483648) 2147483647 r ∧ True)) 0 0 (fun _ => False) := by
  refine Met.ofW (cc := cX12_item) (maxL := 4) (ret := (some .int)) (by decide) rfl ?_
  intro p e s m args below meth c s₁ B hml hv
  obtain ⟨rfl, hP, hKK⟩ := hv
  have hx := B.exec
  have hb := B.bytes
  have hr := B.returns
  have hts := atoms_spec (ws := wsX12_item) B.pre
  have hown : s.vm.findClass RX12 = some m.cls := findClass_of_methodNamed B.named
  have hlocks := B.notSynchronized
  have hK := hKK.1
  have hin12 : ∀ w ∈ wsX120, w ∈ wsX12_item := by decide +kernel
  have hl := lv_entry ([.ref (b 0), .int x0, .int x1]) (n := 4) (Nat.le_of_ble_eq_true rfl)
  rw [lg_entry_eq]
  generalize (lg_sl ([.ref (b 0), .int x0, .int x1]) ++ List.replicate (4 - (lg_sl ([.ref (b 0), .int x0, .int x1])).length) Slot.unset).toArray = ls at hl ⊢
  have hl : lv_has ls 4 [(0, .ref (b 0)), (1, .int x0), (2, .int x1)] := hl
  refine lv_aload_n hx hb dX12_item_0 rfl (lv_at hl 0 rfl) ?_
  refine lv_iload_n hx hb dX12_item_1 rfl (lv_at hl 1 rfl) ?_
  refine lv_iload_n hx hb dX12_item_2 rfl (lv_at hl 2 rfl) ?_
  refine wk_sv 0 (As := [.int x0, .int x1]) (rest := []) ⟨hx, hb, hml, hown, hts⟩ (w_X12_wrongAt l D cI cS b L v hL hV x0 x1) hKK hP (ci := 12) rfl rfl (cwV 2 hts gX12_item_X12_wrongAt rfl rfl rfl (by decide +kernel) ⟨Nat.le_of_ble_eq_true rfl, Nat.le_of_ble_eq_true rfl⟩) rfl hl.1 rfl (Nat.le_of_ble_eq_true rfl) dX12_item_3 ⟨Nat.le_of_ble_eq_true rfl, Nat.le_of_ble_eq_true rfl⟩ (fun r18154 hr18154 => ?_)
  refine lv_istore_n (lv' := [(3, .int r18154), (0, .ref (b 0)), (1, .int x0), (2, .int x1)]) hx hb dX12_item_6 rfl hl (by decide) rfl (fun ls hl => ?_)
  refine lv_iload_n hx hb dX12_item_7 rfl (lv_at hl 0 rfl) ?_
  refine lv_if_eq (tgt := 15) hx hb dX12_item_8 (by decide) (fun c18155 => ?_) (fun c18155 => ?_)
  · have g18156 : Rg 0 3 x0 := (hr18154.2 c18155).1
    have g18157 : Rg 0 39 x1 := (hr18154.2 c18155).2
    have g18158 : Rg 0 0 r18154 := wk_eql hr18154.1 (by decide : Rg 0 0 (0 : Int32)) c18155 (by decide)
    refine lv_aload_n hx hb dX12_item_15 rfl (lv_at hl 1 rfl) ?_
    refine va_get (D := D) (ci := 12) (v := .ref (b 11)) (C := RX12) (T := TX12) (N := 24) hx hb hts hin12 hown hK hP 0 rfl rfl 18 (by decide) (hts (.fieldLink RX12 44 "MissedPointsModel" "items" "[I") (by decide +kernel)) (fun _ h9 => h9) rfl dX12_item_16 ?_
    refine lv_bipush (v := 40) hx hb dX12_item_19 (by decide) ?_
    refine lv_iload_n hx hb dX12_item_21 rfl (lv_at hl 2 rfl) ?_
    refine wk_imul (f := 120) hx hb dX12_item_22 (by decide : Rg 0 40 (40 : Int32)) g18156 (by decide) (fun r18159 hr18159 er18159 qr18159 => ?_)
    refine lv_iload_n hx hb dX12_item_23 rfl (lv_at hl 3 rfl) ?_
    refine wk_iadd (e1 := 0) (f := 159) hx hb dX12_item_24 hr18159 g18157 (by decide) (fun r18160 hr18160 er18160 qr18160 => ?_)
    refine wk_aldA hx hb hK hP 11 0 rfl rfl (rg_in hr18160 (by decide) (by decide)) dX12_item_25 (fun r18161 => ?_)
    exact W.iret (v := r18161) hx hb hr (fun t ht hW => ⟨_, rfl, ⟨(rg_any r18161), trivial⟩, ht⟩) (fun q hq => absurd hq List.not_mem_nil) dX12_item_26
  · have g18162 : Rg (-12) (-1) r18154 := rg_ne_hi (k := 0) hr18154.1 (by decide) c18155 (by decide)
    refine lv_iload_n hx hb dX12_item_11 rfl (lv_at hl 0 rfl) ?_
    refine lv_goto (tgt := 26) hx hb dX12_item_12 (by decide) ?_
    exact W.iret (v := r18154) hx hb hr (fun t ht hW => ⟨_, rfl, ⟨(rg_any r18154), trivial⟩, ht⟩) (fun q hq => absurd hq List.not_mem_nil) dX12_item_26
theorem dX12_copy_101 : decode cX12_copy 101 = .ok (.ireturn, 1) := by decide +kernel
theorem dX12_copy_102 : decode cX12_copy 102 = .ok (.bipush 40, 2) := by decide +kernel
theorem dX12_copy_104 : decode cX12_copy 104 = .ok (.iload_n 1, 1) := by decide +kernel
theorem dX12_copy_105 : decode cX12_copy 105 = .ok (.imul, 1) := by decide +kernel
theorem dX12_copy_106 : decode cX12_copy 106 = .ok (.iload_n 2, 1) := by decide +kernel
theorem dX12_copy_107 : decode cX12_copy 107 = .ok (.iadd, 1) := by decide +kernel
theorem dX12_copy_108 : decode cX12_copy 108 = .ok (.bipush 40, 2) := by decide +kernel
theorem dX12_copy_110 : decode cX12_copy 110 = .ok (.iload_n 3, 1) := by decide +kernel
theorem dX12_copy_111 : decode cX12_copy 111 = .ok (.imul, 1) := by decide +kernel
theorem dX12_copy_112 : decode cX12_copy 112 = .ok (.iload 4, 2) := by decide +kernel
theorem dX12_copy_114 : decode cX12_copy 114 = .ok (.iadd, 1) := by decide +kernel
theorem dX12_copy_115 : decode cX12_copy 115 = .ok (.if_icmp .ge 7, 3) := by decide +kernel
theorem dX12_copy_118 : decode cX12_copy 118 = .ok (.iconst 1, 1) := by decide +kernel
theorem dX12_copy_119 : decode cX12_copy 119 = .ok (.goto 4, 3) := by decide +kernel
theorem dX12_copy_122 : decode cX12_copy 122 = .ok (.iconst 0, 1) := by decide +kernel
theorem dX12_copy_123 : decode cX12_copy 123 = .ok (.istore 6, 2) := by decide +kernel
theorem dX12_copy_125 : decode cX12_copy 125 = .ok (.iconst 0, 1) := by decide +kernel
theorem dX12_copy_126 : decode cX12_copy 126 = .ok (.istore 7, 2) := by decide +kernel
theorem dX12_copy_128 : decode cX12_copy 128 = .ok (.iload 7, 2) := by decide +kernel
theorem dX12_copy_130 : decode cX12_copy 130 = .ok (.iload 5, 2) := by decide +kernel
theorem dX12_copy_132 : decode cX12_copy 132 = .ok (.if_icmp .ge 57, 3) := by decide +kernel
theorem dX12_copy_135 : decode cX12_copy 135 = .ok (.iload 6, 2) := by decide +kernel
theorem dX12_copy_137 : decode cX12_copy 137 = .ok (.ifCond .eq 13, 3) := by decide +kernel
theorem dX12_copy_140 : decode cX12_copy 140 = .ok (.iload 5, 2) := by decide +kernel
theorem dX12_copy_142 : decode cX12_copy 142 = .ok (.iconst 1, 1) := by decide +kernel
theorem dX12_copy_143 : decode cX12_copy 143 = .ok (.isub, 1) := by decide +kernel
theorem dX12_copy_144 : decode cX12_copy 144 = .ok (.iload 7, 2) := by decide +kernel
theorem dX12_copy_146 : decode cX12_copy 146 = .ok (.isub, 1) := by decide +kernel
theorem dX12_copy_147 : decode cX12_copy 147 = .ok (.goto 5, 3) := by decide +kernel
theorem dX12_copy_150 : decode cX12_copy 150 = .ok (.iload 7, 2) := by decide +kernel
theorem dX12_copy_152 : decode cX12_copy 152 = .ok (.istore 8, 2) := by decide +kernel
theorem dX12_copy_154 : decode cX12_copy 154 = .ok (.aload_n 0, 1) := by decide +kernel
theorem dX12_copy_155 : decode cX12_copy 155 = .ok (.getfield 44, 3) := by decide +kernel
theorem dX12_copy_158 : decode cX12_copy 158 = .ok (.bipush 40, 2) := by decide +kernel
theorem dX12_copy_160 : decode cX12_copy 160 = .ok (.iload_n 3, 1) := by decide +kernel
theorem dX12_copy_161 : decode cX12_copy 161 = .ok (.imul, 1) := by decide +kernel
theorem dX12_copy_162 : decode cX12_copy 162 = .ok (.iload 4, 2) := by decide +kernel
theorem dX12_copy_164 : decode cX12_copy 164 = .ok (.iadd, 1) := by decide +kernel
theorem dX12_copy_165 : decode cX12_copy 165 = .ok (.iload 8, 2) := by decide +kernel
theorem dX12_copy_167 : decode cX12_copy 167 = .ok (.iadd, 1) := by decide +kernel
theorem dX12_copy_168 : decode cX12_copy 168 = .ok (.aload_n 0, 1) := by decide +kernel
theorem dX12_copy_169 : decode cX12_copy 169 = .ok (.getfield 44, 3) := by decide +kernel
theorem dX12_copy_172 : decode cX12_copy 172 = .ok (.bipush 40, 2) := by decide +kernel
theorem dX12_copy_174 : decode cX12_copy 174 = .ok (.iload_n 1, 1) := by decide +kernel
theorem dX12_copy_175 : decode cX12_copy 175 = .ok (.imul, 1) := by decide +kernel
theorem dX12_copy_176 : decode cX12_copy 176 = .ok (.iload_n 2, 1) := by decide +kernel
theorem dX12_copy_177 : decode cX12_copy 177 = .ok (.iadd, 1) := by decide +kernel
theorem dX12_copy_178 : decode cX12_copy 178 = .ok (.iload 8, 2) := by decide +kernel
theorem dX12_copy_180 : decode cX12_copy 180 = .ok (.iadd, 1) := by decide +kernel
theorem dX12_copy_181 : decode cX12_copy 181 = .ok (.iaload, 1) := by decide +kernel
theorem dX12_copy_182 : decode cX12_copy 182 = .ok (.iastore, 1) := by decide +kernel
theorem dX12_copy_183 : decode cX12_copy 183 = .ok (.iinc 7 1, 3) := by decide +kernel
theorem dX12_copy_186 : decode cX12_copy 186 = .ok (.goto (-58), 3) := by decide +kernel
theorem dX12_copy_189 : decode cX12_copy 189 = .ok (.iload 5, 2) := by decide +kernel
theorem dX12_copy_191 : decode cX12_copy 191 = .ok (.ireturn, 1) := by decide +kernel
theorem dX12_copy_27 : decode cX12_copy 27 = .ok (.aload_n 0, 1) := by decide +kernel
theorem dX12_copy_28 : decode cX12_copy 28 = .ok (.getfield 38, 3) := by decide +kernel
theorem dX12_copy_31 : decode cX12_copy 31 = .ok (.iload_n 3, 1) := by decide +kernel
theorem dX12_copy_32 : decode cX12_copy 32 = .ok (.iaload, 1) := by decide +kernel
theorem dX12_copy_33 : decode cX12_copy 33 = .ok (.iconst (-1), 1) := by decide +kernel
theorem dX12_copy_34 : decode cX12_copy 34 = .ok (.if_icmp .ne 6, 3) := by decide +kernel
theorem dX12_copy_40 : decode cX12_copy 40 = .ok (.aload_n 0, 1) := by decide +kernel
theorem dX12_copy_41 : decode cX12_copy 41 = .ok (.getfield 38, 3) := by decide +kernel
theorem dX12_copy_44 : decode cX12_copy 44 = .ok (.iload_n 1, 1) := by decide +kernel
theorem dX12_copy_45 : decode cX12_copy 45 = .ok (.iaload, 1) := by decide +kernel
theorem dX12_copy_46 : decode cX12_copy 46 = .ok (.aload_n 0, 1) := by decide +kernel
theorem dX12_copy_47 : decode cX12_copy 47 = .ok (.getfield 38, 3) := by decide +kernel
theorem dX12_copy_50 : decode cX12_copy 50 = .ok (.iload_n 3, 1) := by decide +kernel
theorem dX12_copy_51 : decode cX12_copy 51 = .ok (.iaload, 1) := by decide +kernel
theorem dX12_copy_52 : decode cX12_copy 52 = .ok (.if_icmp .eq 6, 3) := by decide +kernel
theorem dX12_copy_55 : decode cX12_copy 55 = .ok (.bipush (-13), 2) := by decide +kernel
theorem dX12_copy_57 : decode cX12_copy 57 = .ok (.ireturn, 1) := by decide +kernel
theorem dX12_copy_58 : decode cX12_copy 58 = .ok (.iload 5, 2) := by decide +kernel
theorem dX12_copy_60 : decode cX12_copy 60 = .ok (.ifCond .lt 39, 3) := by decide +kernel
theorem dX12_copy_63 : decode cX12_copy 63 = .ok (.iload_n 2, 1) := by decide +kernel
theorem dX12_copy_64 : decode cX12_copy 64 = .ok (.ifCond .lt 35, 3) := by decide +kernel
theorem dX12_copy_67 : decode cX12_copy 67 = .ok (.iload 4, 2) := by decide +kernel
theorem dX12_copy_69 : decode cX12_copy 69 = .ok (.ifCond .lt 30, 3) := by decide +kernel
theorem dX12_copy_72 : decode cX12_copy 72 = .ok (.iload_n 2, 1) := by decide +kernel
theorem dX12_copy_73 : decode cX12_copy 73 = .ok (.aload_n 0, 1) := by decide +kernel
theorem dX12_copy_74 : decode cX12_copy 74 = .ok (.getfield 41, 3) := by decide +kernel
theorem dX12_copy_77 : decode cX12_copy 77 = .ok (.iload_n 1, 1) := by decide +kernel
theorem dX12_copy_78 : decode cX12_copy 78 = .ok (.iaload, 1) := by decide +kernel
theorem dX12_copy_79 : decode cX12_copy 79 = .ok (.iload 5, 2) := by decide +kernel
theorem dX12_copy_81 : decode cX12_copy 81 = .ok (.isub, 1) := by decide +kernel
theorem dX12_copy_82 : decode cX12_copy 82 = .ok (.if_icmp .gt 17, 3) := by decide +kernel
theorem dX12_copy_85 : decode cX12_copy 85 = .ok (.iload 4, 2) := by decide +kernel
theorem dX12_copy_87 : decode cX12_copy 87 = .ok (.aload_n 0, 1) := by decide +kernel
theorem dX12_copy_88 : decode cX12_copy 88 = .ok (.getfield 41, 3) := by decide +kernel
theorem dX12_copy_91 : decode cX12_copy 91 = .ok (.iload_n 3, 1) := by decide +kernel
theorem dX12_copy_92 : decode cX12_copy 92 = .ok (.iaload, 1) := by decide +kernel
theorem dX12_copy_93 : decode cX12_copy 93 = .ok (.iload 5, 2) := by decide +kernel
theorem dX12_copy_95 : decode cX12_copy 95 = .ok (.isub, 1) := by decide +kernel
theorem dX12_copy_96 : decode cX12_copy 96 = .ok (.if_icmp .le 6, 3) := by decide +kernel
theorem dX12_copy_99 : decode cX12_copy 99 = .ok (.bipush (-12), 2) := by decide +kernel
set_option maxHeartbeats 4000000 in
set_option maxRecDepth 100000 in
theorem w_X12_copy (l : Launch) (D : va_G) (cI cS : ClassId) (sz : Nat) (b : Nat → Nat) (L v0 : SU) (hL : TyL L) (hV : TyV v0) (x0 x1 x2 x3 x4 : Int32) : Met l yX12_copy wsX12_copy ({ frames := 2, cells := 0, slots := 0, locals := 80 }) (PQ D cI cS (wM cI b L v0) sz [.ref (b 0), .int x0, .int x1, .int x2, .int x3, .int x4]) (QF (S := SU) D (wM cI b L v0) (wM cI b L) sz (fun r u => TyV u ∧ Rg (-13) 40 r ∧ True)) 0 0 (va_A (wM cI b L v0) sz) := by
  refine Met.ofW (cc := cX12_copy) (maxL := 9) (ret := (some .int)) (by decide) rfl ?_
  intro p e s m args below meth c s₁ B hml hv
  obtain ⟨rfl, hsz, hP, hKK, hD0⟩ := hv
  have hx := B.exec
  have hb := B.bytes
  have hr := B.returns
  have hts := atoms_spec (ws := wsX12_copy) B.pre
  have hown : s.vm.findClass RX12 = some m.cls := findClass_of_methodNamed B.named
  have hlocks := B.notSynchronized
  have hK := hKK.1
  have hin12 : ∀ w ∈ wsX120, w ∈ wsX12_copy := by decide +kernel
  subst hsz
  have hD := hD0.self (sz := s.heap.size)
  obtain ⟨A, hAe⟩ : ∃ A, A = va_A (wM cI b L v0) s.heap.size := ⟨_, rfl⟩
  rw [← hAe] at hD
  have hA : ∀ q : Nat, s.heap.size ≤ q → A q := fun q h => by rw [hAe]; exact Or.inr h
  have hS : va_S A s.heap s.heap [] := va_S.rf
  have hl := lv_entry ([.ref (b 0), .int x0, .int x1, .int x2, .int x3, .int x4]) (n := 9) (Nat.le_of_ble_eq_true rfl)
  rw [lg_entry_eq]
  generalize (lg_sl ([.ref (b 0), .int x0, .int x1, .int x2, .int x3, .int x4]) ++ List.replicate (9 - (lg_sl ([.ref (b 0), .int x0, .int x1, .int x2, .int x3, .int x4])).length) Slot.unset).toArray = ls at hl ⊢
  have hl : lv_has ls 9 [(0, .ref (b 0)), (1, .int x0), (2, .int x1), (3, .int x2), (4, .int x3), (5, .int x4)] := hl
  obtain ⟨v, hv9⟩ : ∃ v : SU, v = v0 := ⟨_, rfl⟩
  rw [← hv9] at hP hD hV
  have lp128 : ∀ (n128 : Nat) (y128_l6 y128_l7 : Int32) (v : SU) (H : Heap) (locs : List Loc) (ls : Array Slot), Rg 0 3 x0 → Rg 0 40 x1 → Rg 0 3 x2 → Rg 0 40 x3 → Rg 0 40 x4 → Rg 0 1 y128_l6 → Rg 0 40 y128_l7 → (x1.toInt + x4.toInt ≤ 40 ∧ x3.toInt + x4.toInt ≤ 40) → TyV v → va_P D cls (wM cI b L v) H → va_D A (wM cI b L v) → va_S A s.heap H locs → lv_has ls 9 [(0, .ref (b 0)), (1, .int x0), (2, .int x1), (3, .int x2), (4, .int x3), (5, .int x4), (6, .int y128_l6), (7, .int y128_l7)] → 40 - y128_l7.toInt < (n128 : Int) → W p l e (headSpec wsX12_copy ({ frames := 2, cells := 0, slots := 0, locals := 80 })).room s m ([.ref (b 0), .int x0, .int x1, .int x2, .int x3, .int x4]).toArray below meth c H locs 0 0 (MQ below (QF (S := SU) D (wM cI b L v0) (wM cI b L) s.heap.size (fun r u => TyV u ∧ Rg (-13) 40 r ∧ True)) ([.ref (b 0), .int x0, .int x1, .int x2, .int x3, .int x4]).toArray s 0 0 (va_A (wM cI b L v0) s.heap.size)) (F0 m 128 ls []) := by
    intro n128
    induction n128 with
    | zero =>
      intro y128_l6 y128_l7 v H locs ls g128_l1 g128_l2 g128_l3 g128_l4 g128_l5 g128_l6 g128_l7 x128_0 hV hP hD hS hl hm128
      exact absurd rfl (me_z g128_l7 hm128)
    | succ n128 ih128 =>
      intro y128_l6 y128_l7 v H locs ls g128_l1 g128_l2 g128_l3 g128_l4 g128_l5 g128_l6 g128_l7 x128_0 hV hP hD hS hl hm128
      have ct152 : ∀ (y152_s0 : Int32) (v : SU) (H : Heap) (locs : List Loc) (ls : Array Slot), Rg 0 3 x0 → Rg 0 40 x1 → Rg 0 3 x2 → Rg 0 40 x3 → Rg 1 40 x4 → Rg 0 1 y128_l6 → Rg 0 39 y128_l7 → Rg (-2147483648) 39 y152_s0 → (x1.toInt + x4.toInt ≤ 40 ∧ x3.toInt + x4.toInt ≤ 40) → (0 ≤ y152_s0.toInt ∧ y152_s0.toInt < x4.toInt) → TyV v → va_P D cls (wM cI b L v) H → va_D A (wM cI b L v) → va_S A s.heap H locs → lv_has ls 9 [(0, .ref (b 0)), (1, .int x0), (2, .int x1), (3, .int x2), (4, .int x3), (5, .int x4), (6, .int y128_l6), (7, .int y128_l7)] → W p l e (headSpec wsX12_copy ({ frames := 2, cells := 0, slots := 0, locals := 80 })).room s m ([.ref (b 0), .int x0, .int x1, .int x2, .int x3, .int x4]).toArray below meth c H locs 0 0 (MQ below (QF (S := SU) D (wM cI b L v0) (wM cI b L) s.heap.size (fun r u => TyV u ∧ Rg (-13) 40 r ∧ True)) ([.ref (b 0), .int x0, .int x1, .int x2, .int x3, .int x4]).toArray s 0 0 (va_A (wM cI b L v0) s.heap.size)) (F0 m 152 ls [.int y152_s0]) := by
        intro y152_s0 v H locs ls g152_l1 g152_l2 g152_l3 g152_l4 g152_l5 g152_l6 g152_l7 g152_s0 x152_0 x152_1 hV hP hD hS hl
        refine lv_istore (lv' := [(8, .int y152_s0), (0, .ref (b 0)), (1, .int x0), (2, .int x1), (3, .int x2), (4, .int x3), (5, .int x4), (6, .int y128_l6), (7, .int y128_l7)]) hx hb dX12_copy_152 hl (by decide) rfl (fun ls hl => ?_)
        refine lv_aload_n hx hb dX12_copy_154 rfl (lv_at hl 1 rfl) ?_
        refine va_get (D := D) (ci := 12) (v := .ref (b 11)) (C := RX12) (T := TX12) (N := 24) hx hb hts hin12 hown hK hP 0 rfl rfl 18 (by decide) (hts (.fieldLink RX12 44 "MissedPointsModel" "items" "[I") (by decide +kernel)) (fun _ h9 => h9) rfl dX12_copy_155 ?_
        refine lv_bipush (v := 40) hx hb dX12_copy_158 (by decide) ?_
        refine lv_iload_n hx hb dX12_copy_160 rfl (lv_at hl 4 rfl) ?_
        refine wk_imul (f := 120) hx hb dX12_copy_161 (by decide : Rg 0 40 (40 : Int32)) g152_l3 (by decide) (fun r19341 hr19341 er19341 qr19341 => ?_)
        refine lv_iload hx hb dX12_copy_162 (lv_at hl 5 rfl) ?_
        refine wk_iadd (e1 := 0) (f := 160) hx hb dX12_copy_164 hr19341 g152_l4 (by decide) (fun r19342 hr19342 er19342 qr19342 => ?_)
        refine lv_iload hx hb dX12_copy_165 (lv_at hl 0 rfl) ?_
        refine wk_iadd (e1 := (-2147483648)) (f := 199) hx hb dX12_copy_167 hr19342 g152_s0 (by decide) (fun r19343 hr19343 er19343 qr19343 => ?_)
        refine lv_aload_n hx hb dX12_copy_168 rfl (lv_at hl 1 rfl) ?_
        refine va_get (D := D) (ci := 12) (v := .ref (b 11)) (C := RX12) (T := TX12) (N := 24) hx hb hts hin12 hown hK hP 0 rfl rfl 18 (by decide) (hts (.fieldLink RX12 44 "MissedPointsModel" "items" "[I") (by decide +kernel)) (fun _ h9 => h9) rfl dX12_copy_169 ?_
        refine lv_bipush (v := 40) hx hb dX12_copy_172 (by decide) ?_
        refine lv_iload_n hx hb dX12_copy_174 rfl (lv_at hl 2 rfl) ?_
        refine wk_imul (f := 120) hx hb dX12_copy_175 (by decide : Rg 0 40 (40 : Int32)) g152_l1 (by decide) (fun r19344 hr19344 er19344 qr19344 => ?_)
        refine lv_iload_n hx hb dX12_copy_176 rfl (lv_at hl 3 rfl) ?_
        refine wk_iadd (e1 := 0) (f := 160) hx hb dX12_copy_177 hr19344 g152_l2 (by decide) (fun r19345 hr19345 er19345 qr19345 => ?_)
        refine lv_iload hx hb dX12_copy_178 (lv_at hl 0 rfl) ?_
        have g19346 : Rg 0 159 r19345 := by have z1 := er19345; have z2 := er19344; have z3 := (by decide : Rg 0 120 (40 : Int32)); have z4 := g152_l1; have z5 := g152_l2; have z6 := x152_0; have z7 := x152_1; exact ⟨by omega, by omega⟩
        refine wk_iadd (e1 := (-2147483648)) (f := 198) hx hb dX12_copy_180 g19346 g152_s0 (by decide) (fun r19347 hr19347 er19347 qr19347 => ?_)
        have g19348 : Rg 0 159 r19347 := by have z1 := er19347; have z2 := er19345; have z3 := hr19344; have z4 := g152_l2; have z5 := g152_s0; have z6 := x152_0; have z7 := x152_1; exact ⟨by omega, by omega⟩
        refine wk_aldA hx hb hK hP 11 0 rfl rfl (rg_in g19348 (by decide) (by decide)) dX12_copy_181 (fun r19349 => ?_)
        have g19350 : Rg 0 159 r19343 := by have z1 := er19343; have z2 := er19342; have z3 := hr19341; have z4 := g152_l4; have z5 := g152_s0; have z6 := x152_0; have z7 := x152_1; exact ⟨by omega, by omega⟩
        refine ms_11 hx hb hK hP hD hS hV rfl (rg_in g19350 (by decide) (by decide)) dX12_copy_182 (fun v H locs hV ev19351 hP hD hS => ?_)
        refine wk_iinc (lv' := fun r => [(7, .int r), (8, .int y152_s0), (0, .ref (b 0)), (1, .int x0), (2, .int x1), (3, .int x2), (4, .int x3), (5, .int x4), (6, .int y128_l6)]) (e1 := 1) (f := 40) hx hb dX12_copy_183 hl (k := 8) rfl (by decide) g152_l7 (by decide) (fun _ => rfl) (fun r19352 ls hr19352 er19352 hl => ?_)
        refine lv_goto (tgt := 128) hx hb dX12_copy_186 (by decide) ?_
        exact ih128 y128_l6 r19352 v _ _ ls g152_l1 g152_l2 g152_l3 g152_l4 (show Rg 0 40 x4 from rg_w g152_l5 (by decide) (by decide)) g152_l6 (show Rg 0 40 r19352 from rg_w hr19352 (by decide) (by decide)) (by exact x152_0) hV hP hD hS (lv_sub (l' := [(0, .ref (b 0)), (1, .int x0), (2, .int x1), (3, .int x2), (4, .int x3), (5, .int x4), (6, .int y128_l6), (7, .int r19352)]) hl [2, 3, 4, 5, 6, 7, 8, 0] rfl) (me_up hm128 er19352 (by decide))
      refine lv_iload hx hb dX12_copy_128 (lv_at hl 7 rfl) ?_
      refine lv_iload hx hb dX12_copy_130 (lv_at hl 5 rfl) ?_
      refine lv_icmp_ge (tgt := 189) hx hb dX12_copy_132 (by decide) (fun c19353 => ?_) (fun c19353 => ?_)
      · refine lv_iload hx hb dX12_copy_189 (lv_at hl 5 rfl) ?_
        subst hAe
        exact W.iret (v := x4) hx hb hr (fun t ht hW => ⟨⟨_, v, rfl, ⟨hV, (show Rg (-13) 40 x4 from rg_w g128_l5 (by decide) (by decide)), trivial⟩, by rw [ht]; exact hP, hD⟩, hS.F ht⟩) hS.2.2 dX12_copy_191
      · have g19354 : Rg 1 40 x4 := rg_ltr g128_l7 g128_l5 (rg_nle c19353) (by decide)
        have g19355 : Rg 0 39 y128_l7 := rg_ltl g128_l7 g128_l5 (rg_nle c19353) (by decide)
        refine lv_iload hx hb dX12_copy_135 (lv_at hl 6 rfl) ?_
        refine lv_if_eq (tgt := 150) hx hb dX12_copy_137 (by decide) (fun c19356 => ?_) (fun c19356 => ?_)
        · have g19357 : Rg 0 0 y128_l6 := wk_eql g128_l6 (by decide : Rg 0 0 (0 : Int32)) c19356 (by decide)
          refine lv_iload hx hb dX12_copy_150 (lv_at hl 7 rfl) ?_
          exact ct152 y128_l7 v _ _ ls g128_l1 g128_l2 g128_l3 g128_l4 g19354 (show Rg 0 1 y128_l6 from rg_w g19357 (by decide) (by decide)) g19355 (show Rg (-2147483648) 39 y128_l7 from rg_w g19355 (by decide) (by decide)) (by exact x128_0) (by have z1 := (lz_lt _ _).mp (rg_nle c19353); have z2 := g128_l7; exact ⟨z2.1, z1⟩) hV hP hD hS (lv_sub (l' := [(0, .ref (b 0)), (1, .int x0), (2, .int x1), (3, .int x2), (4, .int x3), (5, .int x4), (6, .int y128_l6), (7, .int y128_l7)]) hl [0, 1, 2, 3, 4, 5, 6, 7] rfl)
        · have g19358 : Rg 1 1 y128_l6 := rg_ne_lo (k := 0) g128_l6 (by decide) c19356 (by decide)
          refine lv_iload hx hb dX12_copy_140 (lv_at hl 5 rfl) ?_
          refine lv_iconst (v := 1) hx hb dX12_copy_142 (by decide) ?_
          refine wk_isub (e1 := 0) (f := 39) hx hb dX12_copy_143 g19354 (by decide : Rg 1 1 (1 : Int32)) (by decide) (fun r19359 hr19359 er19359 qr19359 => ?_)
          refine lv_iload hx hb dX12_copy_144 (lv_at hl 7 rfl) ?_
          refine wk_isub (e1 := (-39)) (f := 39) hx hb dX12_copy_146 hr19359 g19355 (by decide) (fun r19360 hr19360 er19360 qr19360 => ?_)
          refine lv_goto (tgt := 152) hx hb dX12_copy_147 (by decide) ?_
          exact ct152 r19360 v _ _ ls g128_l1 g128_l2 g128_l3 g128_l4 g19354 (show Rg 0 1 y128_l6 from rg_w g19358 (by decide) (by decide)) g19355 (show Rg (-2147483648) 39 r19360 from rg_w hr19360 (by decide) (by decide)) (by exact x128_0) (by have z1 := (lz_lt _ _).mp (rg_nle c19353); have z2 := g128_l7.1; have z3 := er19360; have z4 := er19359; have z5 : (1 : Int32).toInt = 1 := (by decide); exact ⟨by omega, by omega⟩) hV hP hD hS (lv_sub (l' := [(0, .ref (b 0)), (1, .int x0), (2, .int x1), (3, .int x2), (4, .int x3), (5, .int x4), (6, .int y128_l6), (7, .int y128_l7)]) hl [0, 1, 2, 3, 4, 5, 6, 7] rfl)
  refine lv_iload_n hx hb dX12_copy_0 rfl (lv_at hl 1 rfl) ?_
  refine lz_ss (As := [.int x0]) (rest := []) ⟨hx, hb, hml, hown, hts⟩ (w_X12_isSheet l D cI cS x0) hKK (hP.sub (ws' := []) [] rfl) (va_cwS 1 hts gX12_copy_X12_isSheet rfl rfl rfl (by decide +kernel) ⟨Nat.le_of_ble_eq_true rfl, Nat.le_of_ble_eq_true rfl⟩) rfl hl.1 rfl (Nat.le_of_ble_eq_true rfl) dX12_copy_1 ⟨Nat.le_of_ble_eq_true rfl, Nat.le_of_ble_eq_true rfl⟩ (fun r19361 hr19361 => ?_)
  refine lv_if_eq (tgt := 14) hx hb dX12_copy_4 (by decide) (fun c19362 => ?_) (fun c19362 => ?_)
  · have g19363 : Rg 0 0 r19361 := wk_eql hr19361.1 (by decide : Rg 0 0 (0 : Int32)) c19362 (by decide)
    refine lv_bipush (v := (-2)) hx hb dX12_copy_14 (by decide) ?_
    subst hAe
    exact W.iret (v := (-2)) hx hb hr (fun t ht hW => ⟨⟨_, v, rfl, ⟨hV, (by decide : Rg (-13) 40 ((-2) : Int32)), trivial⟩, by rw [ht]; exact hP, hD⟩, hS.F ht⟩) hS.2.2 dX12_copy_16
  · have g19364 : Rg 0 3 x0 := (hr19361.2 c19362)
    have g19365 : Rg 1 1 r19361 := rg_ne_lo (k := 0) hr19361.1 (by decide) c19362 (by decide)
    refine lv_iload_n hx hb dX12_copy_7 rfl (lv_at hl 3 rfl) ?_
    refine lz_ss (As := [.int x2]) (rest := []) ⟨hx, hb, hml, hown, hts⟩ (w_X12_isSheet l D cI cS x2) hKK (hP.sub (ws' := []) [] rfl) (va_cwS 1 hts gX12_copy_X12_isSheet rfl rfl rfl (by decide +kernel) ⟨Nat.le_of_ble_eq_true rfl, Nat.le_of_ble_eq_true rfl⟩) rfl hl.1 rfl (Nat.le_of_ble_eq_true rfl) dX12_copy_8 ⟨Nat.le_of_ble_eq_true rfl, Nat.le_of_ble_eq_true rfl⟩ (fun r19366 hr19366 => ?_)
    refine lv_if_ne (tgt := 17) hx hb dX12_copy_11 (by decide) (fun c19367 => ?_) (fun c19367 => ?_)
    · have g19368 : Rg 0 3 x2 := (hr19366.2 c19367)
      have g19369 : Rg 1 1 r19366 := rg_ne_lo (k := 0) hr19366.1 (by decide) c19367 (by decide)
      refine lv_aload_n hx hb dX12_copy_17 rfl (lv_at hl 0 rfl) ?_
      refine va_get (D := D) (ci := 12) (v := .ref (b 9)) (C := RX12) (T := TX12) (N := 24) hx hb hts hin12 hown hK hP 0 rfl rfl 16 (by decide) (hts (.fieldLink RX12 38 "MissedPointsModel" "sort" "[I") (by decide +kernel)) (fun _ h9 => h9) rfl dX12_copy_18 ?_
      refine lv_iload_n hx hb dX12_copy_21 rfl (lv_at hl 1 rfl) ?_
      refine wk_ald hx hb hK hP 9 0 rfl rfl (rg_in g19364 (by decide) (by decide)) dX12_copy_22 hL.2.2.1 (fun r19370 hr19370 => ?_)
      refine lv_iconst (v := (-1)) hx hb dX12_copy_23 (by decide) ?_
      refine lv_icmp_eq (tgt := 37) hx hb dX12_copy_24 (by decide) (fun c19371 => ?_) (fun c19371 => ?_)
      · have g19372 : Rg (-1) (-1) r19370 := wk_eql hr19370 (by decide : Rg (-1) (-1) ((-1) : Int32)) c19371 (by decide)
        refine lv_bipush (v := (-11)) hx hb dX12_copy_37 (by decide) ?_
        subst hAe
        exact W.iret (v := (-11)) hx hb hr (fun t ht hW => ⟨⟨_, v, rfl, ⟨hV, (by decide : Rg (-13) 40 ((-11) : Int32)), trivial⟩, by rw [ht]; exact hP, hD⟩, hS.F ht⟩) hS.2.2 dX12_copy_39
      · have g19373 : Rg 0 1 r19370 := rg_ne_lo (k := (-1)) hr19370 (by decide) c19371 (by decide)
        refine lv_aload_n hx hb dX12_copy_27 rfl (lv_at hl 0 rfl) ?_
        refine va_get (D := D) (ci := 12) (v := .ref (b 9)) (C := RX12) (T := TX12) (N := 24) hx hb hts hin12 hown hK hP 0 rfl rfl 16 (by decide) (hts (.fieldLink RX12 38 "MissedPointsModel" "sort" "[I") (by decide +kernel)) (fun _ h9 => h9) rfl dX12_copy_28 ?_
        refine lv_iload_n hx hb dX12_copy_31 rfl (lv_at hl 3 rfl) ?_
        refine wk_ald hx hb hK hP 9 0 rfl rfl (rg_in g19368 (by decide) (by decide)) dX12_copy_32 hL.2.2.1 (fun r19374 hr19374 => ?_)
        refine lv_iconst (v := (-1)) hx hb dX12_copy_33 (by decide) ?_
        refine lv_icmp_ne (tgt := 40) hx hb dX12_copy_34 (by decide) (fun c19375 => ?_) (fun c19375 => ?_)
        · have g19376 : Rg 0 1 r19374 := rg_ne_lo (k := (-1)) hr19374 (by decide) c19375 (by decide)
          refine lv_aload_n hx hb dX12_copy_40 rfl (lv_at hl 0 rfl) ?_
          refine va_get (D := D) (ci := 12) (v := .ref (b 9)) (C := RX12) (T := TX12) (N := 24) hx hb hts hin12 hown hK hP 0 rfl rfl 16 (by decide) (hts (.fieldLink RX12 38 "MissedPointsModel" "sort" "[I") (by decide +kernel)) (fun _ h9 => h9) rfl dX12_copy_41 ?_
          refine lv_iload_n hx hb dX12_copy_44 rfl (lv_at hl 1 rfl) ?_
          refine wk_ald hx hb hK hP 9 0 rfl rfl (rg_in g19364 (by decide) (by decide)) dX12_copy_45 hL.2.2.1 (fun r19377 hr19377 => ?_)
          refine lv_aload_n hx hb dX12_copy_46 rfl (lv_at hl 0 rfl) ?_
          refine va_get (D := D) (ci := 12) (v := .ref (b 9)) (C := RX12) (T := TX12) (N := 24) hx hb hts hin12 hown hK hP 0 rfl rfl 16 (by decide) (hts (.fieldLink RX12 38 "MissedPointsModel" "sort" "[I") (by decide +kernel)) (fun _ h9 => h9) rfl dX12_copy_47 ?_
          refine lv_iload_n hx hb dX12_copy_50 rfl (lv_at hl 3 rfl) ?_
          refine wk_ald hx hb hK hP 9 0 rfl rfl (rg_in g19368 (by decide) (by decide)) dX12_copy_51 hL.2.2.1 (fun r19378 hr19378 => ?_)
          refine lv_icmp_eq (tgt := 58) hx hb dX12_copy_52 (by decide) (fun c19379 => ?_) (fun c19379 => ?_)
          · refine lv_iload hx hb dX12_copy_58 (lv_at hl 5 rfl) ?_
            refine lv_if_lt (tgt := 99) hx hb dX12_copy_60 (by decide) (fun c19380 => ?_) (fun c19380 => ?_)
            · have g19381 : Rg (-2147483648) (-1) x4 := rg_ltl (rg_any x4) (by decide : Rg 0 0 (0 : Int32)) c19380 (by decide)
              refine lv_bipush (v := (-12)) hx hb dX12_copy_99 (by decide) ?_
              subst hAe
              exact W.iret (v := (-12)) hx hb hr (fun t ht hW => ⟨⟨_, v, rfl, ⟨hV, (by decide : Rg (-13) 40 ((-12) : Int32)), trivial⟩, by rw [ht]; exact hP, hD⟩, hS.F ht⟩) hS.2.2 dX12_copy_101
            · have g19382 : Rg 0 2147483647 x4 := rg_ler (by decide : Rg 0 0 (0 : Int32)) (rg_any x4) (rg_nlt c19380) (by decide)
              refine lv_iload_n hx hb dX12_copy_63 rfl (lv_at hl 2 rfl) ?_
              refine lv_if_lt (tgt := 99) hx hb dX12_copy_64 (by decide) (fun c19383 => ?_) (fun c19383 => ?_)
              · have g19384 : Rg (-2147483648) (-1) x1 := rg_ltl (rg_any x1) (by decide : Rg 0 0 (0 : Int32)) c19383 (by decide)
                refine lv_bipush (v := (-12)) hx hb dX12_copy_99 (by decide) ?_
                subst hAe
                exact W.iret (v := (-12)) hx hb hr (fun t ht hW => ⟨⟨_, v, rfl, ⟨hV, (by decide : Rg (-13) 40 ((-12) : Int32)), trivial⟩, by rw [ht]; exact hP, hD⟩, hS.F ht⟩) hS.2.2 dX12_copy_101
              · have g19385 : Rg 0 2147483647 x1 := rg_ler (by decide : Rg 0 0 (0 : Int32)) (rg_any x1) (rg_nlt c19383) (by decide)
                refine lv_iload hx hb dX12_copy_67 (lv_at hl 4 rfl) ?_
                refine lv_if_lt (tgt := 99) hx hb dX12_copy_69 (by decide) (fun c19386 => ?_) (fun c19386 => ?_)
                · have g19387 : Rg (-2147483648) (-1) x3 := rg_ltl (rg_any x3) (by decide : Rg 0 0 (0 : Int32)) c19386 (by decide)
                  refine lv_bipush (v := (-12)) hx hb dX12_copy_99 (by decide) ?_
                  subst hAe
                  exact W.iret (v := (-12)) hx hb hr (fun t ht hW => ⟨⟨_, v, rfl, ⟨hV, (by decide : Rg (-13) 40 ((-12) : Int32)), trivial⟩, by rw [ht]; exact hP, hD⟩, hS.F ht⟩) hS.2.2 dX12_copy_101
                · have g19388 : Rg 0 2147483647 x3 := rg_ler (by decide : Rg 0 0 (0 : Int32)) (rg_any x3) (rg_nlt c19386) (by decide)
                  refine lv_iload_n hx hb dX12_copy_72 rfl (lv_at hl 2 rfl) ?_
                  refine lv_aload_n hx hb dX12_copy_73 rfl (lv_at hl 0 rfl) ?_
                  refine va_get (D := D) (ci := 12) (v := .ref (b 10)) (C := RX12) (T := TX12) (N := 24) hx hb hts hin12 hown hK hP 0 rfl rfl 17 (by decide) (hts (.fieldLink RX12 41 "MissedPointsModel" "size" "[I") (by decide +kernel)) (fun _ h9 => h9) rfl dX12_copy_74 ?_
                  refine lv_iload_n hx hb dX12_copy_77 rfl (lv_at hl 1 rfl) ?_
                  refine wk_ald hx hb hK hP 10 0 rfl rfl (rg_in g19364 (by decide) (by decide)) dX12_copy_78 hL.2.2.2.1 (fun r19389 hr19389 => ?_)
                  refine lv_iload hx hb dX12_copy_79 (lv_at hl 5 rfl) ?_
                  refine wk_isub (e1 := (-2147483647)) (f := 40) hx hb dX12_copy_81 hr19389 g19382 (by decide) (fun r19390 hr19390 er19390 qr19390 => ?_)
                  refine lv_icmp_gt (tgt := 99) hx hb dX12_copy_82 (by decide) (fun c19391 => ?_) (fun c19391 => ?_)
                  · refine lv_bipush (v := (-12)) hx hb dX12_copy_99 (by decide) ?_
                    subst hAe
                    exact W.iret (v := (-12)) hx hb hr (fun t ht hW => ⟨⟨_, v, rfl, ⟨hV, (by decide : Rg (-13) 40 ((-12) : Int32)), trivial⟩, by rw [ht]; exact hP, hD⟩, hS.F ht⟩) hS.2.2 dX12_copy_101
                  · have g19392 : Rg 0 40 r19390 := rg_ler g19385 hr19390 (rg_nlt c19391) (by decide)
                    have g19393 : Rg 0 40 x1 := rg_lel g19385 hr19390 (rg_nlt c19391) (by decide)
                    refine lv_iload hx hb dX12_copy_85 (lv_at hl 4 rfl) ?_
                    refine lv_aload_n hx hb dX12_copy_87 rfl (lv_at hl 0 rfl) ?_
                    refine va_get (D := D) (ci := 12) (v := .ref (b 10)) (C := RX12) (T := TX12) (N := 24) hx hb hts hin12 hown hK hP 0 rfl rfl 17 (by decide) (hts (.fieldLink RX12 41 "MissedPointsModel" "size" "[I") (by decide +kernel)) (fun _ h9 => h9) rfl dX12_copy_88 ?_
                    refine lv_iload_n hx hb dX12_copy_91 rfl (lv_at hl 3 rfl) ?_
                    refine wk_ald hx hb hK hP 10 0 rfl rfl (rg_in g19368 (by decide) (by decide)) dX12_copy_92 hL.2.2.2.1 (fun r19394 hr19394 => ?_)
                    refine lv_iload hx hb dX12_copy_93 (lv_at hl 5 rfl) ?_
                    refine wk_isub (e1 := (-2147483647)) (f := 40) hx hb dX12_copy_95 hr19394 g19382 (by decide) (fun r19395 hr19395 er19395 qr19395 => ?_)
                    refine lv_icmp_le (tgt := 102) hx hb dX12_copy_96 (by decide) (fun c19396 => ?_) (fun c19396 => ?_)
                    · have g19397 : Rg 0 40 x3 := rg_lel g19388 hr19395 c19396 (by decide)
                      have g19398 : Rg 0 40 r19395 := rg_ler g19388 hr19395 c19396 (by decide)
                      have z19399 : x1.toInt + x4.toInt ≤ 40 := by have z1 := (lz_le _ _).mp (rg_nlt c19391); have z2 := er19390; have z3 := hr19389; omega
                      have z19400 : x3.toInt + x4.toInt ≤ 40 := by have z1 := (lz_le _ _).mp c19396; have z2 := er19395; have z3 := hr19394; omega
                      have g19401 : Rg 0 40 x4 := ⟨g19382.1, by have z1 := z19399; have z2 := z19400; have z3 := g19382; have z4 := g19393; have z5 := g19397; omega⟩
                      have g19402 : Rg 0 40 x1 := ⟨g19393.1, by have z1 := z19399; have z2 := z19400; have z3 := g19401; have z4 := g19393; have z5 := g19397; omega⟩
                      have g19403 : Rg 0 40 x3 := ⟨g19397.1, by have z1 := z19399; have z2 := z19400; have z3 := g19401; have z4 := g19402; have z5 := g19397; omega⟩
                      refine lv_bipush (v := 40) hx hb dX12_copy_102 (by decide) ?_
                      refine lv_iload_n hx hb dX12_copy_104 rfl (lv_at hl 1 rfl) ?_
                      refine wk_imul (f := 120) hx hb dX12_copy_105 (by decide : Rg 0 40 (40 : Int32)) g19364 (by decide) (fun r19404 hr19404 er19404 qr19404 => ?_)
                      refine lv_iload_n hx hb dX12_copy_106 rfl (lv_at hl 2 rfl) ?_
                      refine wk_iadd (e1 := 0) (f := 160) hx hb dX12_copy_107 hr19404 g19402 (by decide) (fun r19405 hr19405 er19405 qr19405 => ?_)
                      refine lv_bipush (v := 40) hx hb dX12_copy_108 (by decide) ?_
                      refine lv_iload_n hx hb dX12_copy_110 rfl (lv_at hl 3 rfl) ?_
                      refine wk_imul (f := 120) hx hb dX12_copy_111 (by decide : Rg 0 40 (40 : Int32)) g19368 (by decide) (fun r19406 hr19406 er19406 qr19406 => ?_)
                      refine lv_iload hx hb dX12_copy_112 (lv_at hl 4 rfl) ?_
                      refine wk_iadd (e1 := 0) (f := 160) hx hb dX12_copy_114 hr19406 g19403 (by decide) (fun r19407 hr19407 er19407 qr19407 => ?_)
                      refine lv_icmp_ge (tgt := 122) hx hb dX12_copy_115 (by decide) (fun c19408 => ?_) (fun c19408 => ?_)
                      · refine lv_iconst (v := 0) hx hb dX12_copy_122 (by decide) ?_
                        refine lv_istore (lv' := [(6, .int 0), (0, .ref (b 0)), (1, .int x0), (2, .int x1), (3, .int x2), (4, .int x3), (5, .int x4)]) hx hb dX12_copy_123 hl (by decide) rfl (fun ls hl => ?_)
                        refine lv_iconst (v := 0) hx hb dX12_copy_125 (by decide) ?_
                        refine lv_istore (lv' := [(7, .int 0), (6, .int 0), (0, .ref (b 0)), (1, .int x0), (2, .int x1), (3, .int x2), (4, .int x3), (5, .int x4)]) hx hb dX12_copy_126 hl (by decide) rfl (fun ls hl => ?_)
                        exact lp128 41 (0 : Int32) (0 : Int32) v _ _ ls g19364 g19402 g19368 g19403 g19401 (by decide : Rg 0 1 (0 : Int32)) (by decide : Rg 0 40 (0 : Int32)) (by exact ⟨z19399, z19400⟩) hV hP hD hS (lv_sub (l' := [(0, .ref (b 0)), (1, .int x0), (2, .int x1), (3, .int x2), (4, .int x3), (5, .int x4), (6, .int 0), (7, .int 0)]) hl [2, 3, 4, 5, 6, 7, 1, 0] rfl) (me_i (by decide : Rg 0 40 (0 : Int32)) (by decide))
                      · have g19409 : Rg 1 160 r19407 := rg_ltr hr19405 hr19407 (rg_nle c19408) (by decide)
                        have g19410 : Rg 0 159 r19405 := rg_ltl hr19405 hr19407 (rg_nle c19408) (by decide)
                        refine lv_iconst (v := 1) hx hb dX12_copy_118 (by decide) ?_
                        refine lv_goto (tgt := 123) hx hb dX12_copy_119 (by decide) ?_
                        refine lv_istore (lv' := [(6, .int 1), (0, .ref (b 0)), (1, .int x0), (2, .int x1), (3, .int x2), (4, .int x3), (5, .int x4)]) hx hb dX12_copy_123 hl (by decide) rfl (fun ls hl => ?_)
                        refine lv_iconst (v := 0) hx hb dX12_copy_125 (by decide) ?_
                        refine lv_istore (lv' := [(7, .int 0), (6, .int 1), (0, .ref (b 0)), (1, .int x0), (2, .int x1), (3, .int x2), (4, .int x3), (5, .int x4)]) hx hb dX12_copy_126 hl (by decide) rfl (fun ls hl => ?_)
                        exact lp128 41 (1 : Int32) (0 : Int32) v _ _ ls g19364 g19402 g19368 g19403 g19401 (by decide : Rg 0 1 (1 : Int32)) (by decide : Rg 0 40 (0 : Int32)) (by exact ⟨z19399, z19400⟩) hV hP hD hS (lv_sub (l' := [(0, .ref (b 0)), (1, .int x0), (2, .int x1), (3, .int x2), (4, .int x3), (5, .int x4), (6, .int 1), (7, .int 0)]) hl [2, 3, 4, 5, 6, 7, 1, 0] rfl) (me_i (by decide : Rg 0 40 (0 : Int32)) (by decide))
                    · refine lv_bipush (v := (-12)) hx hb dX12_copy_99 (by decide) ?_
                      subst hAe
                      exact W.iret (v := (-12)) hx hb hr (fun t ht hW => ⟨⟨_, v, rfl, ⟨hV, (by decide : Rg (-13) 40 ((-12) : Int32)), trivial⟩, by rw [ht]; exact hP, hD⟩, hS.F ht⟩) hS.2.2 dX12_copy_101
          · refine lv_bipush (v := (-13)) hx hb dX12_copy_55 (by decide) ?_
            subst hAe
            exact W.iret (v := (-13)) hx hb hr (fun t ht hW => ⟨⟨_, v, rfl, ⟨hV, (by decide : Rg (-13) 40 ((-13) : Int32)), trivial⟩, by rw [ht]; exact hP, hD⟩, hS.F ht⟩) hS.2.2 dX12_copy_57
        · have g19411 : Rg (-1) (-1) r19374 := wk_eql hr19374 (by decide : Rg (-1) (-1) ((-1) : Int32)) c19375 (by decide)
          refine lv_bipush (v := (-11)) hx hb dX12_copy_37 (by decide) ?_
          subst hAe
          exact W.iret (v := (-11)) hx hb hr (fun t ht hW => ⟨⟨_, v, rfl, ⟨hV, (by decide : Rg (-13) 40 ((-11) : Int32)), trivial⟩, by rw [ht]; exact hP, hD⟩, hS.F ht⟩) hS.2.2 dX12_copy_39
    · have g19412 : Rg 0 0 r19366 := wk_eql hr19366.1 (by decide : Rg 0 0 (0 : Int32)) c19367 (by decide)
      refine lv_bipush (v := (-2)) hx hb dX12_copy_14 (by decide) ?_
      subst hAe
      exact W.iret (v := (-2)) hx hb hr (fun t ht hW => ⟨⟨_, v, rfl, ⟨hV, (by decide : Rg (-13) 40 ((-2) : Int32)), trivial⟩, by rw [ht]; exact hP, hD⟩, hS.F ht⟩) hS.2.2 dX12_copy_16
