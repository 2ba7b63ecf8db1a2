set_option maxRecDepth 20000 in
theorem ggX12_chains_X12_bits : GoodIn wsX12_chains wsX12_bits := goodIn_r _ [28] (by decide +kernel) (by decide +kernel)
set_option maxRecDepth 20000 in
theorem gX12_chains_X12_bits : GoodIn wsX12_chains (va_wsS RX12 85 yX12_bits wsX12_bits) := goodIn_app (goodIn_of _ (by decide +kernel)) ggX12_chains_X12_bits
set_option maxRecDepth 20000 in
theorem ggX12_chains_X12_has : GoodIn wsX12_chains wsX12_has := goodIn_r _ [25] (by decide +kernel) (by decide +kernel)
set_option maxRecDepth 20000 in
theorem gX12_chains_X12_has : GoodIn wsX12_chains (va_wsS RX12 59 yX12_has wsX12_has) := goodIn_app (goodIn_of _ (by decide +kernel)) ggX12_chains_X12_has
set_option maxRecDepth 20000 in
theorem ggX12_chains_X12_wrongPairing : GoodIn wsX12_chains wsX12_wrongPairing := goodIn_r _ [15, 1, 16, 2, 17, 18, 4, 5, 6, 7, 8, 9, 10, 11, 19, 20, 21, 22, 23, 24, 25, 29, 30, 31, 32, 33, 34, 35, 36, 37, 38, 39, 40, 41, 42, 43, 44, 45, 46, 47, 48, 49, 50, 51, 52] (by decide +kernel) (by decide +kernel)
set_option maxRecDepth 20000 in
theorem gX12_chains_X12_wrongPairing : GoodIn wsX12_chains (wsV RX12 160 RX12 yX12_wrongPairing wsX12_wrongPairing) := goodIn_app (goodIn_of _ (by decide +kernel)) ggX12_chains_X12_wrongPairing
theorem dX12_chains_100 : decode cX12_chains 100 = .ok (.bipush (-3), 2) := by decide +kernel
theorem dX12_chains_102 : decode cX12_chains 102 = .ok (.ireturn, 1) := by decide +kernel
theorem dX12_chains_103 : decode cX12_chains 103 = .ok (.iconst 0, 1) := by decide +kernel
theorem dX12_chains_104 : decode cX12_chains 104 = .ok (.istore 4, 2) := by decide +kernel
theorem dX12_chains_106 : decode cX12_chains 106 = .ok (.iconst 0, 1) := by decide +kernel
theorem dX12_chains_107 : decode cX12_chains 107 = .ok (.istore 5, 2) := by decide +kernel
theorem dX12_chains_109 : decode cX12_chains 109 = .ok (.iload 5, 2) := by decide +kernel
theorem dX12_chains_111 : decode cX12_chains 111 = .ok (.aload_n 0, 1) := by decide +kernel
theorem dX12_chains_112 : decode cX12_chains 112 = .ok (.getfield 63, 3) := by decide +kernel
theorem dX12_chains_115 : decode cX12_chains 115 = .ok (.if_icmp .ge 39, 3) := by decide +kernel
theorem dX12_chains_118 : decode cX12_chains 118 = .ok (.iload 4, 2) := by decide +kernel
theorem dX12_chains_120 : decode cX12_chains 120 = .ok (.aload_n 0, 1) := by decide +kernel
theorem dX12_chains_121 : decode cX12_chains 121 = .ok (.getfield 26, 3) := by decide +kernel
theorem dX12_chains_124 : decode cX12_chains 124 = .ok (.iload 5, 2) := by decide +kernel
theorem dX12_chains_126 : decode cX12_chains 126 = .ok (.iaload, 1) := by decide +kernel
theorem dX12_chains_127 : decode cX12_chains 127 = .ok (.aload_n 0, 1) := by decide +kernel
theorem dX12_chains_128 : decode cX12_chains 128 = .ok (.getfield 32, 3) := by decide +kernel
theorem dX12_chains_131 : decode cX12_chains 131 = .ok (.iload 5, 2) := by decide +kernel
theorem dX12_chains_133 : decode cX12_chains 133 = .ok (.iaload, 1) := by decide +kernel
theorem dX12_chains_134 : decode cX12_chains 134 = .ok (.if_icmp .eq 10, 3) := by decide +kernel
theorem dX12_chains_137 : decode cX12_chains 137 = .ok (.iconst 1, 1) := by decide +kernel
theorem dX12_chains_138 : decode cX12_chains 138 = .ok (.iload 5, 2) := by decide +kernel
theorem dX12_chains_140 : decode cX12_chains 140 = .ok (.ishl, 1) := by decide +kernel
theorem dX12_chains_141 : decode cX12_chains 141 = .ok (.goto 4, 3) := by decide +kernel
theorem dX12_chains_144 : decode cX12_chains 144 = .ok (.iconst 0, 1) := by decide +kernel
theorem dX12_chains_145 : decode cX12_chains 145 = .ok (.ior, 1) := by decide +kernel
theorem dX12_chains_146 : decode cX12_chains 146 = .ok (.istore 4, 2) := by decide +kernel
theorem dX12_chains_148 : decode cX12_chains 148 = .ok (.iinc 5 1, 3) := by decide +kernel
theorem dX12_chains_151 : decode cX12_chains 151 = .ok (.goto (-42), 3) := by decide +kernel
theorem dX12_chains_154 : decode cX12_chains 154 = .ok (.iconst 0, 1) := by decide +kernel
theorem dX12_chains_155 : decode cX12_chains 155 = .ok (.istore 5, 2) := by decide +kernel
theorem dX12_chains_157 : decode cX12_chains 157 = .ok (.iconst 0, 1) := by decide +kernel
theorem dX12_chains_158 : decode cX12_chains 158 = .ok (.istore 6, 2) := by decide +kernel
theorem dX12_chains_160 : decode cX12_chains 160 = .ok (.iconst 0, 1) := by decide +kernel
theorem dX12_chains_161 : decode cX12_chains 161 = .ok (.istore 7, 2) := by decide +kernel
theorem dX12_chains_163 : decode cX12_chains 163 = .ok (.iload 4, 2) := by decide +kernel
theorem dX12_chains_165 : decode cX12_chains 165 = .ok (.ifCond .eq 228, 3) := by decide +kernel
theorem dX12_chains_168 : decode cX12_chains 168 = .ok (.iload 4, 2) := by decide +kernel
theorem dX12_chains_170 : decode cX12_chains 170 = .ok (.iload 4, 2) := by decide +kernel
theorem dX12_chains_172 : decode cX12_chains 172 = .ok (.ineg, 1) := by decide +kernel
theorem dX12_chains_173 : decode cX12_chains 173 = .ok (.iand, 1) := by decide +kernel
theorem dX12_chains_174 : decode cX12_chains 174 = .ok (.istore 8, 2) := by decide +kernel
theorem dX12_chains_176 : decode cX12_chains 176 = .ok (.iconst 0, 1) := by decide +kernel
theorem dX12_chains_177 : decode cX12_chains 177 = .ok (.istore 9, 2) := by decide +kernel
theorem dX12_chains_179 : decode cX12_chains 179 = .ok (.iconst 0, 1) := by decide +kernel
theorem dX12_chains_180 : decode cX12_chains 180 = .ok (.istore 10, 2) := by decide +kernel
theorem dX12_chains_182 : decode cX12_chains 182 = .ok (.iload 10, 2) := by decide +kernel
theorem dX12_chains_184 : decode cX12_chains 184 = .ok (.aload_n 0, 1) := by decide +kernel
theorem dX12_chains_185 : decode cX12_chains 185 = .ok (.getfield 63, 3) := by decide +kernel
theorem dX12_chains_188 : decode cX12_chains 188 = .ok (.if_icmp .ge 148, 3) := by decide +kernel
theorem dX12_chains_191 : decode cX12_chains 191 = .ok (.iconst 0, 1) := by decide +kernel
theorem dX12_chains_192 : decode cX12_chains 192 = .ok (.istore 9, 2) := by decide +kernel
theorem dX12_chains_194 : decode cX12_chains 194 = .ok (.iconst 0, 1) := by decide +kernel
theorem dX12_chains_195 : decode cX12_chains 195 = .ok (.istore 11, 2) := by decide +kernel
theorem dX12_chains_197 : decode cX12_chains 197 = .ok (.iload 11, 2) := by decide +kernel
theorem dX12_chains_199 : decode cX12_chains 199 = .ok (.aload_n 0, 1) := by decide +kernel
theorem dX12_chains_200 : decode cX12_chains 200 = .ok (.getfield 63, 3) := by decide +kernel
theorem dX12_chains_203 : decode cX12_chains 203 = .ok (.if_icmp .ge 127, 3) := by decide +kernel
theorem dX12_chains_206 : decode cX12_chains 206 = .ok (.iload 8, 2) := by decide +kernel
theorem dX12_chains_208 : decode cX12_chains 208 = .ok (.iload 11, 2) := by decide +kernel
theorem dX12_chains_210 : decode cX12_chains 210 = .ok (.invokestatic 59, 3) := by decide +kernel
theorem dX12_chains_213 : decode cX12_chains 213 = .ok (.ifCond .eq 111, 3) := by decide +kernel
theorem dX12_chains_216 : decode cX12_chains 216 = .ok (.aload_n 0, 1) := by decide +kernel
theorem dX12_chains_217 : decode cX12_chains 217 = .ok (.getfield 26, 3) := by decide +kernel
theorem dX12_chains_220 : decode cX12_chains 220 = .ok (.iload 11, 2) := by decide +kernel
theorem dX12_chains_222 : decode cX12_chains 222 = .ok (.iaload, 1) := by decide +kernel
theorem dX12_chains_223 : decode cX12_chains 223 = .ok (.aload_n 0, 1) := by decide +kernel
theorem dX12_chains_224 : decode cX12_chains 224 = .ok (.getfield 32, 3) := by decide +kernel
theorem dX12_chains_227 : decode cX12_chains 227 = .ok (.iload 11, 2) := by decide +kernel
theorem dX12_chains_229 : decode cX12_chains 229 = .ok (.iaload, 1) := by decide +kernel
theorem dX12_chains_230 : decode cX12_chains 230 = .ok (.if_icmp .ne 6, 3) := by decide +kernel
theorem dX12_chains_233 : decode cX12_chains 233 = .ok (.goto 91, 3) := by decide +kernel
theorem dX12_chains_236 : decode cX12_chains 236 = .ok (.aload_n 0, 1) := by decide +kernel
theorem dX12_chains_237 : decode cX12_chains 237 = .ok (.getfield 26, 3) := by decide +kernel
theorem dX12_chains_240 : decode cX12_chains 240 = .ok (.iload 11, 2) := by decide +kernel
theorem dX12_chains_242 : decode cX12_chains 242 = .ok (.iaload, 1) := by decide +kernel
theorem dX12_chains_243 : decode cX12_chains 243 = .ok (.iconst (-1), 1) := by decide +kernel
theorem dX12_chains_244 : decode cX12_chains 244 = .ok (.if_icmp .eq 17, 3) := by decide +kernel
theorem dX12_chains_247 : decode cX12_chains 247 = .ok (.iload 8, 2) := by decide +kernel
theorem dX12_chains_249 : decode cX12_chains 249 = .ok (.iconst 1, 1) := by decide +kernel
theorem dX12_chains_250 : decode cX12_chains 250 = .ok (.aload_n 0, 1) := by decide +kernel
theorem dX12_chains_251 : decode cX12_chains 251 = .ok (.getfield 26, 3) := by decide +kernel
theorem dX12_chains_254 : decode cX12_chains 254 = .ok (.iload 11, 2) := by decide +kernel
theorem dX12_chains_256 : decode cX12_chains 256 = .ok (.iaload, 1) := by decide +kernel
theorem dX12_chains_257 : decode cX12_chains 257 = .ok (.ishl, 1) := by decide +kernel
theorem dX12_chains_258 : decode cX12_chains 258 = .ok (.ior, 1) := by decide +kernel
theorem dX12_chains_259 : decode cX12_chains 259 = .ok (.istore 8, 2) := by decide +kernel
theorem dX12_chains_261 : decode cX12_chains 261 = .ok (.aload_n 0, 1) := by decide +kernel
theorem dX12_chains_262 : decode cX12_chains 262 = .ok (.getfield 32, 3) := by decide +kernel
theorem dX12_chains_265 : decode cX12_chains 265 = .ok (.iload 11, 2) := by decide +kernel
theorem dX12_chains_267 : decode cX12_chains 267 = .ok (.iaload, 1) := by decide +kernel
theorem dX12_chains_268 : decode cX12_chains 268 = .ok (.iconst (-1), 1) := by decide +kernel
theorem dX12_chains_269 : decode cX12_chains 269 = .ok (.if_icmp .eq 17, 3) := by decide +kernel
theorem dX12_chains_272 : decode cX12_chains 272 = .ok (.iload 8, 2) := by decide +kernel
theorem dX12_chains_274 : decode cX12_chains 274 = .ok (.iconst 1, 1) := by decide +kernel
theorem dX12_chains_275 : decode cX12_chains 275 = .ok (.aload_n 0, 1) := by decide +kernel
theorem dX12_chains_276 : decode cX12_chains 276 = .ok (.getfield 32, 3) := by decide +kernel
theorem dX12_chains_279 : decode cX12_chains 279 = .ok (.iload 11, 2) := by decide +kernel
theorem dX12_chains_281 : decode cX12_chains 281 = .ok (.iaload, 1) := by decide +kernel
theorem dX12_chains_282 : decode cX12_chains 282 = .ok (.ishl, 1) := by decide +kernel
theorem dX12_chains_283 : decode cX12_chains 283 = .ok (.ior, 1) := by decide +kernel
theorem dX12_chains_284 : decode cX12_chains 284 = .ok (.istore 8, 2) := by decide +kernel
theorem dX12_chains_286 : decode cX12_chains 286 = .ok (.iload 9, 2) := by decide +kernel
theorem dX12_chains_288 : decode cX12_chains 288 = .ok (.aload_n 0, 1) := by decide +kernel
theorem dX12_chains_289 : decode cX12_chains 289 = .ok (.getfield 26, 3) := by decide +kernel
theorem dX12_chains_292 : decode cX12_chains 292 = .ok (.iload 11, 2) := by decide +kernel
theorem dX12_chains_294 : decode cX12_chains 294 = .ok (.iaload, 1) := by decide +kernel
theorem dX12_chains_295 : decode cX12_chains 295 = .ok (.iconst (-1), 1) := by decide +kernel
theorem dX12_chains_296 : decode cX12_chains 296 = .ok (.if_icmp .eq 7, 3) := by decide +kernel
theorem dX12_chains_299 : decode cX12_chains 299 = .ok (.iconst 1, 1) := by decide +kernel
theorem dX12_chains_300 : decode cX12_chains 300 = .ok (.goto 4, 3) := by decide +kernel
theorem dX12_chains_303 : decode cX12_chains 303 = .ok (.iconst 0, 1) := by decide +kernel
theorem dX12_chains_304 : decode cX12_chains 304 = .ok (.aload_n 0, 1) := by decide +kernel
theorem dX12_chains_305 : decode cX12_chains 305 = .ok (.getfield 32, 3) := by decide +kernel
theorem dX12_chains_308 : decode cX12_chains 308 = .ok (.iload 11, 2) := by decide +kernel
theorem dX12_chains_310 : decode cX12_chains 310 = .ok (.iaload, 1) := by decide +kernel
theorem dX12_chains_311 : decode cX12_chains 311 = .ok (.iconst (-1), 1) := by decide +kernel
theorem dX12_chains_312 : decode cX12_chains 312 = .ok (.if_icmp .eq 7, 3) := by decide +kernel
theorem dX12_chains_315 : decode cX12_chains 315 = .ok (.iconst 1, 1) := by decide +kernel
theorem dX12_chains_316 : decode cX12_chains 316 = .ok (.goto 4, 3) := by decide +kernel
theorem dX12_chains_319 : decode cX12_chains 319 = .ok (.iconst 0, 1) := by decide +kernel
theorem dX12_chains_320 : decode cX12_chains 320 = .ok (.iadd, 1) := by decide +kernel
theorem dX12_chains_321 : decode cX12_chains 321 = .ok (.iadd, 1) := by decide +kernel
theorem dX12_chains_322 : decode cX12_chains 322 = .ok (.istore 9, 2) := by decide +kernel
theorem dX12_chains_324 : decode cX12_chains 324 = .ok (.iinc 11 1, 3) := by decide +kernel
theorem dX12_chains_327 : decode cX12_chains 327 = .ok (.goto (-130), 3) := by decide +kernel
theorem dX12_chains_330 : decode cX12_chains 330 = .ok (.iinc 10 1, 3) := by decide +kernel
theorem dX12_chains_333 : decode cX12_chains 333 = .ok (.goto (-151), 3) := by decide +kernel
theorem dX12_chains_336 : decode cX12_chains 336 = .ok (.iload 9, 2) := by decide +kernel
theorem dX12_chains_338 : decode cX12_chains 338 = .ok (.iconst 2, 1) := by decide +kernel
theorem dX12_chains_339 : decode cX12_chains 339 = .ok (.idiv, 1) := by decide +kernel
theorem dX12_chains_340 : decode cX12_chains 340 = .ok (.istore 10, 2) := by decide +kernel
theorem dX12_chains_342 : decode cX12_chains 342 = .ok (.iinc 5 1, 3) := by decide +kernel
theorem dX12_chains_345 : decode cX12_chains 345 = .ok (.iload 10, 2) := by decide +kernel
theorem dX12_chains_347 : decode cX12_chains 347 = .ok (.iload 6, 2) := by decide +kernel
theorem dX12_chains_349 : decode cX12_chains 349 = .ok (.if_icmp .le 8, 3) := by decide +kernel
theorem dX12_chains_352 : decode cX12_chains 352 = .ok (.iload 10, 2) := by decide +kernel
theorem dX12_chains_354 : decode cX12_chains 354 = .ok (.goto 5, 3) := by decide +kernel
theorem dX12_chains_357 : decode cX12_chains 357 = .ok (.iload 6, 2) := by decide +kernel
theorem dX12_chains_359 : decode cX12_chains 359 = .ok (.istore 6, 2) := by decide +kernel
theorem dX12_chains_36 : decode cX12_chains 36 = .ok (.aload_n 0, 1) := by decide +kernel
theorem dX12_chains_361 : decode cX12_chains 361 = .ok (.iload 7, 2) := by decide +kernel
theorem dX12_chains_363 : decode cX12_chains 363 = .ok (.iload 10, 2) := by decide +kernel
theorem dX12_chains_365 : decode cX12_chains 365 = .ok (.iload 8, 2) := by decide +kernel
theorem dX12_chains_367 : decode cX12_chains 367 = .ok (.invokestatic 85, 3) := by decide +kernel
theorem dX12_chains_37 : decode cX12_chains 37 = .ok (.getfield 38, 3) := by decide +kernel
theorem dX12_chains_370 : decode cX12_chains 370 = .ok (.if_icmp .ne 7, 3) := by decide +kernel
theorem dX12_chains_373 : decode cX12_chains 373 = .ok (.iconst 1, 1) := by decide +kernel
theorem dX12_chains_374 : decode cX12_chains 374 = .ok (.goto 4, 3) := by decide +kernel
theorem dX12_chains_377 : decode cX12_chains 377 = .ok (.iconst 0, 1) := by decide +kernel
theorem dX12_chains_378 : decode cX12_chains 378 = .ok (.iadd, 1) := by decide +kernel
theorem dX12_chains_379 : decode cX12_chains 379 = .ok (.istore 7, 2) := by decide +kernel
theorem dX12_chains_381 : decode cX12_chains 381 = .ok (.iload 4, 2) := by decide +kernel
theorem dX12_chains_383 : decode cX12_chains 383 = .ok (.iload 8, 2) := by decide +kernel
theorem dX12_chains_385 : decode cX12_chains 385 = .ok (.iconst (-1), 1) := by decide +kernel
theorem dX12_chains_386 : decode cX12_chains 386 = .ok (.ixor, 1) := by decide +kernel
theorem dX12_chains_387 : decode cX12_chains 387 = .ok (.iand, 1) := by decide +kernel
theorem dX12_chains_388 : decode cX12_chains 388 = .ok (.istore 4, 2) := by decide +kernel
theorem dX12_chains_390 : decode cX12_chains 390 = .ok (.goto (-227), 3) := by decide +kernel
theorem dX12_chains_393 : decode cX12_chains 393 = .ok (.iload_n 3, 1) := by decide +kernel
theorem dX12_chains_394 : decode cX12_chains 394 = .ok (.ifCond .ne 8, 3) := by decide +kernel
theorem dX12_chains_397 : decode cX12_chains 397 = .ok (.iload 5, 2) := by decide +kernel
theorem dX12_chains_399 : decode cX12_chains 399 = .ok (.goto 15, 3) := by decide +kernel
theorem dX12_chains_40 : decode cX12_chains 40 = .ok (.iload_n 2, 1) := by decide +kernel
theorem dX12_chains_402 : decode cX12_chains 402 = .ok (.iload_n 3, 1) := by decide +kernel
theorem dX12_chains_403 : decode cX12_chains 403 = .ok (.iconst 1, 1) := by decide +kernel
theorem dX12_chains_404 : decode cX12_chains 404 = .ok (.if_icmp .ne 8, 3) := by decide +kernel
theorem dX12_chains_407 : decode cX12_chains 407 = .ok (.iload 6, 2) := by decide +kernel
theorem dX12_chains_409 : decode cX12_chains 409 = .ok (.goto 5, 3) := by decide +kernel
theorem dX12_chains_41 : decode cX12_chains 41 = .ok (.iaload, 1) := by decide +kernel
theorem dX12_chains_412 : decode cX12_chains 412 = .ok (.iload 7, 2) := by decide +kernel
theorem dX12_chains_414 : decode cX12_chains 414 = .ok (.ireturn, 1) := by decide +kernel
theorem dX12_chains_42 : decode cX12_chains 42 = .ok (.iconst (-1), 1) := by decide +kernel
theorem dX12_chains_43 : decode cX12_chains 43 = .ok (.if_icmp .ne 6, 3) := by decide +kernel
theorem dX12_chains_49 : decode cX12_chains 49 = .ok (.aload_n 0, 1) := by decide +kernel
theorem dX12_chains_50 : decode cX12_chains 50 = .ok (.iload_n 1, 1) := by decide +kernel
theorem dX12_chains_51 : decode cX12_chains 51 = .ok (.invokevirtual 160, 3) := by decide +kernel
theorem dX12_chains_54 : decode cX12_chains 54 = .ok (.ifCond .eq 6, 3) := by decide +kernel
theorem dX12_chains_57 : decode cX12_chains 57 = .ok (.bipush (-3), 2) := by decide +kernel
theorem dX12_chains_59 : decode cX12_chains 59 = .ok (.ireturn, 1) := by decide +kernel
theorem dX12_chains_60 : decode cX12_chains 60 = .ok (.iconst 0, 1) := by decide +kernel
theorem dX12_chains_61 : decode cX12_chains 61 = .ok (.istore 4, 2) := by decide +kernel
theorem dX12_chains_63 : decode cX12_chains 63 = .ok (.iload 4, 2) := by decide +kernel
theorem dX12_chains_65 : decode cX12_chains 65 = .ok (.aload_n 0, 1) := by decide +kernel
theorem dX12_chains_66 : decode cX12_chains 66 = .ok (.getfield 63, 3) := by decide +kernel
theorem dX12_chains_69 : decode cX12_chains 69 = .ok (.if_icmp .ge 23, 3) := by decide +kernel
theorem dX12_chains_72 : decode cX12_chains 72 = .ok (.aload_n 0, 1) := by decide +kernel
theorem dX12_chains_73 : decode cX12_chains 73 = .ok (.getfield 32, 3) := by decide +kernel
theorem dX12_chains_76 : decode cX12_chains 76 = .ok (.iload 4, 2) := by decide +kernel
theorem dX12_chains_78 : decode cX12_chains 78 = .ok (.aload_n 0, 1) := by decide +kernel
theorem dX12_chains_79 : decode cX12_chains 79 = .ok (.getfield 26, 3) := by decide +kernel
theorem dX12_chains_82 : decode cX12_chains 82 = .ok (.iload 4, 2) := by decide +kernel
theorem dX12_chains_84 : decode cX12_chains 84 = .ok (.iaload, 1) := by decide +kernel
theorem dX12_chains_85 : decode cX12_chains 85 = .ok (.iastore, 1) := by decide +kernel
theorem dX12_chains_86 : decode cX12_chains 86 = .ok (.iinc 4 1, 3) := by decide +kernel
theorem dX12_chains_89 : decode cX12_chains 89 = .ok (.goto (-26), 3) := by decide +kernel
theorem dX12_chains_92 : decode cX12_chains 92 = .ok (.aload_n 0, 1) := by decide +kernel
theorem dX12_chains_93 : decode cX12_chains 93 = .ok (.iload_n 2, 1) := by decide +kernel
theorem dX12_chains_94 : decode cX12_chains 94 = .ok (.invokevirtual 160, 3) := by decide +kernel
theorem dX12_chains_97 : decode cX12_chains 97 = .ok (.ifCond .eq 6, 3) := by decide +kernel
set_option maxHeartbeats 4000000 in
set_option maxRecDepth 100000 in
theorem w_X12_chains (l : Launch) (D : va_G) (cI cS : ClassId) (sz : Nat) (b : Nat → Nat) (L v : SU) (hL : TyL L) (hV : TyV v) (x0 x1 x2 : Int32) : Met l yX12_chains wsX12_chains ({ frames := 3, cells := 0, slots := 0, locals := 120 }) (PQ D cI cS (wM cI b L v) sz [.ref (b 0), .int x0, .int x1, .int x2]) (QF (S := SU) D (wM cI b L v) (wM cI b L) sz (fun r u => TyV u ∧ Rg (-2147483648) 2147483647 r ∧ True)) 0 0 (va_A (wM cI b L v) sz) := by
  refine Met.ofW (cc := cX12_chains) (maxL := 12) (ret := (some .int)) (by decide) rfl ?_
  intro p e s m args below meth c s₁ B hml hv
  obtain ⟨rfl, hsz, hP, hKK, hD0⟩ := hv
  have hx := B.exec
  have hb := B.bytes
  have hr := B.returns
  have hts := atoms_spec (ws := wsX12_chains) B.pre
  have hown : s.vm.findClass RX12 = some m.cls := findClass_of_methodNamed B.named
  have hlocks := B.notSynchronized
  have hK := hKK.1
  have hin12 : ∀ w ∈ wsX120, w ∈ wsX12_chains := by decide +kernel
  subst hsz
  have hD := hD0.self (sz := s.heap.size)
  obtain ⟨A, hAe⟩ : ∃ A, A = va_A (wM cI b L v) s.heap.size := ⟨_, rfl⟩
  rw [← hAe] at hD
  have hA : ∀ q : Nat, s.heap.size ≤ q → A q := fun q h => by rw [hAe]; exact Or.inr h
  have hS : va_S A s.heap s.heap [] := va_S.rf
  have hl := lv_entry ([.ref (b 0), .int x0, .int x1, .int x2]) (n := 12) (Nat.le_of_ble_eq_true rfl)
  rw [lg_entry_eq]
  generalize (lg_sl ([.ref (b 0), .int x0, .int x1, .int x2]) ++ List.replicate (12 - (lg_sl ([.ref (b 0), .int x0, .int x1, .int x2])).length) Slot.unset).toArray = ls at hl ⊢
  have hl : lv_has ls 12 [(0, .ref (b 0)), (1, .int x0), (2, .int x1), (3, .int x2)] := hl
  have lp163 : ∀ (n163 : Nat) (y163_l4 y163_l5 y163_l6 y163_l7 : Int32) (v : SU) (H : Heap) (locs : List Loc) (ls : Array Slot), Rg 0 2 x2 → Rg 0 4095 y163_l4 → Rg 0 2147483647 y163_l6 → TyV v → va_P D cls (wM cI b L v) H → va_D A (wM cI b L v) → va_S A s.heap H locs → lv_has ls 12 [(0, .ref (b 0)), (3, .int x2), (4, .int y163_l4), (5, .int y163_l5), (6, .int y163_l6), (7, .int y163_l7)] → y163_l4.toInt < (n163 : Int) → W p l e (headSpec wsX12_chains ({ frames := 3, cells := 0, slots := 0, locals := 120 })).room s m ([.ref (b 0), .int x0, .int x1, .int x2]).toArray below meth c H locs 0 0 (MQ below (QF (S := SU) D (wM cI b L v) (wM cI b L) s.heap.size (fun r u => TyV u ∧ Rg (-2147483648) 2147483647 r ∧ True)) ([.ref (b 0), .int x0, .int x1, .int x2]).toArray s 0 0 (va_A (wM cI b L v) s.heap.size)) (F0 m 163 ls []) := by
    intro n163
    induction n163 with
    | zero =>
      intro y163_l4 y163_l5 y163_l6 y163_l7 v H locs ls g163_l3 g163_l4 g163_l6 hV hP hD hS hl hm163
      exact absurd rfl (me_0 g163_l4 (by decide) hm163)
    | succ n163 ih163 =>
      intro y163_l4 y163_l5 y163_l6 y163_l7 v H locs ls g163_l3 g163_l4 g163_l6 hV hP hD hS hl hm163
      have ct359 : ∀ (y359_l5 y359_l8 y359_l10 y359_s0 : Int32) (v : SU) (H : Heap) (locs : List Loc) (ls : Array Slot), Rg 0 2 x2 → Rg 1 4095 y163_l4 → Rg 0 2147483647 y359_s0 → (y163_l4 &&& -y163_l4) &&& y359_l8 = y163_l4 &&& -y163_l4 → TyV v → va_P D cls (wM cI b L v) H → va_D A (wM cI b L v) → va_S A s.heap H locs → lv_has ls 12 [(0, .ref (b 0)), (3, .int x2), (4, .int y163_l4), (5, .int y359_l5), (7, .int y163_l7), (8, .int y359_l8), (10, .int y359_l10)] → W p l e (headSpec wsX12_chains ({ frames := 3, cells := 0, slots := 0, locals := 120 })).room s m ([.ref (b 0), .int x0, .int x1, .int x2]).toArray below meth c H locs 0 0 (MQ below (QF (S := SU) D (wM cI b L v) (wM cI b L) s.heap.size (fun r u => TyV u ∧ Rg (-2147483648) 2147483647 r ∧ True)) ([.ref (b 0), .int x0, .int x1, .int x2]).toArray s 0 0 (va_A (wM cI b L v) s.heap.size)) (F0 m 359 ls [.int y359_s0]) := by
        intro y359_l5 y359_l8 y359_l10 y359_s0 v H locs ls g359_l3 g359_l4 g359_s0 x359_0 hV hP hD hS hl
        refine lv_istore (lv' := [(6, .int y359_s0), (0, .ref (b 0)), (3, .int x2), (4, .int y163_l4), (5, .int y359_l5), (7, .int y163_l7), (8, .int y359_l8), (10, .int y359_l10)]) hx hb dX12_chains_359 hl (by decide) rfl (fun ls hl => ?_)
        refine lv_iload hx hb dX12_chains_361 (lv_at hl 5 rfl) ?_
        refine lv_iload hx hb dX12_chains_363 (lv_at hl 7 rfl) ?_
        refine lv_iload hx hb dX12_chains_365 (lv_at hl 6 rfl) ?_
        refine lz_ss (As := [.int y359_l8]) (rest := [.int y359_l10, .int y163_l7]) ⟨hx, hb, hml, hown, hts⟩ (w_X12_bits l D cI cS y359_l8) hKK (hP.sub (ws' := []) [] rfl) (va_cwS 1 hts gX12_chains_X12_bits rfl rfl rfl (by decide +kernel) ⟨Nat.le_of_ble_eq_true rfl, Nat.le_of_ble_eq_true rfl⟩) rfl hl.1 rfl (Nat.le_of_ble_eq_true rfl) dX12_chains_367 ⟨Nat.le_of_ble_eq_true rfl, Nat.le_of_ble_eq_true rfl⟩ (fun r15429 hr15429 => ?_)
        refine lv_icmp_ne (tgt := 377) hx hb dX12_chains_370 (by decide) (fun c15430 => ?_) (fun c15430 => ?_)
        · refine lv_iconst (v := 0) hx hb dX12_chains_377 (by decide) ?_
          refine wk_iadd (e := (-2147483648)) (f := 2147483647) hx hb dX12_chains_378 (rg_any y163_l7) (by decide : Rg 0 0 (0 : Int32)) (by decide) (fun r15431 hr15431 er15431 qr15431 => ?_)
          refine lv_istore (lv' := [(7, .int r15431), (6, .int y359_s0), (0, .ref (b 0)), (3, .int x2), (4, .int y163_l4), (5, .int y359_l5), (8, .int y359_l8), (10, .int y359_l10)]) hx hb dX12_chains_379 hl (by decide) rfl (fun ls hl => ?_)
          refine lv_iload hx hb dX12_chains_381 (lv_at hl 4 rfl) ?_
          refine lv_iload hx hb dX12_chains_383 (lv_at hl 6 rfl) ?_
          refine lv_iconst (v := (-1)) hx hb dX12_chains_385 (by decide) ?_
          refine lv_ixor hx hb dX12_chains_386 ?_
          refine wk_topP (P := fun r => r = y359_l8 ^^^ ((-1) : Int32)) rfl (fun r15432 qr15432 => ?_)
          refine wk_iandl hx hb dX12_chains_387 g359_l4 (by decide) (fun r15433 hr15433 qr15433 => ?_)
          refine lv_istore (lv' := [(4, .int r15433), (7, .int r15431), (6, .int y359_s0), (0, .ref (b 0)), (3, .int x2), (5, .int y359_l5), (8, .int y359_l8), (10, .int y359_l10)]) hx hb dX12_chains_388 hl (by decide) rfl (fun ls hl => ?_)
          refine lv_goto (tgt := 163) hx hb dX12_chains_390 (by decide) ?_
          exact ih163 _ r15433 y359_l5 y359_s0 r15431 v _ _ ls g359_l3 hr15433 g359_s0 hV hP hD hS (lv_sub (l' := [(0, .ref (b 0)), (3, .int x2), (4, .int r15433), (5, .int y359_l5), (6, .int y359_s0), (7, .int r15431)]) hl [3, 4, 0, 5, 2, 1] rfl) (me_lt hm163 (by rw [qr15433, qr15432]; exact an_piece g359_l4 x359_0))
        · refine lv_iconst (v := 1) hx hb dX12_chains_373 (by decide) ?_
          refine lv_goto (tgt := 378) hx hb dX12_chains_374 (by decide) ?_
          refine lv_iadd hx hb dX12_chains_378 ?_
          refine wk_topP (P := fun r => r = y163_l7 + (1 : Int32)) rfl (fun r15434 qr15434 => ?_)
          refine lv_istore (lv' := [(7, .int r15434), (6, .int y359_s0), (0, .ref (b 0)), (3, .int x2), (4, .int y163_l4), (5, .int y359_l5), (8, .int y359_l8), (10, .int y359_l10)]) hx hb dX12_chains_379 hl (by decide) rfl (fun ls hl => ?_)
          refine lv_iload hx hb dX12_chains_381 (lv_at hl 4 rfl) ?_
          refine lv_iload hx hb dX12_chains_383 (lv_at hl 6 rfl) ?_
          refine lv_iconst (v := (-1)) hx hb dX12_chains_385 (by decide) ?_
          refine lv_ixor hx hb dX12_chains_386 ?_
          refine wk_topP (P := fun r => r = y359_l8 ^^^ ((-1) : Int32)) rfl (fun r15435 qr15435 => ?_)
          refine wk_iandl hx hb dX12_chains_387 g359_l4 (by decide) (fun r15436 hr15436 qr15436 => ?_)
          refine lv_istore (lv' := [(4, .int r15436), (7, .int r15434), (6, .int y359_s0), (0, .ref (b 0)), (3, .int x2), (5, .int y359_l5), (8, .int y359_l8), (10, .int y359_l10)]) hx hb dX12_chains_388 hl (by decide) rfl (fun ls hl => ?_)
          refine lv_goto (tgt := 163) hx hb dX12_chains_390 (by decide) ?_
          exact ih163 _ r15436 y359_l5 y359_s0 r15434 v _ _ ls g359_l3 hr15436 g359_s0 hV hP hD hS (lv_sub (l' := [(0, .ref (b 0)), (3, .int x2), (4, .int r15436), (5, .int y359_l5), (6, .int y359_s0), (7, .int r15434)]) hl [3, 4, 0, 5, 2, 1] rfl) (me_lt hm163 (by rw [qr15436, qr15435]; exact an_piece g359_l4 x359_0))
      have lp182 : ∀ (n182 : Nat) (y182_l8 y182_l9 y182_l10 : Int32) (v : SU) (H : Heap) (locs : List Loc) (ls : Array Slot), Rg 0 2 x2 → Rg 1 4095 y163_l4 → Rg 0 2147483647 y163_l6 → Rg 0 12 y182_l10 → (y163_l4 &&& -y163_l4) &&& y182_l8 = y163_l4 &&& -y163_l4 → TyV v → va_P D cls (wM cI b L v) H → va_D A (wM cI b L v) → va_S A s.heap H locs → lv_has ls 12 [(0, .ref (b 0)), (3, .int x2), (4, .int y163_l4), (5, .int y163_l5), (6, .int y163_l6), (7, .int y163_l7), (8, .int y182_l8), (9, .int y182_l9), (10, .int y182_l10)] → 12 - y182_l10.toInt < (n182 : Int) → W p l e (headSpec wsX12_chains ({ frames := 3, cells := 0, slots := 0, locals := 120 })).room s m ([.ref (b 0), .int x0, .int x1, .int x2]).toArray below meth c H locs 0 0 (MQ below (QF (S := SU) D (wM cI b L v) (wM cI b L) s.heap.size (fun r u => TyV u ∧ Rg (-2147483648) 2147483647 r ∧ True)) ([.ref (b 0), .int x0, .int x1, .int x2]).toArray s 0 0 (va_A (wM cI b L v) s.heap.size)) (F0 m 182 ls []) := by
        intro n182
        induction n182 with
        | zero =>
          intro y182_l8 y182_l9 y182_l10 v H locs ls g182_l3 g182_l4 g182_l6 g182_l10 x182_0 hV hP hD hS hl hm182
          exact absurd rfl (me_z g182_l10 hm182)
        | succ n182 ih182 =>
          intro y182_l8 y182_l9 y182_l10 v H locs ls g182_l3 g182_l4 g182_l6 g182_l10 x182_0 hV hP hD hS hl hm182
          have lp197 : ∀ (n197 : Nat) (y197_l8 y197_l9 y197_l11 : Int32) (v : SU) (H : Heap) (locs : List Loc) (ls : Array Slot), Rg 0 2 x2 → Rg 1 4095 y163_l4 → Rg 0 2147483647 y163_l6 → Rg 0 11 y182_l10 → Rg 0 12 y197_l11 → (y163_l4 &&& -y163_l4) &&& y197_l8 = y163_l4 &&& -y163_l4 → TyV v → va_P D cls (wM cI b L v) H → va_D A (wM cI b L v) → va_S A s.heap H locs → lv_has ls 12 [(0, .ref (b 0)), (3, .int x2), (4, .int y163_l4), (5, .int y163_l5), (6, .int y163_l6), (7, .int y163_l7), (8, .int y197_l8), (9, .int y197_l9), (10, .int y182_l10), (11, .int y197_l11)] → 12 - y197_l11.toInt < (n197 : Int) → W p l e (headSpec wsX12_chains ({ frames := 3, cells := 0, slots := 0, locals := 120 })).room s m ([.ref (b 0), .int x0, .int x1, .int x2]).toArray below meth c H locs 0 0 (MQ below (QF (S := SU) D (wM cI b L v) (wM cI b L) s.heap.size (fun r u => TyV u ∧ Rg (-2147483648) 2147483647 r ∧ True)) ([.ref (b 0), .int x0, .int x1, .int x2]).toArray s 0 0 (va_A (wM cI b L v) s.heap.size)) (F0 m 197 ls []) := by
            intro n197
            induction n197 with
            | zero =>
              intro y197_l8 y197_l9 y197_l11 v H locs ls g197_l3 g197_l4 g197_l6 g197_l10 g197_l11 x197_0 hV hP hD hS hl hm197
              exact absurd rfl (me_z g197_l11 hm197)
            | succ n197 ih197 =>
              intro y197_l8 y197_l9 y197_l11 v H locs ls g197_l3 g197_l4 g197_l6 g197_l10 g197_l11 x197_0 hV hP hD hS hl hm197
              have ct304 : ∀ (y304_l8 y304_s0 : Int32) (v : SU) (H : Heap) (locs : List Loc) (ls : Array Slot), Rg 0 2 x2 → Rg 1 4095 y163_l4 → Rg 0 2147483647 y163_l6 → Rg 0 11 y182_l10 → Rg 0 11 y197_l11 → Rg 0 1 y304_s0 → (y163_l4 &&& -y163_l4) &&& y304_l8 = y163_l4 &&& -y163_l4 → TyV v → va_P D cls (wM cI b L v) H → va_D A (wM cI b L v) → va_S A s.heap H locs → lv_has ls 12 [(0, .ref (b 0)), (3, .int x2), (4, .int y163_l4), (5, .int y163_l5), (6, .int y163_l6), (7, .int y163_l7), (8, .int y304_l8), (10, .int y182_l10), (11, .int y197_l11)] → W p l e (headSpec wsX12_chains ({ frames := 3, cells := 0, slots := 0, locals := 120 })).room s m ([.ref (b 0), .int x0, .int x1, .int x2]).toArray below meth c H locs 0 0 (MQ below (QF (S := SU) D (wM cI b L v) (wM cI b L) s.heap.size (fun r u => TyV u ∧ Rg (-2147483648) 2147483647 r ∧ True)) ([.ref (b 0), .int x0, .int x1, .int x2]).toArray s 0 0 (va_A (wM cI b L v) s.heap.size)) (F0 m 304 ls [.int y304_s0, .int y197_l9]) := by
                intro y304_l8 y304_s0 v H locs ls g304_l3 g304_l4 g304_l6 g304_l10 g304_l11 g304_s0 x304_0 hV hP hD hS hl
                refine lv_aload_n hx hb dX12_chains_304 rfl (lv_at hl 0 rfl) ?_
                refine va_get (D := D) (ci := 12) (v := .ref (b 7)) (C := RX12) (T := TX12) (N := 24) hx hb hts hin12 hown hK hP 0 rfl rfl 8 (by decide) (hts (.fieldLink RX12 32 "MissedPointsModel" "others" "[I") (by decide +kernel)) (fun _ h9 => h9) rfl dX12_chains_305 ?_
                refine lv_iload hx hb dX12_chains_308 (lv_at hl 8 rfl) ?_
                refine wk_aldA hx hb hK hP 7 0 rfl rfl (rg_in g304_l11 (by decide) (by decide)) dX12_chains_310 (fun r15437 => ?_)
                refine lv_iconst (v := (-1)) hx hb dX12_chains_311 (by decide) ?_
                refine lv_icmp_eq (tgt := 319) hx hb dX12_chains_312 (by decide) (fun c15438 => ?_) (fun c15438 => ?_)
                · have g15439 : Rg (-1) (-1) r15437 := wk_eql (rg_any r15437) (by decide : Rg (-1) (-1) ((-1) : Int32)) c15438 (by decide)
                  refine lv_iconst (v := 0) hx hb dX12_chains_319 (by decide) ?_
                  refine wk_iadd (e := 0) (f := 1) hx hb dX12_chains_320 g304_s0 (by decide : Rg 0 0 (0 : Int32)) (by decide) (fun r15440 hr15440 er15440 qr15440 => ?_)
                  refine lv_iadd hx hb dX12_chains_321 ?_
                  refine wk_topP (P := fun r => r = y197_l9 + r15440) rfl (fun r15441 qr15441 => ?_)
                  refine lv_istore (lv' := [(9, .int r15441), (0, .ref (b 0)), (3, .int x2), (4, .int y163_l4), (5, .int y163_l5), (6, .int y163_l6), (7, .int y163_l7), (8, .int y304_l8), (10, .int y182_l10), (11, .int y197_l11)]) hx hb dX12_chains_322 hl (by decide) rfl (fun ls hl => ?_)
                  refine wk_iinc (lv' := fun r => [(11, .int r), (9, .int r15441), (0, .ref (b 0)), (3, .int x2), (4, .int y163_l4), (5, .int y163_l5), (6, .int y163_l6), (7, .int y163_l7), (8, .int y304_l8), (10, .int y182_l10)]) (e := 1) (f := 12) hx hb dX12_chains_324 hl (k := 9) rfl (by decide) g304_l11 (by decide) (fun _ => rfl) (fun r15442 ls hr15442 er15442 hl => ?_)
                  refine lv_goto (tgt := 197) hx hb dX12_chains_327 (by decide) ?_
                  exact ih197 _ y304_l8 r15441 r15442 v _ _ ls g304_l3 g304_l4 g304_l6 g304_l10 (rg_w hr15442 (by decide) (by decide)) (by exact x304_0) hV hP hD hS (lv_sub (l' := [(0, .ref (b 0)), (3, .int x2), (4, .int y163_l4), (5, .int y163_l5), (6, .int y163_l6), (7, .int y163_l7), (8, .int y304_l8), (9, .int r15441), (10, .int y182_l10), (11, .int r15442)]) hl [2, 3, 4, 5, 6, 7, 8, 1, 9, 0] rfl) (me_up hm197 er15442 (by decide))
                · refine lv_iconst (v := 1) hx hb dX12_chains_315 (by decide) ?_
                  refine lv_goto (tgt := 320) hx hb dX12_chains_316 (by decide) ?_
                  refine wk_iadd (e := 1) (f := 2) hx hb dX12_chains_320 g304_s0 (by decide : Rg 1 1 (1 : Int32)) (by decide) (fun r15443 hr15443 er15443 qr15443 => ?_)
                  refine lv_iadd hx hb dX12_chains_321 ?_
                  refine wk_topP (P := fun r => r = y197_l9 + r15443) rfl (fun r15444 qr15444 => ?_)
                  refine lv_istore (lv' := [(9, .int r15444), (0, .ref (b 0)), (3, .int x2), (4, .int y163_l4), (5, .int y163_l5), (6, .int y163_l6), (7, .int y163_l7), (8, .int y304_l8), (10, .int y182_l10), (11, .int y197_l11)]) hx hb dX12_chains_322 hl (by decide) rfl (fun ls hl => ?_)
                  refine wk_iinc (lv' := fun r => [(11, .int r), (9, .int r15444), (0, .ref (b 0)), (3, .int x2), (4, .int y163_l4), (5, .int y163_l5), (6, .int y163_l6), (7, .int y163_l7), (8, .int y304_l8), (10, .int y182_l10)]) (e := 1) (f := 12) hx hb dX12_chains_324 hl (k := 9) rfl (by decide) g304_l11 (by decide) (fun _ => rfl) (fun r15445 ls hr15445 er15445 hl => ?_)
                  refine lv_goto (tgt := 197) hx hb dX12_chains_327 (by decide) ?_
                  exact ih197 _ y304_l8 r15444 r15445 v _ _ ls g304_l3 g304_l4 g304_l6 g304_l10 (rg_w hr15445 (by decide) (by decide)) (by exact x304_0) hV hP hD hS (lv_sub (l' := [(0, .ref (b 0)), (3, .int x2), (4, .int y163_l4), (5, .int y163_l5), (6, .int y163_l6), (7, .int y163_l7), (8, .int y304_l8), (9, .int r15444), (10, .int y182_l10), (11, .int r15445)]) hl [2, 3, 4, 5, 6, 7, 8, 1, 9, 0] rfl) (me_up hm197 er15445 (by decide))
              have ct261 : ∀ (y261_l8 : Int32) (v : SU) (H : Heap) (locs : List Loc) (ls : Array Slot), Rg 0 2 x2 → Rg 1 4095 y163_l4 → Rg 0 2147483647 y163_l6 → Rg 0 11 y182_l10 → Rg 0 11 y197_l11 → (y163_l4 &&& -y163_l4) &&& y261_l8 = y163_l4 &&& -y163_l4 → TyV v → va_P D cls (wM cI b L v) H → va_D A (wM cI b L v) → va_S A s.heap H locs → lv_has ls 12 [(0, .ref (b 0)), (3, .int x2), (4, .int y163_l4), (5, .int y163_l5), (6, .int y163_l6), (7, .int y163_l7), (8, .int y261_l8), (9, .int y197_l9), (10, .int y182_l10), (11, .int y197_l11)] → W p l e (headSpec wsX12_chains ({ frames := 3, cells := 0, slots := 0, locals := 120 })).room s m ([.ref (b 0), .int x0, .int x1, .int x2]).toArray below meth c H locs 0 0 (MQ below (QF (S := SU) D (wM cI b L v) (wM cI b L) s.heap.size (fun r u => TyV u ∧ Rg (-2147483648) 2147483647 r ∧ True)) ([.ref (b 0), .int x0, .int x1, .int x2]).toArray s 0 0 (va_A (wM cI b L v) s.heap.size)) (F0 m 261 ls []) := by
                intro y261_l8 v H locs ls g261_l3 g261_l4 g261_l6 g261_l10 g261_l11 x261_0 hV hP hD hS hl
                refine lv_aload_n hx hb dX12_chains_261 rfl (lv_at hl 0 rfl) ?_
                refine va_get (D := D) (ci := 12) (v := .ref (b 7)) (C := RX12) (T := TX12) (N := 24) hx hb hts hin12 hown hK hP 0 rfl rfl 8 (by decide) (hts (.fieldLink RX12 32 "MissedPointsModel" "others" "[I") (by decide +kernel)) (fun _ h9 => h9) rfl dX12_chains_262 ?_
                refine lv_iload hx hb dX12_chains_265 (lv_at hl 9 rfl) ?_
                refine wk_aldA hx hb hK hP 7 0 rfl rfl (rg_in g261_l11 (by decide) (by decide)) dX12_chains_267 (fun r15446 => ?_)
                refine lv_iconst (v := (-1)) hx hb dX12_chains_268 (by decide) ?_
                refine lv_icmp_eq (tgt := 286) hx hb dX12_chains_269 (by decide) (fun c15447 => ?_) (fun c15447 => ?_)
                · have g15448 : Rg (-1) (-1) r15446 := wk_eql (rg_any r15446) (by decide : Rg (-1) (-1) ((-1) : Int32)) c15447 (by decide)
                  refine lv_iload hx hb dX12_chains_286 (lv_at hl 7 rfl) ?_
                  refine lv_aload_n hx hb dX12_chains_288 rfl (lv_at hl 0 rfl) ?_
                  refine va_get (D := D) (ci := 12) (v := .ref (b 5)) (C := RX12) (T := TX12) (N := 24) hx hb hts hin12 hown hK hP 0 rfl rfl 6 (by decide) (hts (.fieldLink RX12 26 "MissedPointsModel" "mates" "[I") (by decide +kernel)) (fun _ h9 => h9) rfl dX12_chains_289 ?_
                  refine lv_iload hx hb dX12_chains_292 (lv_at hl 9 rfl) ?_
                  refine wk_ald hx hb hK hP 5 0 rfl rfl (rg_in g261_l11 (by decide) (by decide)) dX12_chains_294 hV.2.2.2.1 (fun r15449 hr15449 => ?_)
                  refine lv_iconst (v := (-1)) hx hb dX12_chains_295 (by decide) ?_
                  refine lv_icmp_eq (tgt := 303) hx hb dX12_chains_296 (by decide) (fun c15450 => ?_) (fun c15450 => ?_)
                  · have g15451 : Rg (-1) (-1) r15449 := wk_eql hr15449 (by decide : Rg (-1) (-1) ((-1) : Int32)) c15450 (by decide)
                    refine lv_iconst (v := 0) hx hb dX12_chains_303 (by decide) ?_
                    exact ct304 y261_l8 (0 : Int32) v _ _ ls g261_l3 g261_l4 g261_l6 g261_l10 g261_l11 (by decide : Rg 0 1 (0 : Int32)) (by exact x261_0) hV hP hD hS (lv_sub (l' := [(0, .ref (b 0)), (3, .int x2), (4, .int y163_l4), (5, .int y163_l5), (6, .int y163_l6), (7, .int y163_l7), (8, .int y261_l8), (10, .int y182_l10), (11, .int y197_l11)]) hl [0, 1, 2, 3, 4, 5, 6, 8, 9] rfl)
                  · have g15452 : Rg 0 11 r15449 := rg_ne_lo (k := (-1)) hr15449 (by decide) c15450 (by decide)
                    refine lv_iconst (v := 1) hx hb dX12_chains_299 (by decide) ?_
                    refine lv_goto (tgt := 304) hx hb dX12_chains_300 (by decide) ?_
                    exact ct304 y261_l8 (1 : Int32) v _ _ ls g261_l3 g261_l4 g261_l6 g261_l10 g261_l11 (by decide : Rg 0 1 (1 : Int32)) (by exact x261_0) hV hP hD hS (lv_sub (l' := [(0, .ref (b 0)), (3, .int x2), (4, .int y163_l4), (5, .int y163_l5), (6, .int y163_l6), (7, .int y163_l7), (8, .int y261_l8), (10, .int y182_l10), (11, .int y197_l11)]) hl [0, 1, 2, 3, 4, 5, 6, 8, 9] rfl)
                · refine lv_iload hx hb dX12_chains_272 (lv_at hl 6 rfl) ?_
                  refine lv_iconst (v := 1) hx hb dX12_chains_274 (by decide) ?_
                  refine lv_aload_n hx hb dX12_chains_275 rfl (lv_at hl 0 rfl) ?_
                  refine va_get (D := D) (ci := 12) (v := .ref (b 7)) (C := RX12) (T := TX12) (N := 24) hx hb hts hin12 hown hK hP 0 rfl rfl 8 (by decide) (hts (.fieldLink RX12 32 "MissedPointsModel" "others" "[I") (by decide +kernel)) (fun _ h9 => h9) rfl dX12_chains_276 ?_
                  refine lv_iload hx hb dX12_chains_279 (lv_at hl 9 rfl) ?_
                  refine wk_aldA hx hb hK hP 7 0 rfl rfl (rg_in g261_l11 (by decide) (by decide)) dX12_chains_281 (fun r15453 => ?_)
                  refine lv_ishl hx hb dX12_chains_282 ?_
                  refine wk_topP (P := fun r => r = (1 : Int32) <<< (r15453 &&& 31)) rfl (fun r15454 qr15454 => ?_)
                  refine lv_ior hx hb dX12_chains_283 ?_
                  refine wk_topP (P := fun r => r = y261_l8 ||| r15454) rfl (fun r15455 qr15455 => ?_)
                  refine lv_istore (lv' := [(8, .int r15455), (0, .ref (b 0)), (3, .int x2), (4, .int y163_l4), (5, .int y163_l5), (6, .int y163_l6), (7, .int y163_l7), (9, .int y197_l9), (10, .int y182_l10), (11, .int y197_l11)]) hx hb dX12_chains_284 hl (by decide) rfl (fun ls hl => ?_)
                  refine lv_iload hx hb dX12_chains_286 (lv_at hl 7 rfl) ?_
                  refine lv_aload_n hx hb dX12_chains_288 rfl (lv_at hl 1 rfl) ?_
                  refine va_get (D := D) (ci := 12) (v := .ref (b 5)) (C := RX12) (T := TX12) (N := 24) hx hb hts hin12 hown hK hP 0 rfl rfl 6 (by decide) (hts (.fieldLink RX12 26 "MissedPointsModel" "mates" "[I") (by decide +kernel)) (fun _ h9 => h9) rfl dX12_chains_289 ?_
                  refine lv_iload hx hb dX12_chains_292 (lv_at hl 9 rfl) ?_
                  refine wk_ald hx hb hK hP 5 0 rfl rfl (rg_in g261_l11 (by decide) (by decide)) dX12_chains_294 hV.2.2.2.1 (fun r15456 hr15456 => ?_)
                  refine lv_iconst (v := (-1)) hx hb dX12_chains_295 (by decide) ?_
                  refine lv_icmp_eq (tgt := 303) hx hb dX12_chains_296 (by decide) (fun c15457 => ?_) (fun c15457 => ?_)
                  · have g15458 : Rg (-1) (-1) r15456 := wk_eql hr15456 (by decide : Rg (-1) (-1) ((-1) : Int32)) c15457 (by decide)
                    refine lv_iconst (v := 0) hx hb dX12_chains_303 (by decide) ?_
                    exact ct304 r15455 (0 : Int32) v _ _ ls g261_l3 g261_l4 g261_l6 g261_l10 g261_l11 (by decide : Rg 0 1 (0 : Int32)) (by exact (by rw [qr15455]; exact lb_or x261_0)) hV hP hD hS (lv_sub (l' := [(0, .ref (b 0)), (3, .int x2), (4, .int y163_l4), (5, .int y163_l5), (6, .int y163_l6), (7, .int y163_l7), (8, .int r15455), (10, .int y182_l10), (11, .int y197_l11)]) hl [1, 2, 3, 4, 5, 6, 0, 8, 9] rfl)
                  · have g15459 : Rg 0 11 r15456 := rg_ne_lo (k := (-1)) hr15456 (by decide) c15457 (by decide)
                    refine lv_iconst (v := 1) hx hb dX12_chains_299 (by decide) ?_
                    refine lv_goto (tgt := 304) hx hb dX12_chains_300 (by decide) ?_
                    exact ct304 r15455 (1 : Int32) v _ _ ls g261_l3 g261_l4 g261_l6 g261_l10 g261_l11 (by decide : Rg 0 1 (1 : Int32)) (by exact (by rw [qr15455]; exact lb_or x261_0)) hV hP hD hS (lv_sub (l' := [(0, .ref (b 0)), (3, .int x2), (4, .int y163_l4), (5, .int y163_l5), (6, .int y163_l6), (7, .int y163_l7), (8, .int r15455), (10, .int y182_l10), (11, .int y197_l11)]) hl [1, 2, 3, 4, 5, 6, 0, 8, 9] rfl)
              refine lv_iload hx hb dX12_chains_197 (lv_at hl 9 rfl) ?_
              refine lv_aload_n hx hb dX12_chains_199 rfl (lv_at hl 0 rfl) ?_
              refine va_get (D := D) (ci := 12) (v := .int (L 0 0)) (C := RX12) (T := TX12) (N := 24) hx hb hts hin12 hown hK hP 0 rfl rfl 0 (by decide) (hts (.fieldLink RX12 63 "MissedPointsModel" "many" "I") (by decide +kernel)) (fun _ h9 => h9) rfl dX12_chains_200 ?_
              refine lv_icmp_ge (tgt := 330) hx hb dX12_chains_203 (by decide) (fun c15460 => ?_) (fun c15460 => ?_)
              · refine wk_iinc (lv' := fun r => [(10, .int r), (0, .ref (b 0)), (3, .int x2), (4, .int y163_l4), (5, .int y163_l5), (6, .int y163_l6), (7, .int y163_l7), (8, .int y197_l8), (9, .int y197_l9), (11, .int y197_l11)]) (e := 1) (f := 12) hx hb dX12_chains_330 hl (k := 8) rfl (by decide) g197_l10 (by decide) (fun _ => rfl) (fun r15461 ls hr15461 er15461 hl => ?_)
                refine lv_goto (tgt := 182) hx hb dX12_chains_333 (by decide) ?_
                exact ih182 _ y197_l8 y197_l9 r15461 v _ _ ls g197_l3 g197_l4 g197_l6 (rg_w hr15461 (by decide) (by decide)) (by exact x197_0) hV hP hD hS (lv_sub (l' := [(0, .ref (b 0)), (3, .int x2), (4, .int y163_l4), (5, .int y163_l5), (6, .int y163_l6), (7, .int y163_l7), (8, .int y197_l8), (9, .int y197_l9), (10, .int r15461)]) hl [1, 2, 3, 4, 5, 6, 7, 8, 0] rfl) (me_up hm182 er15461 (by decide))
              · have g15462 : Rg 1 12 (L 0 0) := rg_ltr g197_l11 hL.1 (rg_nle c15460) (by decide)
                have g15463 : Rg 0 11 y197_l11 := rg_ltl g197_l11 hL.1 (rg_nle c15460) (by decide)
                refine lv_iload hx hb dX12_chains_206 (lv_at hl 6 rfl) ?_
                refine lv_iload hx hb dX12_chains_208 (lv_at hl 9 rfl) ?_
                refine lz_ss (As := [.int y197_l8, .int y197_l11]) (rest := []) ⟨hx, hb, hml, hown, hts⟩ (w_X12_has l D cI cS y197_l8 y197_l11) hKK (hP.sub (ws' := []) [] rfl) (va_cwS 2 hts gX12_chains_X12_has rfl rfl rfl (by decide +kernel) ⟨Nat.le_of_ble_eq_true rfl, Nat.le_of_ble_eq_true rfl⟩) rfl hl.1 rfl (Nat.le_of_ble_eq_true rfl) dX12_chains_210 ⟨Nat.le_of_ble_eq_true rfl, Nat.le_of_ble_eq_true rfl⟩ (fun r15464 hr15464 => ?_)
                refine lv_if_eq (tgt := 324) hx hb dX12_chains_213 (by decide) (fun c15465 => ?_) (fun c15465 => ?_)
                · have g15466 : Rg 0 0 r15464 := wk_eql hr15464.1 (by decide : Rg 0 0 (0 : Int32)) c15465 (by decide)
                  refine wk_iinc (lv' := fun r => [(11, .int r), (0, .ref (b 0)), (3, .int x2), (4, .int y163_l4), (5, .int y163_l5), (6, .int y163_l6), (7, .int y163_l7), (8, .int y197_l8), (9, .int y197_l9), (10, .int y182_l10)]) (e := 1) (f := 12) hx hb dX12_chains_324 hl (k := 9) rfl (by decide) g15463 (by decide) (fun _ => rfl) (fun r15467 ls hr15467 er15467 hl => ?_)
                  refine lv_goto (tgt := 197) hx hb dX12_chains_327 (by decide) ?_
                  exact ih197 _ y197_l8 y197_l9 r15467 v _ _ ls g197_l3 g197_l4 g197_l6 g197_l10 (rg_w hr15467 (by decide) (by decide)) (by exact x197_0) hV hP hD hS (lv_sub (l' := [(0, .ref (b 0)), (3, .int x2), (4, .int y163_l4), (5, .int y163_l5), (6, .int y163_l6), (7, .int y163_l7), (8, .int y197_l8), (9, .int y197_l9), (10, .int y182_l10), (11, .int r15467)]) hl [1, 2, 3, 4, 5, 6, 7, 8, 9, 0] rfl) (me_up hm197 er15467 (by decide))
                · have g15468 : Rg 1 1 r15464 := rg_ne_lo (k := 0) hr15464.1 (by decide) c15465 (by decide)
                  refine lv_aload_n hx hb dX12_chains_216 rfl (lv_at hl 0 rfl) ?_
                  refine va_get (D := D) (ci := 12) (v := .ref (b 5)) (C := RX12) (T := TX12) (N := 24) hx hb hts hin12 hown hK hP 0 rfl rfl 6 (by decide) (hts (.fieldLink RX12 26 "MissedPointsModel" "mates" "[I") (by decide +kernel)) (fun _ h9 => h9) rfl dX12_chains_217 ?_
                  refine lv_iload hx hb dX12_chains_220 (lv_at hl 9 rfl) ?_
                  refine wk_ald hx hb hK hP 5 0 rfl rfl (rg_in g15463 (by decide) (by decide)) dX12_chains_222 hV.2.2.2.1 (fun r15469 hr15469 => ?_)
                  refine lv_aload_n hx hb dX12_chains_223 rfl (lv_at hl 0 rfl) ?_
                  refine va_get (D := D) (ci := 12) (v := .ref (b 7)) (C := RX12) (T := TX12) (N := 24) hx hb hts hin12 hown hK hP 0 rfl rfl 8 (by decide) (hts (.fieldLink RX12 32 "MissedPointsModel" "others" "[I") (by decide +kernel)) (fun _ h9 => h9) rfl dX12_chains_224 ?_
                  refine lv_iload hx hb dX12_chains_227 (lv_at hl 9 rfl) ?_
                  refine wk_aldA hx hb hK hP 7 0 rfl rfl (rg_in g15463 (by decide) (by decide)) dX12_chains_229 (fun r15470 => ?_)
                  refine lv_icmp_ne (tgt := 236) hx hb dX12_chains_230 (by decide) (fun c15471 => ?_) (fun c15471 => ?_)
                  · refine lv_aload_n hx hb dX12_chains_236 rfl (lv_at hl 0 rfl) ?_
                    refine va_get (D := D) (ci := 12) (v := .ref (b 5)) (C := RX12) (T := TX12) (N := 24) hx hb hts hin12 hown hK hP 0 rfl rfl 6 (by decide) (hts (.fieldLink RX12 26 "MissedPointsModel" "mates" "[I") (by decide +kernel)) (fun _ h9 => h9) rfl dX12_chains_237 ?_
                    refine lv_iload hx hb dX12_chains_240 (lv_at hl 9 rfl) ?_
                    refine wk_ald hx hb hK hP 5 0 rfl rfl (rg_in g15463 (by decide) (by decide)) dX12_chains_242 hV.2.2.2.1 (fun r15472 hr15472 => ?_)
                    refine lv_iconst (v := (-1)) hx hb dX12_chains_243 (by decide) ?_
                    refine lv_icmp_eq (tgt := 261) hx hb dX12_chains_244 (by decide) (fun c15473 => ?_) (fun c15473 => ?_)
                    · have g15474 : Rg (-1) (-1) r15472 := wk_eql hr15472 (by decide : Rg (-1) (-1) ((-1) : Int32)) c15473 (by decide)
                      exact ct261 y197_l8 v _ _ ls g197_l3 g197_l4 g197_l6 g197_l10 g15463 (by exact x197_0) hV hP hD hS (lv_sub (l' := [(0, .ref (b 0)), (3, .int x2), (4, .int y163_l4), (5, .int y163_l5), (6, .int y163_l6), (7, .int y163_l7), (8, .int y197_l8), (9, .int y197_l9), (10, .int y182_l10), (11, .int y197_l11)]) hl [0, 1, 2, 3, 4, 5, 6, 7, 8, 9] rfl)
                    · have g15475 : Rg 0 11 r15472 := rg_ne_lo (k := (-1)) hr15472 (by decide) c15473 (by decide)
                      refine lv_iload hx hb dX12_chains_247 (lv_at hl 6 rfl) ?_
                      refine lv_iconst (v := 1) hx hb dX12_chains_249 (by decide) ?_
                      refine lv_aload_n hx hb dX12_chains_250 rfl (lv_at hl 0 rfl) ?_
                      refine va_get (D := D) (ci := 12) (v := .ref (b 5)) (C := RX12) (T := TX12) (N := 24) hx hb hts hin12 hown hK hP 0 rfl rfl 6 (by decide) (hts (.fieldLink RX12 26 "MissedPointsModel" "mates" "[I") (by decide +kernel)) (fun _ h9 => h9) rfl dX12_chains_251 ?_
                      refine lv_iload hx hb dX12_chains_254 (lv_at hl 9 rfl) ?_
                      refine wk_ald hx hb hK hP 5 0 rfl rfl (rg_in g15463 (by decide) (by decide)) dX12_chains_256 hV.2.2.2.1 (fun r15476 hr15476 => ?_)
                      refine lv_ishl hx hb dX12_chains_257 ?_
                      refine wk_topP (P := fun r => r = (1 : Int32) <<< (r15476 &&& 31)) rfl (fun r15477 qr15477 => ?_)
                      refine lv_ior hx hb dX12_chains_258 ?_
                      refine wk_topP (P := fun r => r = y197_l8 ||| r15477) rfl (fun r15478 qr15478 => ?_)
                      refine lv_istore (lv' := [(8, .int r15478), (0, .ref (b 0)), (3, .int x2), (4, .int y163_l4), (5, .int y163_l5), (6, .int y163_l6), (7, .int y163_l7), (9, .int y197_l9), (10, .int y182_l10), (11, .int y197_l11)]) hx hb dX12_chains_259 hl (by decide) rfl (fun ls hl => ?_)
                      exact ct261 r15478 v _ _ ls g197_l3 g197_l4 g197_l6 g197_l10 g15463 (by exact (by rw [qr15478]; exact lb_or x197_0)) hV hP hD hS (lv_sub (l' := [(0, .ref (b 0)), (3, .int x2), (4, .int y163_l4), (5, .int y163_l5), (6, .int y163_l6), (7, .int y163_l7), (8, .int r15478), (9, .int y197_l9), (10, .int y182_l10), (11, .int y197_l11)]) hl [1, 2, 3, 4, 5, 6, 0, 7, 8, 9] rfl)
                  · have g15479 : Rg (-1) 11 r15470 := wk_eqr hr15469 (rg_any r15470) c15471 (by decide)
                    refine lv_goto (tgt := 324) hx hb dX12_chains_233 (by decide) ?_
                    refine wk_iinc (lv' := fun r => [(11, .int r), (0, .ref (b 0)), (3, .int x2), (4, .int y163_l4), (5, .int y163_l5), (6, .int y163_l6), (7, .int y163_l7), (8, .int y197_l8), (9, .int y197_l9), (10, .int y182_l10)]) (e := 1) (f := 12) hx hb dX12_chains_324 hl (k := 9) rfl (by decide) g15463 (by decide) (fun _ => rfl) (fun r15480 ls hr15480 er15480 hl => ?_)
                    refine lv_goto (tgt := 197) hx hb dX12_chains_327 (by decide) ?_
                    exact ih197 _ y197_l8 y197_l9 r15480 v _ _ ls g197_l3 g197_l4 g197_l6 g197_l10 (rg_w hr15480 (by decide) (by decide)) (by exact x197_0) hV hP hD hS (lv_sub (l' := [(0, .ref (b 0)), (3, .int x2), (4, .int y163_l4), (5, .int y163_l5), (6, .int y163_l6), (7, .int y163_l7), (8, .int y197_l8), (9, .int y197_l9), (10, .int y182_l10), (11, .int r15480)]) hl [1, 2, 3, 4, 5, 6, 7, 8, 9, 0] rfl) (me_up hm197 er15480 (by decide))
          refine lv_iload hx hb dX12_chains_182 (lv_at hl 8 rfl) ?_
          refine lv_aload_n hx hb dX12_chains_184 rfl (lv_at hl 0 rfl) ?_
          refine va_get (D := D) (ci := 12) (v := .int (L 0 0)) (C := RX12) (T := TX12) (N := 24) hx hb hts hin12 hown hK hP 0 rfl rfl 0 (by decide) (hts (.fieldLink RX12 63 "MissedPointsModel" "many" "I") (by decide +kernel)) (fun _ h9 => h9) rfl dX12_chains_185 ?_
          refine lv_icmp_ge (tgt := 336) hx hb dX12_chains_188 (by decide) (fun c15481 => ?_) (fun c15481 => ?_)
          · refine lv_iload hx hb dX12_chains_336 (lv_at hl 7 rfl) ?_
            refine lv_iconst (v := 2) hx hb dX12_chains_338 (by decide) ?_
            refine lv_idiv hx hb dX12_chains_339 (by decide) ?_
            refine wk_any (fun r15482 => ?_)
            refine lv_istore (lv' := [(10, .int r15482), (0, .ref (b 0)), (3, .int x2), (4, .int y163_l4), (5, .int y163_l5), (6, .int y163_l6), (7, .int y163_l7), (8, .int y182_l8), (9, .int y182_l9)]) hx hb dX12_chains_340 hl (by decide) rfl (fun ls hl => ?_)
            refine wk_iincA (lv' := fun r => [(5, .int r), (10, .int r15482), (0, .ref (b 0)), (3, .int x2), (4, .int y163_l4), (6, .int y163_l6), (7, .int y163_l7), (8, .int y182_l8), (9, .int y182_l9)]) hx hb dX12_chains_342 hl (k := 4) rfl (by decide) (fun _ => rfl) (fun r15483 ls hl => ?_)
            refine lv_iload hx hb dX12_chains_345 (lv_at hl 1 rfl) ?_
            refine lv_iload hx hb dX12_chains_347 (lv_at hl 5 rfl) ?_
            refine lv_icmp_le (tgt := 357) hx hb dX12_chains_349 (by decide) (fun c15484 => ?_) (fun c15484 => ?_)
            · refine lv_iload hx hb dX12_chains_357 (lv_at hl 5 rfl) ?_
              exact ct359 r15483 y182_l8 r15482 y163_l6 v _ _ ls g182_l3 g182_l4 g182_l6 (by exact x182_0) hV hP hD hS (lv_sub (l' := [(0, .ref (b 0)), (3, .int x2), (4, .int y163_l4), (5, .int r15483), (7, .int y163_l7), (8, .int y182_l8), (10, .int r15482)]) hl [2, 3, 4, 0, 6, 7, 1] rfl)
            · have g15485 : Rg 1 2147483647 r15482 := rg_ltr g182_l6 (rg_any r15482) (rg_nle c15484) (by decide)
              have g15486 : Rg 0 2147483646 y163_l6 := rg_ltl g182_l6 (rg_any r15482) (rg_nle c15484) (by decide)
              refine lv_iload hx hb dX12_chains_352 (lv_at hl 1 rfl) ?_
              refine lv_goto (tgt := 359) hx hb dX12_chains_354 (by decide) ?_
              exact ct359 r15483 y182_l8 r15482 r15482 v _ _ ls g182_l3 g182_l4 (rg_w g15485 (by decide) (by decide)) (by exact x182_0) hV hP hD hS (lv_sub (l' := [(0, .ref (b 0)), (3, .int x2), (4, .int y163_l4), (5, .int r15483), (7, .int y163_l7), (8, .int y182_l8), (10, .int r15482)]) hl [2, 3, 4, 0, 6, 7, 1] rfl)
          · have g15487 : Rg 1 12 (L 0 0) := rg_ltr g182_l10 hL.1 (rg_nle c15481) (by decide)
            have g15488 : Rg 0 11 y182_l10 := rg_ltl g182_l10 hL.1 (rg_nle c15481) (by decide)
            refine lv_iconst (v := 0) hx hb dX12_chains_191 (by decide) ?_
            refine lv_istore (lv' := [(9, .int 0), (0, .ref (b 0)), (3, .int x2), (4, .int y163_l4), (5, .int y163_l5), (6, .int y163_l6), (7, .int y163_l7), (8, .int y182_l8), (10, .int y182_l10)]) hx hb dX12_chains_192 hl (by decide) rfl (fun ls hl => ?_)
            refine lv_iconst (v := 0) hx hb dX12_chains_194 (by decide) ?_
            refine lv_istore (lv' := [(11, .int 0), (9, .int 0), (0, .ref (b 0)), (3, .int x2), (4, .int y163_l4), (5, .int y163_l5), (6, .int y163_l6), (7, .int y163_l7), (8, .int y182_l8), (10, .int y182_l10)]) hx hb dX12_chains_195 hl (by decide) rfl (fun ls hl => ?_)
            exact lp197 13 y182_l8 (0 : Int32) (0 : Int32) v _ _ ls g182_l3 g182_l4 g182_l6 g15488 (by decide : Rg 0 12 (0 : Int32)) (by exact x182_0) hV hP hD hS (lv_sub (l' := [(0, .ref (b 0)), (3, .int x2), (4, .int y163_l4), (5, .int y163_l5), (6, .int y163_l6), (7, .int y163_l7), (8, .int y182_l8), (9, .int 0), (10, .int y182_l10), (11, .int 0)]) hl [2, 3, 4, 5, 6, 7, 8, 1, 9, 0] rfl) (me_i (by decide : Rg 0 12 (0 : Int32)) (by decide))
      refine lv_iload hx hb dX12_chains_163 (lv_at hl 2 rfl) ?_
      refine lv_if_eq (tgt := 393) hx hb dX12_chains_165 (by decide) (fun c15489 => ?_) (fun c15489 => ?_)
      · have g15490 : Rg 0 0 y163_l4 := wk_eql g163_l4 (by decide : Rg 0 0 (0 : Int32)) c15489 (by decide)
        refine lv_iload_n hx hb dX12_chains_393 rfl (lv_at hl 1 rfl) ?_
        refine lv_if_ne (tgt := 402) hx hb dX12_chains_394 (by decide) (fun c15491 => ?_) (fun c15491 => ?_)
        · have g15492 : Rg 1 2 x2 := rg_ne_lo (k := 0) g163_l3 (by decide) c15491 (by decide)
          refine lv_iload_n hx hb dX12_chains_402 rfl (lv_at hl 1 rfl) ?_
          refine lv_iconst (v := 1) hx hb dX12_chains_403 (by decide) ?_
          refine lv_icmp_ne (tgt := 412) hx hb dX12_chains_404 (by decide) (fun c15493 => ?_) (fun c15493 => ?_)
          · have g15494 : Rg 2 2 x2 := rg_ne_lo (k := 1) g15492 (by decide) c15493 (by decide)
            refine lv_iload hx hb dX12_chains_412 (lv_at hl 5 rfl) ?_
            subst hAe
            exact W.iret (v := y163_l7) hx hb hr (fun t ht hW => ⟨⟨_, v, rfl, ⟨hV, (rg_any y163_l7), trivial⟩, by rw [ht]; exact hP, hD⟩, hS.F ht⟩) hS.2.2 dX12_chains_414
          · have g15495 : Rg 1 1 x2 := wk_eql g15492 (by decide : Rg 1 1 (1 : Int32)) c15493 (by decide)
            refine lv_iload hx hb dX12_chains_407 (lv_at hl 4 rfl) ?_
            refine lv_goto (tgt := 414) hx hb dX12_chains_409 (by decide) ?_
            subst hAe
            exact W.iret (v := y163_l6) hx hb hr (fun t ht hW => ⟨⟨_, v, rfl, ⟨hV, (rg_any y163_l6), trivial⟩, by rw [ht]; exact hP, hD⟩, hS.F ht⟩) hS.2.2 dX12_chains_414
        · have g15496 : Rg 0 0 x2 := wk_eql g163_l3 (by decide : Rg 0 0 (0 : Int32)) c15491 (by decide)
          refine lv_iload hx hb dX12_chains_397 (lv_at hl 3 rfl) ?_
          refine lv_goto (tgt := 414) hx hb dX12_chains_399 (by decide) ?_
          subst hAe
          exact W.iret (v := y163_l5) hx hb hr (fun t ht hW => ⟨⟨_, v, rfl, ⟨hV, (rg_any y163_l5), trivial⟩, by rw [ht]; exact hP, hD⟩, hS.F ht⟩) hS.2.2 dX12_chains_414
      · have g15497 : Rg 1 4095 y163_l4 := rg_ne_lo (k := 0) g163_l4 (by decide) c15489 (by decide)
        refine lv_iload hx hb dX12_chains_168 (lv_at hl 2 rfl) ?_
        refine lv_iload hx hb dX12_chains_170 (lv_at hl 2 rfl) ?_
        refine lv_ineg hx hb dX12_chains_172 ?_
        refine wk_topP (P := fun r => r = -y163_l4) rfl (fun r15498 qr15498 => ?_)
        refine wk_iandl hx hb dX12_chains_173 g15497 (by decide) (fun r15499 hr15499 qr15499 => ?_)
        refine lv_istore (lv' := [(8, .int r15499), (0, .ref (b 0)), (3, .int x2), (4, .int y163_l4), (5, .int y163_l5), (6, .int y163_l6), (7, .int y163_l7)]) hx hb dX12_chains_174 hl (by decide) rfl (fun ls hl => ?_)
        refine lv_iconst (v := 0) hx hb dX12_chains_176 (by decide) ?_
        refine lv_istore (lv' := [(9, .int 0), (8, .int r15499), (0, .ref (b 0)), (3, .int x2), (4, .int y163_l4), (5, .int y163_l5), (6, .int y163_l6), (7, .int y163_l7)]) hx hb dX12_chains_177 hl (by decide) rfl (fun ls hl => ?_)
        refine lv_iconst (v := 0) hx hb dX12_chains_179 (by decide) ?_
        refine lv_istore (lv' := [(10, .int 0), (9, .int 0), (8, .int r15499), (0, .ref (b 0)), (3, .int x2), (4, .int y163_l4), (5, .int y163_l5), (6, .int y163_l6), (7, .int y163_l7)]) hx hb dX12_chains_180 hl (by decide) rfl (fun ls hl => ?_)
        exact lp182 13 r15499 (0 : Int32) (0 : Int32) v _ _ ls g163_l3 g15497 g163_l6 (by decide : Rg 0 12 (0 : Int32)) (by exact (by rw [qr15499, qr15498]; exact Int32.and_self)) hV hP hD hS (lv_sub (l' := [(0, .ref (b 0)), (3, .int x2), (4, .int y163_l4), (5, .int y163_l5), (6, .int y163_l6), (7, .int y163_l7), (8, .int r15499), (9, .int 0), (10, .int 0)]) hl [3, 4, 5, 6, 7, 8, 2, 1, 0] rfl) (me_i (by decide : Rg 0 12 (0 : Int32)) (by decide))
  have lp109 : ∀ (n109 : Nat) (y109_l4 y109_l5 : Int32) (v : SU) (H : Heap) (locs : List Loc) (ls : Array Slot), Rg 0 2 x2 → Rg 0 4095 y109_l4 → Rg 0 12 y109_l5 → TyV v → va_P D cls (wM cI b L v) H → va_D A (wM cI b L v) → va_S A s.heap H locs → lv_has ls 12 [(0, .ref (b 0)), (3, .int x2), (4, .int y109_l4), (5, .int y109_l5)] → 12 - y109_l5.toInt < (n109 : Int) → W p l e (headSpec wsX12_chains ({ frames := 3, cells := 0, slots := 0, locals := 120 })).room s m ([.ref (b 0), .int x0, .int x1, .int x2]).toArray below meth c H locs 0 0 (MQ below (QF (S := SU) D (wM cI b L v) (wM cI b L) s.heap.size (fun r u => TyV u ∧ Rg (-2147483648) 2147483647 r ∧ True)) ([.ref (b 0), .int x0, .int x1, .int x2]).toArray s 0 0 (va_A (wM cI b L v) s.heap.size)) (F0 m 109 ls []) := by
    intro n109
    induction n109 with
    | zero =>
      intro y109_l4 y109_l5 v H locs ls g109_l3 g109_l4 g109_l5 hV hP hD hS hl hm109
      exact absurd rfl (me_z g109_l5 hm109)
    | succ n109 ih109 =>
      intro y109_l4 y109_l5 v H locs ls g109_l3 g109_l4 g109_l5 hV hP hD hS hl hm109
      refine lv_iload hx hb dX12_chains_109 (lv_at hl 3 rfl) ?_
      refine lv_aload_n hx hb dX12_chains_111 rfl (lv_at hl 0 rfl) ?_
      refine va_get (D := D) (ci := 12) (v := .int (L 0 0)) (C := RX12) (T := TX12) (N := 24) hx hb hts hin12 hown hK hP 0 rfl rfl 0 (by decide) (hts (.fieldLink RX12 63 "MissedPointsModel" "many" "I") (by decide +kernel)) (fun _ h9 => h9) rfl dX12_chains_112 ?_
      refine lv_icmp_ge (tgt := 154) hx hb dX12_chains_115 (by decide) (fun c15500 => ?_) (fun c15500 => ?_)
      · refine lv_iconst (v := 0) hx hb dX12_chains_154 (by decide) ?_
        refine lv_istore (lv' := [(5, .int 0), (0, .ref (b 0)), (3, .int x2), (4, .int y109_l4)]) hx hb dX12_chains_155 hl (by decide) rfl (fun ls hl => ?_)
        refine lv_iconst (v := 0) hx hb dX12_chains_157 (by decide) ?_
        refine lv_istore (lv' := [(6, .int 0), (5, .int 0), (0, .ref (b 0)), (3, .int x2), (4, .int y109_l4)]) hx hb dX12_chains_158 hl (by decide) rfl (fun ls hl => ?_)
        refine lv_iconst (v := 0) hx hb dX12_chains_160 (by decide) ?_
        refine lv_istore (lv' := [(7, .int 0), (6, .int 0), (5, .int 0), (0, .ref (b 0)), (3, .int x2), (4, .int y109_l4)]) hx hb dX12_chains_161 hl (by decide) rfl (fun ls hl => ?_)
        exact lp163 4096 y109_l4 (0 : Int32) (0 : Int32) (0 : Int32) v _ _ ls g109_l3 g109_l4 (by decide : Rg 0 2147483647 (0 : Int32)) hV hP hD hS (lv_sub (l' := [(0, .ref (b 0)), (3, .int x2), (4, .int y109_l4), (5, .int 0), (6, .int 0), (7, .int 0)]) hl [3, 4, 5, 2, 1, 0] rfl) (me_k g109_l4 (by decide))
      · have g15501 : Rg 1 12 (L 0 0) := rg_ltr g109_l5 hL.1 (rg_nle c15500) (by decide)
        have g15502 : Rg 0 11 y109_l5 := rg_ltl g109_l5 hL.1 (rg_nle c15500) (by decide)
        refine lv_iload hx hb dX12_chains_118 (lv_at hl 2 rfl) ?_
        refine lv_aload_n hx hb dX12_chains_120 rfl (lv_at hl 0 rfl) ?_
        refine va_get (D := D) (ci := 12) (v := .ref (b 5)) (C := RX12) (T := TX12) (N := 24) hx hb hts hin12 hown hK hP 0 rfl rfl 6 (by decide) (hts (.fieldLink RX12 26 "MissedPointsModel" "mates" "[I") (by decide +kernel)) (fun _ h9 => h9) rfl dX12_chains_121 ?_
        refine lv_iload hx hb dX12_chains_124 (lv_at hl 3 rfl) ?_
        refine wk_ald hx hb hK hP 5 0 rfl rfl (rg_in g15502 (by decide) (by decide)) dX12_chains_126 hV.2.2.2.1 (fun r15503 hr15503 => ?_)
        refine lv_aload_n hx hb dX12_chains_127 rfl (lv_at hl 0 rfl) ?_
        refine va_get (D := D) (ci := 12) (v := .ref (b 7)) (C := RX12) (T := TX12) (N := 24) hx hb hts hin12 hown hK hP 0 rfl rfl 8 (by decide) (hts (.fieldLink RX12 32 "MissedPointsModel" "others" "[I") (by decide +kernel)) (fun _ h9 => h9) rfl dX12_chains_128 ?_
        refine lv_iload hx hb dX12_chains_131 (lv_at hl 3 rfl) ?_
        refine wk_aldA hx hb hK hP 7 0 rfl rfl (rg_in g15502 (by decide) (by decide)) dX12_chains_133 (fun r15504 => ?_)
        refine lv_icmp_eq (tgt := 144) hx hb dX12_chains_134 (by decide) (fun c15505 => ?_) (fun c15505 => ?_)
        · have g15506 : Rg (-1) 11 r15504 := wk_eqr hr15503 (rg_any r15504) c15505 (by decide)
          refine lv_iconst (v := 0) hx hb dX12_chains_144 (by decide) ?_
          refine wk_ior 12 (e := 0) (f := 4095) hx hb dX12_chains_145 g109_l4 (by decide : Rg 0 0 (0 : Int32)) (by decide) (fun r15507 hr15507 qr15507 => ?_)
          refine lv_istore (lv' := [(4, .int r15507), (0, .ref (b 0)), (3, .int x2), (5, .int y109_l5)]) hx hb dX12_chains_146 hl (by decide) rfl (fun ls hl => ?_)
          refine wk_iinc (lv' := fun r => [(5, .int r), (4, .int r15507), (0, .ref (b 0)), (3, .int x2)]) (e := 1) (f := 12) hx hb dX12_chains_148 hl (k := 3) rfl (by decide) g15502 (by decide) (fun _ => rfl) (fun r15508 ls hr15508 er15508 hl => ?_)
          refine lv_goto (tgt := 109) hx hb dX12_chains_151 (by decide) ?_
          exact ih109 _ r15507 r15508 v _ _ ls g109_l3 hr15507 (rg_w hr15508 (by decide) (by decide)) hV hP hD hS (lv_sub (l' := [(0, .ref (b 0)), (3, .int x2), (4, .int r15507), (5, .int r15508)]) hl [2, 3, 1, 0] rfl) (me_up hm109 er15508 (by decide))
        · refine lv_iconst (v := 1) hx hb dX12_chains_137 (by decide) ?_
          refine lv_iload hx hb dX12_chains_138 (lv_at hl 3 rfl) ?_
          refine wk_ishl1 (f := 2048) hx hb dX12_chains_140 g15502 (by decide) (fun r15509 hr15509 qr15509 => ?_)
          refine lv_goto (tgt := 145) hx hb dX12_chains_141 (by decide) ?_
          refine wk_ior 12 (e := 1) (f := 4095) hx hb dX12_chains_145 g109_l4 hr15509 (by decide) (fun r15510 hr15510 qr15510 => ?_)
          refine lv_istore (lv' := [(4, .int r15510), (0, .ref (b 0)), (3, .int x2), (5, .int y109_l5)]) hx hb dX12_chains_146 hl (by decide) rfl (fun ls hl => ?_)
          refine wk_iinc (lv' := fun r => [(5, .int r), (4, .int r15510), (0, .ref (b 0)), (3, .int x2)]) (e := 1) (f := 12) hx hb dX12_chains_148 hl (k := 3) rfl (by decide) g15502 (by decide) (fun _ => rfl) (fun r15511 ls hr15511 er15511 hl => ?_)
          refine lv_goto (tgt := 109) hx hb dX12_chains_151 (by decide) ?_
          exact ih109 _ r15510 r15511 v _ _ ls g109_l3 (rg_w hr15510 (by decide) (by decide)) (rg_w hr15511 (by decide) (by decide)) hV hP hD hS (lv_sub (l' := [(0, .ref (b 0)), (3, .int x2), (4, .int r15510), (5, .int r15511)]) hl [2, 3, 1, 0] rfl) (me_up hm109 er15511 (by decide))
  have lp63 : ∀ (n63 : Nat) (y63_l4 : Int32) (v : SU) (H : Heap) (locs : List Loc) (ls : Array Slot), Rg 0 3 x1 → Rg 0 2 x2 → Rg 0 12 y63_l4 → TyV v → va_P D cls (wM cI b L v) H → va_D A (wM cI b L v) → va_S A s.heap H locs → lv_has ls 12 [(0, .ref (b 0)), (2, .int x1), (3, .int x2), (4, .int y63_l4)] → 12 - y63_l4.toInt < (n63 : Int) → W p l e (headSpec wsX12_chains ({ frames := 3, cells := 0, slots := 0, locals := 120 })).room s m ([.ref (b 0), .int x0, .int x1, .int x2]).toArray below meth c H locs 0 0 (MQ below (QF (S := SU) D (wM cI b L v) (wM cI b L) s.heap.size (fun r u => TyV u ∧ Rg (-2147483648) 2147483647 r ∧ True)) ([.ref (b 0), .int x0, .int x1, .int x2]).toArray s 0 0 (va_A (wM cI b L v) s.heap.size)) (F0 m 63 ls []) := by
    intro n63
    induction n63 with
    | zero =>
      intro y63_l4 v H locs ls g63_l2 g63_l3 g63_l4 hV hP hD hS hl hm63
      exact absurd rfl (me_z g63_l4 hm63)
    | succ n63 ih63 =>
      intro y63_l4 v H locs ls g63_l2 g63_l3 g63_l4 hV hP hD hS hl hm63
      refine lv_iload hx hb dX12_chains_63 (lv_at hl 3 rfl) ?_
      refine lv_aload_n hx hb dX12_chains_65 rfl (lv_at hl 0 rfl) ?_
      refine va_get (D := D) (ci := 12) (v := .int (L 0 0)) (C := RX12) (T := TX12) (N := 24) hx hb hts hin12 hown hK hP 0 rfl rfl 0 (by decide) (hts (.fieldLink RX12 63 "MissedPointsModel" "many" "I") (by decide +kernel)) (fun _ h9 => h9) rfl dX12_chains_66 ?_
      refine lv_icmp_ge (tgt := 92) hx hb dX12_chains_69 (by decide) (fun c15512 => ?_) (fun c15512 => ?_)
      · refine lv_aload_n hx hb dX12_chains_92 rfl (lv_at hl 0 rfl) ?_
        refine lv_iload_n hx hb dX12_chains_93 rfl (lv_at hl 1 rfl) ?_
        refine wk_qi (wM cI b L) v (As := [.int x1]) (rest := []) ⟨hx, hb, hml, hown, hts⟩ (w_X12_wrongPairing l D cI cS _ b L v hL hV x1) hKK hP hD hS hA 0 (ci := 12) rfl rfl (cwV 1 hts gX12_chains_X12_wrongPairing rfl rfl rfl (by decide +kernel) ⟨Nat.le_of_ble_eq_true rfl, Nat.le_of_ble_eq_true rfl⟩) rfl hl.1 rfl (Nat.le_of_ble_eq_true rfl) dX12_chains_94 ⟨Nat.le_of_ble_eq_true rfl, Nat.le_of_ble_eq_true rfl⟩ (fun r15513 v H locs hr15513 hP hD hS => ?_)
        have hV := hr15513.1
        refine lv_if_eq (tgt := 103) hx hb dX12_chains_97 (by decide) (fun c15514 => ?_) (fun c15514 => ?_)
        · have g15515 : Rg 0 0 r15513 := wk_eql hr15513.2.1 (by decide : Rg 0 0 (0 : Int32)) c15514 (by decide)
          refine lv_iconst (v := 0) hx hb dX12_chains_103 (by decide) ?_
          refine lv_istore (lv' := [(4, .int 0), (0, .ref (b 0)), (2, .int x1), (3, .int x2)]) hx hb dX12_chains_104 hl (by decide) rfl (fun ls hl => ?_)
          refine lv_iconst (v := 0) hx hb dX12_chains_106 (by decide) ?_
          refine lv_istore (lv' := [(5, .int 0), (4, .int 0), (0, .ref (b 0)), (2, .int x1), (3, .int x2)]) hx hb dX12_chains_107 hl (by decide) rfl (fun ls hl => ?_)
          exact lp109 13 (0 : Int32) (0 : Int32) v _ _ ls g63_l3 (by decide : Rg 0 4095 (0 : Int32)) (by decide : Rg 0 12 (0 : Int32)) hV hP hD hS (lv_sub (l' := [(0, .ref (b 0)), (3, .int x2), (4, .int 0), (5, .int 0)]) hl [2, 4, 1, 0] rfl) (me_i (by decide : Rg 0 12 (0 : Int32)) (by decide))
        · have g15516 : Rg (-11) (-1) r15513 := rg_ne_hi (k := 0) hr15513.2.1 (by decide) c15514 (by decide)
          refine lv_bipush (v := (-3)) hx hb dX12_chains_100 (by decide) ?_
          subst hAe
          exact W.iret (v := (-3)) hx hb hr (fun t ht hW => ⟨⟨_, v, rfl, ⟨hV, (by decide : Rg (-2147483648) 2147483647 ((-3) : Int32)), trivial⟩, by rw [ht]; exact hP, hD⟩, hS.F ht⟩) hS.2.2 dX12_chains_102
      · have g15517 : Rg 1 12 (L 0 0) := rg_ltr g63_l4 hL.1 (rg_nle c15512) (by decide)
        have g15518 : Rg 0 11 y63_l4 := rg_ltl g63_l4 hL.1 (rg_nle c15512) (by decide)
        refine lv_aload_n hx hb dX12_chains_72 rfl (lv_at hl 0 rfl) ?_
        refine va_get (D := D) (ci := 12) (v := .ref (b 7)) (C := RX12) (T := TX12) (N := 24) hx hb hts hin12 hown hK hP 0 rfl rfl 8 (by decide) (hts (.fieldLink RX12 32 "MissedPointsModel" "others" "[I") (by decide +kernel)) (fun _ h9 => h9) rfl dX12_chains_73 ?_
        refine lv_iload hx hb dX12_chains_76 (lv_at hl 3 rfl) ?_
        refine lv_aload_n hx hb dX12_chains_78 rfl (lv_at hl 0 rfl) ?_
        refine va_get (D := D) (ci := 12) (v := .ref (b 5)) (C := RX12) (T := TX12) (N := 24) hx hb hts hin12 hown hK hP 0 rfl rfl 6 (by decide) (hts (.fieldLink RX12 26 "MissedPointsModel" "mates" "[I") (by decide +kernel)) (fun _ h9 => h9) rfl dX12_chains_79 ?_
        refine lv_iload hx hb dX12_chains_82 (lv_at hl 3 rfl) ?_
        refine wk_ald hx hb hK hP 5 0 rfl rfl (rg_in g15518 (by decide) (by decide)) dX12_chains_84 hV.2.2.2.1 (fun r15519 hr15519 => ?_)
        refine ms_7 hx hb hK hP hD hS hV rfl (rg_in g15518 (by decide) (by decide)) dX12_chains_85 (fun v H locs hV ev15520 hP hD hS => ?_)
        refine wk_iinc (lv' := fun r => [(4, .int r), (0, .ref (b 0)), (2, .int x1), (3, .int x2)]) (e := 1) (f := 12) hx hb dX12_chains_86 hl (k := 3) rfl (by decide) g15518 (by decide) (fun _ => rfl) (fun r15521 ls hr15521 er15521 hl => ?_)
        refine lv_goto (tgt := 63) hx hb dX12_chains_89 (by decide) ?_
        exact ih63 _ r15521 v _ _ ls g63_l2 g63_l3 (rg_w hr15521 (by decide) (by decide)) hV hP hD hS (lv_sub (l' := [(0, .ref (b 0)), (2, .int x1), (3, .int x2), (4, .int r15521)]) hl [1, 2, 3, 0] rfl) (me_up hm63 er15521 (by decide))
  refine lv_iload_n hx hb dX12_chains_0 rfl (lv_at hl 1 rfl) ?_
  refine lz_ss (As := [.int x0]) (rest := []) ⟨hx, hb, hml, hown, hts⟩ (w_X12_isSheet l D cI cS x0) hKK (hP.sub (ws' := []) [] rfl) (va_cwS 1 hts gX12_chains_X12_isSheet rfl rfl rfl (by decide +kernel) ⟨Nat.le_of_ble_eq_true rfl, Nat.le_of_ble_eq_true rfl⟩) rfl hl.1 rfl (Nat.le_of_ble_eq_true rfl) dX12_chains_1 ⟨Nat.le_of_ble_eq_true rfl, Nat.le_of_ble_eq_true rfl⟩ (fun r15522 hr15522 => ?_)
  refine lv_if_eq (tgt := 23) hx hb dX12_chains_4 (by decide) (fun c15523 => ?_) (fun c15523 => ?_)
  · have g15524 : Rg 0 0 r15522 := wk_eql hr15522.1 (by decide : Rg 0 0 (0 : Int32)) c15523 (by decide)
    refine lv_bipush (v := (-2)) hx hb dX12_chains_23 (by decide) ?_
    subst hAe
    exact W.iret (v := (-2)) hx hb hr (fun t ht hW => ⟨⟨_, v, rfl, ⟨hV, (by decide : Rg (-2147483648) 2147483647 ((-2) : Int32)), trivial⟩, by rw [ht]; exact hP, hD⟩, hS.F ht⟩) hS.2.2 dX12_chains_25
  · have g15525 : Rg 0 3 x0 := (hr15522.2 c15523)
    have g15526 : Rg 1 1 r15522 := rg_ne_lo (k := 0) hr15522.1 (by decide) c15523 (by decide)
    refine lv_iload_n hx hb dX12_chains_7 rfl (lv_at hl 2 rfl) ?_
    refine lz_ss (As := [.int x1]) (rest := []) ⟨hx, hb, hml, hown, hts⟩ (w_X12_isSheet l D cI cS x1) hKK (hP.sub (ws' := []) [] rfl) (va_cwS 1 hts gX12_chains_X12_isSheet rfl rfl rfl (by decide +kernel) ⟨Nat.le_of_ble_eq_true rfl, Nat.le_of_ble_eq_true rfl⟩) rfl hl.1 rfl (Nat.le_of_ble_eq_true rfl) dX12_chains_8 ⟨Nat.le_of_ble_eq_true rfl, Nat.le_of_ble_eq_true rfl⟩ (fun r15527 hr15527 => ?_)
    refine lv_if_eq (tgt := 23) hx hb dX12_chains_11 (by decide) (fun c15528 => ?_) (fun c15528 => ?_)
    · have g15529 : Rg 0 0 r15527 := wk_eql hr15527.1 (by decide : Rg 0 0 (0 : Int32)) c15528 (by decide)
      refine lv_bipush (v := (-2)) hx hb dX12_chains_23 (by decide) ?_
      subst hAe
      exact W.iret (v := (-2)) hx hb hr (fun t ht hW => ⟨⟨_, v, rfl, ⟨hV, (by decide : Rg (-2147483648) 2147483647 ((-2) : Int32)), trivial⟩, by rw [ht]; exact hP, hD⟩, hS.F ht⟩) hS.2.2 dX12_chains_25
    · have g15530 : Rg 0 3 x1 := (hr15527.2 c15528)
      have g15531 : Rg 1 1 r15527 := rg_ne_lo (k := 0) hr15527.1 (by decide) c15528 (by decide)
      refine lv_iload_n hx hb dX12_chains_14 rfl (lv_at hl 3 rfl) ?_
      refine lv_iconst (v := 0) hx hb dX12_chains_15 (by decide) ?_
      refine lv_iconst (v := 2) hx hb dX12_chains_16 (by decide) ?_
      refine lz_ss (As := [.int x2, .int 0, .int 2]) (rest := []) ⟨hx, hb, hml, hown, hts⟩ (w_X12_in l D cI cS x2 (0 : Int32) (2 : Int32)) hKK (hP.sub (ws' := []) [] rfl) (va_cwS 3 hts gX12_chains_X12_in rfl rfl rfl (by decide +kernel) ⟨Nat.le_of_ble_eq_true rfl, Nat.le_of_ble_eq_true rfl⟩) rfl hl.1 rfl (Nat.le_of_ble_eq_true rfl) dX12_chains_17 ⟨Nat.le_of_ble_eq_true rfl, Nat.le_of_ble_eq_true rfl⟩ (fun r15532 hr15532 => ?_)
      refine lv_if_ne (tgt := 26) hx hb dX12_chains_20 (by decide) (fun c15533 => ?_) (fun c15533 => ?_)
      · have g15534 : Rg 0 2 x2 := wk_in3 (rg_any x2) (by decide : Rg 0 0 (0 : Int32)) (by decide : Rg 2 2 (2 : Int32)) (hr15532.2 c15533) (by decide)
        have g15535 : Rg 1 1 r15532 := rg_ne_lo (k := 0) hr15532.1 (by decide) c15533 (by decide)
        refine lv_aload_n hx hb dX12_chains_26 rfl (lv_at hl 0 rfl) ?_
        refine va_get (D := D) (ci := 12) (v := .ref (b 9)) (C := RX12) (T := TX12) (N := 24) hx hb hts hin12 hown hK hP 0 rfl rfl 16 (by decide) (hts (.fieldLink RX12 38 "MissedPointsModel" "sort" "[I") (by decide +kernel)) (fun _ h9 => h9) rfl dX12_chains_27 ?_
        refine lv_iload_n hx hb dX12_chains_30 rfl (lv_at hl 1 rfl) ?_
        refine wk_ald hx hb hK hP 9 0 rfl rfl (rg_in g15525 (by decide) (by decide)) dX12_chains_31 hL.2.2.1 (fun r15536 hr15536 => ?_)
        refine lv_iconst (v := (-1)) hx hb dX12_chains_32 (by decide) ?_
        refine lv_icmp_eq (tgt := 46) hx hb dX12_chains_33 (by decide) (fun c15537 => ?_) (fun c15537 => ?_)
        · have g15538 : Rg (-1) (-1) r15536 := wk_eql hr15536 (by decide : Rg (-1) (-1) ((-1) : Int32)) c15537 (by decide)
          refine lv_bipush (v := (-11)) hx hb dX12_chains_46 (by decide) ?_
          subst hAe
          exact W.iret (v := (-11)) hx hb hr (fun t ht hW => ⟨⟨_, v, rfl, ⟨hV, (by decide : Rg (-2147483648) 2147483647 ((-11) : Int32)), trivial⟩, by rw [ht]; exact hP, hD⟩, hS.F ht⟩) hS.2.2 dX12_chains_48
        · have g15539 : Rg 0 1 r15536 := rg_ne_lo (k := (-1)) hr15536 (by decide) c15537 (by decide)
          refine lv_aload_n hx hb dX12_chains_36 rfl (lv_at hl 0 rfl) ?_
          refine va_get (D := D) (ci := 12) (v := .ref (b 9)) (C := RX12) (T := TX12) (N := 24) hx hb hts hin12 hown hK hP 0 rfl rfl 16 (by decide) (hts (.fieldLink RX12 38 "MissedPointsModel" "sort" "[I") (by decide +kernel)) (fun _ h9 => h9) rfl dX12_chains_37 ?_
          refine lv_iload_n hx hb dX12_chains_40 rfl (lv_at hl 2 rfl) ?_
          refine wk_ald hx hb hK hP 9 0 rfl rfl (rg_in g15530 (by decide) (by decide)) dX12_chains_41 hL.2.2.1 (fun r15540 hr15540 => ?_)
          refine lv_iconst (v := (-1)) hx hb dX12_chains_42 (by decide) ?_
          refine lv_icmp_ne (tgt := 49) hx hb dX12_chains_43 (by decide) (fun c15541 => ?_) (fun c15541 => ?_)
          · have g15542 : Rg 0 1 r15540 := rg_ne_lo (k := (-1)) hr15540 (by decide) c15541 (by decide)
            refine lv_aload_n hx hb dX12_chains_49 rfl (lv_at hl 0 rfl) ?_
            refine lv_iload_n hx hb dX12_chains_50 rfl (lv_at hl 1 rfl) ?_
            refine wk_qi (wM cI b L) v (As := [.int x0]) (rest := []) ⟨hx, hb, hml, hown, hts⟩ (w_X12_wrongPairing l D cI cS _ b L v hL hV x0) hKK hP hD hS hA 0 (ci := 12) rfl rfl (cwV 1 hts gX12_chains_X12_wrongPairing rfl rfl rfl (by decide +kernel) ⟨Nat.le_of_ble_eq_true rfl, Nat.le_of_ble_eq_true rfl⟩) rfl hl.1 rfl (Nat.le_of_ble_eq_true rfl) dX12_chains_51 ⟨Nat.le_of_ble_eq_true rfl, Nat.le_of_ble_eq_true rfl⟩ (fun r15543 v H locs hr15543 hP hD hS => ?_)
            have hV := hr15543.1
            refine lv_if_eq (tgt := 60) hx hb dX12_chains_54 (by decide) (fun c15544 => ?_) (fun c15544 => ?_)
            · have g15545 : Rg 0 0 r15543 := wk_eql hr15543.2.1 (by decide : Rg 0 0 (0 : Int32)) c15544 (by decide)
              refine lv_iconst (v := 0) hx hb dX12_chains_60 (by decide) ?_
              refine lv_istore (lv' := [(4, .int 0), (0, .ref (b 0)), (1, .int x0), (2, .int x1), (3, .int x2)]) hx hb dX12_chains_61 hl (by decide) rfl (fun ls hl => ?_)
              exact lp63 13 (0 : Int32) v _ _ ls g15530 g15534 (by decide : Rg 0 12 (0 : Int32)) hV hP hD hS (lv_sub (l' := [(0, .ref (b 0)), (2, .int x1), (3, .int x2), (4, .int 0)]) hl [1, 3, 4, 0] rfl) (me_i (by decide : Rg 0 12 (0 : Int32)) (by decide))
            · have g15546 : Rg (-11) (-1) r15543 := rg_ne_hi (k := 0) hr15543.2.1 (by decide) c15544 (by decide)
              refine lv_bipush (v := (-3)) hx hb dX12_chains_57 (by decide) ?_
              subst hAe
              exact W.iret (v := (-3)) hx hb hr (fun t ht hW => ⟨⟨_, v, rfl, ⟨hV, (by decide : Rg (-2147483648) 2147483647 ((-3) : Int32)), trivial⟩, by rw [ht]; exact hP, hD⟩, hS.F ht⟩) hS.2.2 dX12_chains_59
          · have g15547 : Rg (-1) (-1) r15540 := wk_eql hr15540 (by decide : Rg (-1) (-1) ((-1) : Int32)) c15541 (by decide)
            refine lv_bipush (v := (-11)) hx hb dX12_chains_46 (by decide) ?_
            subst hAe
            exact W.iret (v := (-11)) hx hb hr (fun t ht hW => ⟨⟨_, v, rfl, ⟨hV, (by decide : Rg (-2147483648) 2147483647 ((-11) : Int32)), trivial⟩, by rw [ht]; exact hP, hD⟩, hS.F ht⟩) hS.2.2 dX12_chains_48
      · have g15548 : Rg 0 0 r15532 := wk_eql hr15532.1 (by decide : Rg 0 0 (0 : Int32)) c15533 (by decide)
        refine lv_bipush (v := (-2)) hx hb dX12_chains_23 (by decide) ?_
        subst hAe
        exact W.iret (v := (-2)) hx hb hr (fun t ht hW => ⟨⟨_, v, rfl, ⟨hV, (by decide : Rg (-2147483648) 2147483647 ((-2) : Int32)), trivial⟩, by rw [ht]; exact hP, hD⟩, hS.F ht⟩) hS.2.2 dX12_chains_25
theorem dX12_over_0 : decode cX12_over 0 = .ok (.iload_n 0, 1) := by decide +kernel
theorem dX12_over_1 : decode cX12_over 1 = .ok (.ifCond .ne 7, 3) := by decide +kernel
theorem dX12_over_10 : decode cX12_over 10 = .ok (.if_icmp .ge 7, 3) := by decide +kernel
theorem dX12_over_13 : decode cX12_over 13 = .ok (.iconst 0, 1) := by decide +kernel
theorem dX12_over_14 : decode cX12_over 14 = .ok (.goto 13, 3) := by decide +kernel
theorem dX12_over_17 : decode cX12_over 17 = .ok (.iload_n 0, 1) := by decide +kernel
theorem dX12_over_18 : decode cX12_over 18 = .ok (.iconst 3, 1) := by decide +kernel
theorem dX12_over_19 : decode cX12_over 19 = .ok (.if_icmp .ne 7, 3) := by decide +kernel
theorem dX12_over_22 : decode cX12_over 22 = .ok (.iconst 1, 1) := by decide +kernel
theorem dX12_over_23 : decode cX12_over 23 = .ok (.goto 4, 3) := by decide +kernel
theorem dX12_over_26 : decode cX12_over 26 = .ok (.iconst 2, 1) := by decide +kernel
theorem dX12_over_27 : decode cX12_over 27 = .ok (.ireturn, 1) := by decide +kernel
theorem dX12_over_4 : decode cX12_over 4 = .ok (.iconst (-1), 1) := by decide +kernel
theorem dX12_over_5 : decode cX12_over 5 = .ok (.goto 22, 3) := by decide +kernel
theorem dX12_over_8 : decode cX12_over 8 = .ok (.iload_n 0, 1) := by decide +kernel
theorem dX12_over_9 : decode cX12_over 9 = .ok (.iconst 3, 1) := by decide +kernel
set_option maxHeartbeats 4000000 in
set_option maxRecDepth 100000 in
theorem w_X12_over (l : Launch) (D : va_G) (cI cS : ClassId) (x0 : Int32) (px0 : Rg 0 6 x0) : Met l yX12_over wsX12_over ({ frames := 0, cells := 0, slots := 0, locals := 0 }) (PS D cI cS [] [.int x0]) (vp_Si (fun r => Rg (-1) 2 r ∧ (r = 0 → Rg 1 2 x0) ∧ r.toInt < x0.toInt)) 0 0 (fun _ => False) := by
  refine Met.ofW (cc := cX12_over) (maxL := 1) (ret := (some .int)) (by decide) rfl ?_
  intro p e s m args below meth c s₁ B hml hv
  obtain ⟨rfl, hP, hKK⟩ := hv
  have hx := B.exec
  have hb := B.bytes
  have hr := B.returns
  have hts := atoms_spec (ws := wsX12_over) B.pre
  have hown : s.vm.findClass RX12 = some m.cls := findClass_of_methodNamed B.named
  have hlocks := B.notSynchronized
  have hK := hKK.1
  have hl := lv_entry ([.int x0]) (n := 1) (Nat.le_of_ble_eq_true rfl)
  rw [lg_entry_eq]
  generalize (lg_sl ([.int x0]) ++ List.replicate (1 - (lg_sl ([.int x0])).length) Slot.unset).toArray = ls at hl ⊢
  have hl : lv_has ls 1 [(0, .int x0)] := hl
  refine lv_iload_n hx hb dX12_over_0 rfl (lv_at hl 0 rfl) ?_
  refine lv_if_ne (tgt := 8) hx hb dX12_over_1 (by decide) (fun c15558 => ?_) (fun c15558 => ?_)
  · have g15559 : Rg 1 6 x0 := rg_ne_lo (k := 0) px0 (by decide) c15558 (by decide)
    refine lv_iload_n hx hb dX12_over_8 rfl (lv_at hl 0 rfl) ?_
    refine lv_iconst (v := 3) hx hb dX12_over_9 (by decide) ?_
    refine lv_icmp_ge (tgt := 17) hx hb dX12_over_10 (by decide) (fun c15560 => ?_) (fun c15560 => ?_)
    · have g15561 : Rg 3 6 x0 := rg_ler (by decide : Rg 3 3 (3 : Int32)) g15559 c15560 (by decide)
      refine lv_iload_n hx hb dX12_over_17 rfl (lv_at hl 0 rfl) ?_
      refine lv_iconst (v := 3) hx hb dX12_over_18 (by decide) ?_
      refine lv_icmp_ne (tgt := 26) hx hb dX12_over_19 (by decide) (fun c15562 => ?_) (fun c15562 => ?_)
      · have g15563 : Rg 4 6 x0 := rg_ne_lo (k := 3) g15561 (by decide) c15562 (by decide)
        refine lv_iconst (v := 2) hx hb dX12_over_26 (by decide) ?_
        exact W.iret (v := 2) hx hb hr (fun t ht hW => ⟨_, rfl, ⟨(by decide : Rg (-1) 2 (2 : Int32)), fun h9 => absurd h9 (by decide), (Int.lt_of_lt_of_le (by decide : (2 : Int32).toInt < 4) g15563.1)⟩, ht⟩) (fun q hq => absurd hq List.not_mem_nil) dX12_over_27
      · have g15564 : Rg 3 3 x0 := wk_eql g15561 (by decide : Rg 3 3 (3 : Int32)) c15562 (by decide)
        refine lv_iconst (v := 1) hx hb dX12_over_22 (by decide) ?_
        refine lv_goto (tgt := 27) hx hb dX12_over_23 (by decide) ?_
        exact W.iret (v := 1) hx hb hr (fun t ht hW => ⟨_, rfl, ⟨(by decide : Rg (-1) 2 (1 : Int32)), fun h9 => absurd h9 (by decide), (Int.lt_of_lt_of_le (by decide : (1 : Int32).toInt < 3) g15564.1)⟩, ht⟩) (fun q hq => absurd hq List.not_mem_nil) dX12_over_27
    · have g15565 : Rg 1 2 x0 := rg_ltl g15559 (by decide : Rg 3 3 (3 : Int32)) (rg_nle c15560) (by decide)
      refine lv_iconst (v := 0) hx hb dX12_over_13 (by decide) ?_
      refine lv_goto (tgt := 27) hx hb dX12_over_14 (by decide) ?_
      exact W.iret (v := 0) hx hb hr (fun t ht hW => ⟨_, rfl, ⟨(by decide : Rg (-1) 2 (0 : Int32)), fun _ => g15565, (Int.lt_of_lt_of_le (by decide : (0 : Int32).toInt < 1) g15565.1)⟩, ht⟩) (fun q hq => absurd hq List.not_mem_nil) dX12_over_27
  · have g15566 : Rg 0 0 x0 := wk_eql px0 (by decide : Rg 0 0 (0 : Int32)) c15558 (by decide)
    refine lv_iconst (v := (-1)) hx hb dX12_over_4 (by decide) ?_
    refine lv_goto (tgt := 27) hx hb dX12_over_5 (by decide) ?_
    exact W.iret (v := (-1)) hx hb hr (fun t ht hW => ⟨_, rfl, ⟨(by decide : Rg (-1) 2 ((-1) : Int32)), fun h9 => absurd h9 (by decide), (Int.lt_of_lt_of_le (by decide : ((-1) : Int32).toInt < 0) g15566.1)⟩, ht⟩) (fun q hq => absurd hq List.not_mem_nil) dX12_over_27
set_option maxRecDepth 20000 in
theorem ggX12_isOf_X12_over : GoodIn wsX12_isOf wsX12_over := goodIn_r _ [4] (by decide +kernel) (by decide +kernel)
set_option maxRecDepth 20000 in
theorem gX12_isOf_X12_over : GoodIn wsX12_isOf (va_wsS RX12 228 yX12_over wsX12_over) := goodIn_app (goodIn_of _ (by decide +kernel)) ggX12_isOf_X12_over
theorem dX12_isOf_0 : decode cX12_isOf 0 = .ok (.iload_n 0, 1) := by decide +kernel
theorem dX12_isOf_1 : decode cX12_isOf 1 = .ok (.istore_n 2, 1) := by decide +kernel
theorem dX12_isOf_12 : decode cX12_isOf 12 = .ok (.iload_n 2, 1) := by decide +kernel
theorem dX12_isOf_13 : decode cX12_isOf 13 = .ok (.invokestatic 228, 3) := by decide +kernel
theorem dX12_isOf_16 : decode cX12_isOf 16 = .ok (.istore_n 2, 1) := by decide +kernel
theorem dX12_isOf_17 : decode cX12_isOf 17 = .ok (.goto (-15), 3) := by decide +kernel
theorem dX12_isOf_2 : decode cX12_isOf 2 = .ok (.iload_n 2, 1) := by decide +kernel
theorem dX12_isOf_20 : decode cX12_isOf 20 = .ok (.iload_n 2, 1) := by decide +kernel
theorem dX12_isOf_21 : decode cX12_isOf 21 = .ok (.iload_n 1, 1) := by decide +kernel
theorem dX12_isOf_22 : decode cX12_isOf 22 = .ok (.if_icmp .ne 7, 3) := by decide +kernel
theorem dX12_isOf_25 : decode cX12_isOf 25 = .ok (.iconst 1, 1) := by decide +kernel
theorem dX12_isOf_26 : decode cX12_isOf 26 = .ok (.goto 4, 3) := by decide +kernel
theorem dX12_isOf_29 : decode cX12_isOf 29 = .ok (.iconst 0, 1) := by decide +kernel
theorem dX12_isOf_3 : decode cX12_isOf 3 = .ok (.iconst (-1), 1) := by decide +kernel
theorem dX12_isOf_30 : decode cX12_isOf 30 = .ok (.ireturn, 1) := by decide +kernel
theorem dX12_isOf_4 : decode cX12_isOf 4 = .ok (.if_icmp .eq 16, 3) := by decide +kernel
theorem dX12_isOf_7 : decode cX12_isOf 7 = .ok (.iload_n 2, 1) := by decide +kernel
theorem dX12_isOf_8 : decode cX12_isOf 8 = .ok (.iload_n 1, 1) := by decide +kernel
theorem dX12_isOf_9 : decode cX12_isOf 9 = .ok (.if_icmp .eq 11, 3) := by decide +kernel
set_option maxHeartbeats 4000000 in
set_option maxRecDepth 100000 in
theorem w_X12_isOf (l : Launch) (D : va_G) (cI cS : ClassId) (x0 x1 : Int32) (px0 : Rg (-1) 6 x0) : Met l yX12_isOf wsX12_isOf ({ frames := 1, cells := 0, slots := 0, locals := 40 }) (PS D cI cS [] [.int x0, .int x1]) (vp_Si (fun r => Rg 0 1 r ∧ (r ≠ 0 → Rg (-1) 6 x1))) 0 0 (fun _ => False) := by
  refine Met.ofW (cc := cX12_isOf) (maxL := 3) (ret := (some .boolean)) (by decide) rfl ?_
  intro p e s m args below meth c s₁ B hml hv
  obtain ⟨rfl, hP, hKK⟩ := hv
  have hx := B.exec
  have hb := B.bytes
  have hr := B.returns
  have hts := atoms_spec (ws := wsX12_isOf) B.pre
  have hown : s.vm.findClass RX12 = some m.cls := findClass_of_methodNamed B.named
  have hlocks := B.notSynchronized
  have hK := hKK.1
  have hl := lv_entry ([.int x0, .int x1]) (n := 3) (Nat.le_of_ble_eq_true rfl)
  rw [lg_entry_eq]
  generalize (lg_sl ([.int x0, .int x1]) ++ List.replicate (3 - (lg_sl ([.int x0, .int x1])).length) Slot.unset).toArray = ls at hl ⊢
  have hl : lv_has ls 3 [(0, .int x0), (1, .int x1)] := hl
  have lp2 : ∀ (n2 : Nat) (y2_l2 : Int32) (ls : Array Slot), Rg (-1) 6 y2_l2 → lv_has ls 3 [(1, .int x1), (2, .int y2_l2)] → y2_l2.toInt + 1 < (n2 : Int) → W p l e (headSpec wsX12_isOf ({ frames := 1, cells := 0, slots := 0, locals := 40 })).room s m ([.int x0, .int x1]).toArray below meth c s.heap [] 0 0 (MQ below (vp_Si (fun r => Rg 0 1 r ∧ (r ≠ 0 → Rg (-1) 6 x1))) ([.int x0, .int x1]).toArray s 0 0 (fun _ => False)) (F0 m 2 ls []) := by
    intro n2
    induction n2 with
    | zero =>
      intro y2_l2 ls g2_l2 hl hm2
      exact absurd rfl (by have z9 := g2_l2.1; omega)
    | succ n2 ih2 =>
      intro y2_l2 ls g2_l2 hl hm2
      refine lv_iload_n hx hb dX12_isOf_2 rfl (lv_at hl 1 rfl) ?_
      refine lv_iconst (v := (-1)) hx hb dX12_isOf_3 (by decide) ?_
      refine lv_icmp_eq (tgt := 20) hx hb dX12_isOf_4 (by decide) (fun c15585 => ?_) (fun c15585 => ?_)
      · have g15586 : Rg (-1) (-1) y2_l2 := wk_eql g2_l2 (by decide : Rg (-1) (-1) ((-1) : Int32)) c15585 (by decide)
        refine lv_iload_n hx hb dX12_isOf_20 rfl (lv_at hl 1 rfl) ?_
        refine lv_iload_n hx hb dX12_isOf_21 rfl (lv_at hl 0 rfl) ?_
        refine lv_icmp_ne (tgt := 29) hx hb dX12_isOf_22 (by decide) (fun c15587 => ?_) (fun c15587 => ?_)
        · refine lv_iconst (v := 0) hx hb dX12_isOf_29 (by decide) ?_
          exact W.zret (v := 0) hx hb hr (by decide) (fun t ht hW => ⟨_, rfl, ⟨(by decide : Rg 0 1 (0 : Int32)), fun h9 => absurd rfl h9⟩, ht⟩) (fun q hq => absurd hq List.not_mem_nil) dX12_isOf_30
        · have g15588 : Rg (-1) (-1) x1 := wk_eqr g15586 (rg_any x1) c15587 (by decide)
          refine lv_iconst (v := 1) hx hb dX12_isOf_25 (by decide) ?_
          refine lv_goto (tgt := 30) hx hb dX12_isOf_26 (by decide) ?_
          exact W.zret (v := 1) hx hb hr (by decide) (fun t ht hW => ⟨_, rfl, ⟨(by decide : Rg 0 1 (1 : Int32)), fun _ => (rg_w g15588 (by decide) (by decide))⟩, ht⟩) (fun q hq => absurd hq List.not_mem_nil) dX12_isOf_30
      · have g15589 : Rg 0 6 y2_l2 := rg_ne_lo (k := (-1)) g2_l2 (by decide) c15585 (by decide)
        refine lv_iload_n hx hb dX12_isOf_7 rfl (lv_at hl 1 rfl) ?_
        refine lv_iload_n hx hb dX12_isOf_8 rfl (lv_at hl 0 rfl) ?_
        refine lv_icmp_eq (tgt := 20) hx hb dX12_isOf_9 (by decide) (fun c15590 => ?_) (fun c15590 => ?_)
        · have g15591 : Rg 0 6 x1 := wk_eqr g15589 (rg_any x1) c15590 (by decide)
          refine lv_iload_n hx hb dX12_isOf_20 rfl (lv_at hl 1 rfl) ?_
          refine lv_iload_n hx hb dX12_isOf_21 rfl (lv_at hl 0 rfl) ?_
          refine lv_icmp_ne (tgt := 29) hx hb dX12_isOf_22 (by decide) (fun c15592 => ?_) (fun c15592 => ?_)
          · refine lv_iconst (v := 0) hx hb dX12_isOf_29 (by decide) ?_
            exact W.zret (v := 0) hx hb hr (by decide) (fun t ht hW => ⟨_, rfl, ⟨(by decide : Rg 0 1 (0 : Int32)), fun h9 => absurd rfl h9⟩, ht⟩) (fun q hq => absurd hq List.not_mem_nil) dX12_isOf_30
          · refine lv_iconst (v := 1) hx hb dX12_isOf_25 (by decide) ?_
            refine lv_goto (tgt := 30) hx hb dX12_isOf_26 (by decide) ?_
            exact W.zret (v := 1) hx hb hr (by decide) (fun t ht hW => ⟨_, rfl, ⟨(by decide : Rg 0 1 (1 : Int32)), fun _ => (rg_w g15591 (by decide) (by decide))⟩, ht⟩) (fun q hq => absurd hq List.not_mem_nil) dX12_isOf_30
        · refine lv_iload_n hx hb dX12_isOf_12 rfl (lv_at hl 1 rfl) ?_
          refine lz_ss (As := [.int y2_l2]) (rest := []) ⟨hx, hb, hml, hown, hts⟩ (w_X12_over l D cI cS y2_l2 g15589) hKK (hP.sub (ws' := []) [] rfl) (va_cwS 1 hts gX12_isOf_X12_over rfl rfl rfl (by decide +kernel) ⟨Nat.le_of_ble_eq_true rfl, Nat.le_of_ble_eq_true rfl⟩) rfl hl.1 rfl (Nat.le_of_ble_eq_true rfl) dX12_isOf_13 ⟨Nat.le_of_ble_eq_true rfl, Nat.le_of_ble_eq_true rfl⟩ (fun r15593 hr15593 => ?_)
          refine lv_istore_n (lv' := [(2, .int r15593), (1, .int x1)]) hx hb dX12_isOf_16 rfl hl (by decide) rfl (fun ls hl => ?_)
          refine lv_goto (tgt := 2) hx hb dX12_isOf_17 (by decide) ?_
          exact ih2 _ r15593 ls (rg_w hr15593.1 (by decide) (by decide)) (lv_sub (l' := [(1, .int x1), (2, .int r15593)]) hl [1, 0] rfl) (by have z9 := hr15593.2.2; omega)
  refine lv_iload_n hx hb dX12_isOf_0 rfl (lv_at hl 0 rfl) ?_
  refine lv_istore_n (lv' := [(2, .int x0), (0, .int x0), (1, .int x1)]) hx hb dX12_isOf_1 rfl hl (by decide) rfl (fun ls hl => ?_)
  exact lp2 8 x0 ls px0 (lv_sub (l' := [(1, .int x1), (2, .int x0)]) hl [2, 0] rfl) (by have z9 := px0.2; omega)
set_option maxRecDepth 20000 in
theorem ggX12_taken_X12_isOf : GoodIn wsX12_taken wsX12_isOf := goodIn_r _ [13, 14, 15, 6, 16] (by decide +kernel) (by decide +kernel)
set_option maxRecDepth 20000 in
theorem gX12_taken_X12_isOf : GoodIn wsX12_taken (va_wsS RX12 231 yX12_isOf wsX12_isOf) := goodIn_app (goodIn_of _ (by decide +kernel)) ggX12_taken_X12_isOf
theorem dX12_taken_100 : decode cX12_taken 100 = .ok (.iload_n 3, 1) := by decide +kernel
theorem dX12_taken_101 : decode cX12_taken 101 = .ok (.ifCond .eq 12, 3) := by decide +kernel
theorem dX12_taken_104 : decode cX12_taken 104 = .ok (.aload_n 0, 1) := by decide +kernel
theorem dX12_taken_105 : decode cX12_taken 105 = .ok (.getfield 50, 3) := by decide +kernel
theorem dX12_taken_108 : decode cX12_taken 108 = .ok (.iload_n 1, 1) := by decide +kernel
theorem dX12_taken_109 : decode cX12_taken 109 = .ok (.iaload, 1) := by decide +kernel
theorem dX12_taken_110 : decode cX12_taken 110 = .ok (.goto 5, 3) := by decide +kernel
theorem dX12_taken_113 : decode cX12_taken 113 = .ok (.bipush (-13), 2) := by decide +kernel
theorem dX12_taken_115 : decode cX12_taken 115 = .ok (.ireturn, 1) := by decide +kernel
theorem dX12_taken_43 : decode cX12_taken 43 = .ok (.aload_n 0, 1) := by decide +kernel
theorem dX12_taken_44 : decode cX12_taken 44 = .ok (.getfield 47, 3) := by decide +kernel
theorem dX12_taken_47 : decode cX12_taken 47 = .ok (.iload_n 1, 1) := by decide +kernel
theorem dX12_taken_48 : decode cX12_taken 48 = .ok (.iaload, 1) := by decide +kernel
theorem dX12_taken_49 : decode cX12_taken 49 = .ok (.bipush 6, 2) := by decide +kernel
theorem dX12_taken_51 : decode cX12_taken 51 = .ok (.if_icmp .ne 24, 3) := by decide +kernel
theorem dX12_taken_54 : decode cX12_taken 54 = .ok (.iload_n 2, 1) := by decide +kernel
theorem dX12_taken_55 : decode cX12_taken 55 = .ok (.bipush 10, 2) := by decide +kernel
theorem dX12_taken_57 : decode cX12_taken 57 = .ok (.isub, 1) := by decide +kernel
theorem dX12_taken_58 : decode cX12_taken 58 = .ok (.aload_n 0, 1) := by decide +kernel
theorem dX12_taken_59 : decode cX12_taken 59 = .ok (.getfield 53, 3) := by decide +kernel
theorem dX12_taken_62 : decode cX12_taken 62 = .ok (.iload_n 1, 1) := by decide +kernel
theorem dX12_taken_63 : decode cX12_taken 63 = .ok (.iaload, 1) := by decide +kernel
theorem dX12_taken_64 : decode cX12_taken 64 = .ok (.if_icmp .ne 7, 3) := by decide +kernel
theorem dX12_taken_67 : decode cX12_taken 67 = .ok (.iconst 1, 1) := by decide +kernel
theorem dX12_taken_68 : decode cX12_taken 68 = .ok (.goto 31, 3) := by decide +kernel
theorem dX12_taken_71 : decode cX12_taken 71 = .ok (.iconst 0, 1) := by decide +kernel
theorem dX12_taken_72 : decode cX12_taken 72 = .ok (.goto 27, 3) := by decide +kernel
theorem dX12_taken_75 : decode cX12_taken 75 = .ok (.iload_n 2, 1) := by decide +kernel
theorem dX12_taken_76 : decode cX12_taken 76 = .ok (.bipush 10, 2) := by decide +kernel
theorem dX12_taken_78 : decode cX12_taken 78 = .ok (.if_icmp .ge 20, 3) := by decide +kernel
theorem dX12_taken_81 : decode cX12_taken 81 = .ok (.aload_n 0, 1) := by decide +kernel
theorem dX12_taken_82 : decode cX12_taken 82 = .ok (.getfield 47, 3) := by decide +kernel
theorem dX12_taken_85 : decode cX12_taken 85 = .ok (.iload_n 1, 1) := by decide +kernel
theorem dX12_taken_86 : decode cX12_taken 86 = .ok (.iaload, 1) := by decide +kernel
theorem dX12_taken_87 : decode cX12_taken 87 = .ok (.iload_n 2, 1) := by decide +kernel
theorem dX12_taken_88 : decode cX12_taken 88 = .ok (.invokestatic 231, 3) := by decide +kernel
theorem dX12_taken_91 : decode cX12_taken 91 = .ok (.ifCond .eq 7, 3) := by decide +kernel
theorem dX12_taken_94 : decode cX12_taken 94 = .ok (.iconst 1, 1) := by decide +kernel
theorem dX12_taken_95 : decode cX12_taken 95 = .ok (.goto 4, 3) := by decide +kernel
theorem dX12_taken_98 : decode cX12_taken 98 = .ok (.iconst 0, 1) := by decide +kernel
theorem dX12_taken_99 : decode cX12_taken 99 = .ok (.istore_n 3, 1) := by decide +kernel
set_option maxHeartbeats 4000000 in
set_option maxRecDepth 100000 in
theorem w_X12_taken (l : Launch) (D : va_G) (cI cS : ClassId) (b : Nat → Nat) (L v : SU) (hL : TyL L) (hV : TyV v) (x0 x1 : Int32) : Met l yX12_taken wsX12_taken ({ frames := 2, cells := 0, slots := 0, locals := 80 }) (PS D cI cS (wM cI b L v) [.ref (b 0), .int x0, .int x1]) (vp_Si (fun r => Rg (-2147483648) 2147483647 r ∧ True)) 0 0 (fun _ => False) := by
  refine Met.ofW (cc := cX12_taken) (maxL := 4) (ret := (some .int)) (by decide) rfl ?_
  intro p e s m args below meth c s₁ B hml hv
  obtain ⟨rfl, hP, hKK⟩ := hv
  have hx := B.exec
  have hb := B.bytes
  have hr := B.returns
  have hts := atoms_spec (ws := wsX12_taken) B.pre
  have hown : s.vm.findClass RX12 = some m.cls := findClass_of_methodNamed B.named
  have hlocks := B.notSynchronized
  have hK := hKK.1
  have hin12 : ∀ w ∈ wsX120, w ∈ wsX12_taken := by decide +kernel
  have hl := lv_entry ([.ref (b 0), .int x0, .int x1]) (n := 4) (Nat.le_of_ble_eq_true rfl)
  rw [lg_entry_eq]
  generalize (lg_sl ([.ref (b 0), .int x0, .int x1]) ++ List.replicate (4 - (lg_sl ([.ref (b 0), .int x0, .int x1])).length) Slot.unset).toArray = ls at hl ⊢
  have hl : lv_has ls 4 [(0, .ref (b 0)), (1, .int x0), (2, .int x1)] := hl
  have ct30 : ∀ (ls : Array Slot), Rg 0 3 x0 → Rg 0 11 x1 → lv_has ls 4 [(0, .ref (b 0)), (1, .int x0), (2, .int x1)] → W p l e (headSpec wsX12_taken ({ frames := 2, cells := 0, slots := 0, locals := 80 })).room s m ([.ref (b 0), .int x0, .int x1]).toArray below meth c s.heap [] 0 0 (MQ below (vp_Si (fun r => Rg (-2147483648) 2147483647 r ∧ True)) ([.ref (b 0), .int x0, .int x1]).toArray s 0 0 (fun _ => False)) (F0 m 30 ls []) := by
    intro ls g30_l1 g30_l2 hl
    refine lv_aload_n hx hb dX12_taken_30 rfl (lv_at hl 0 rfl) ?_
    refine va_get (D := D) (ci := 12) (v := .ref (b 12)) (C := RX12) (T := TX12) (N := 24) hx hb hts hin12 hown hK hP 0 rfl rfl 19 (by decide) (hts (.fieldLink RX12 47 "MissedPointsModel" "heldKind" "[I") (by decide +kernel)) (fun _ h9 => h9) rfl dX12_taken_31 ?_
    refine lv_iload_n hx hb dX12_taken_34 rfl (lv_at hl 1 rfl) ?_
    refine wk_ald hx hb hK hP 12 0 rfl rfl (rg_in g30_l1 (by decide) (by decide)) dX12_taken_35 hV.2.2.2.2.2 (fun r15680 hr15680 => ?_)
    refine lv_iconst (v := (-1)) hx hb dX12_taken_36 (by decide) ?_
    refine lv_icmp_ne (tgt := 43) hx hb dX12_taken_37 (by decide) (fun c15681 => ?_) (fun c15681 => ?_)
    · have g15682 : Rg 0 6 r15680 := rg_ne_lo (k := (-1)) hr15680 (by decide) c15681 (by decide)
      refine lv_aload_n hx hb dX12_taken_43 rfl (lv_at hl 0 rfl) ?_
      refine va_get (D := D) (ci := 12) (v := .ref (b 12)) (C := RX12) (T := TX12) (N := 24) hx hb hts hin12 hown hK hP 0 rfl rfl 19 (by decide) (hts (.fieldLink RX12 47 "MissedPointsModel" "heldKind" "[I") (by decide +kernel)) (fun _ h9 => h9) rfl dX12_taken_44 ?_
      refine lv_iload_n hx hb dX12_taken_47 rfl (lv_at hl 1 rfl) ?_
      refine wk_ald hx hb hK hP 12 0 rfl rfl (rg_in g30_l1 (by decide) (by decide)) dX12_taken_48 hV.2.2.2.2.2 (fun r15683 hr15683 => ?_)
      refine lv_bipush (v := 6) hx hb dX12_taken_49 (by decide) ?_
      refine lv_icmp_ne (tgt := 75) hx hb dX12_taken_51 (by decide) (fun c15684 => ?_) (fun c15684 => ?_)
      · have g15685 : Rg (-1) 5 r15683 := rg_ne_hi (k := 6) hr15683 (by decide) c15684 (by decide)
        refine lv_iload_n hx hb dX12_taken_75 rfl (lv_at hl 2 rfl) ?_
        refine lv_bipush (v := 10) hx hb dX12_taken_76 (by decide) ?_
        refine lv_icmp_ge (tgt := 98) hx hb dX12_taken_78 (by decide) (fun c15686 => ?_) (fun c15686 => ?_)
        · have g15687 : Rg 10 11 x1 := rg_ler (by decide : Rg 10 10 (10 : Int32)) g30_l2 c15686 (by decide)
          refine lv_iconst (v := 0) hx hb dX12_taken_98 (by decide) ?_
          refine lv_istore_n (lv' := [(3, .int 0), (0, .ref (b 0)), (1, .int x0), (2, .int x1)]) hx hb dX12_taken_99 rfl hl (by decide) rfl (fun ls hl => ?_)
          refine lv_iload_n hx hb dX12_taken_100 rfl (lv_at hl 0 rfl) ?_
          refine lv_if_eq (tgt := 113) hx hb dX12_taken_101 (by decide) (fun c15688 => ?_) (fun c15688 => ?_)
          · refine lv_bipush (v := (-13)) hx hb dX12_taken_113 (by decide) ?_
            exact W.iret (v := (-13)) hx hb hr (fun t ht hW => ⟨_, rfl, ⟨(by decide : Rg (-2147483648) 2147483647 ((-13) : Int32)), trivial⟩, ht⟩) (fun q hq => absurd hq List.not_mem_nil) dX12_taken_115
          · exact absurd c15688 (by decide)
        · have g15689 : Rg 0 9 x1 := rg_ltl g30_l2 (by decide : Rg 10 10 (10 : Int32)) (rg_nle c15686) (by decide)
          refine lv_aload_n hx hb dX12_taken_81 rfl (lv_at hl 0 rfl) ?_
          refine va_get (D := D) (ci := 12) (v := .ref (b 12)) (C := RX12) (T := TX12) (N := 24) hx hb hts hin12 hown hK hP 0 rfl rfl 19 (by decide) (hts (.fieldLink RX12 47 "MissedPointsModel" "heldKind" "[I") (by decide +kernel)) (fun _ h9 => h9) rfl dX12_taken_82 ?_
          refine lv_iload_n hx hb dX12_taken_85 rfl (lv_at hl 1 rfl) ?_
          refine wk_ald hx hb hK hP 12 0 rfl rfl (rg_in g30_l1 (by decide) (by decide)) dX12_taken_86 hV.2.2.2.2.2 (fun r15690 hr15690 => ?_)
          refine lv_iload_n hx hb dX12_taken_87 rfl (lv_at hl 2 rfl) ?_
          refine lz_ss (As := [.int r15690, .int x1]) (rest := []) ⟨hx, hb, hml, hown, hts⟩ (w_X12_isOf l D cI cS r15690 x1 hr15690) hKK (hP.sub (ws' := []) [] rfl) (va_cwS 2 hts gX12_taken_X12_isOf rfl rfl rfl (by decide +kernel) ⟨Nat.le_of_ble_eq_true rfl, Nat.le_of_ble_eq_true rfl⟩) rfl hl.1 rfl (Nat.le_of_ble_eq_true rfl) dX12_taken_88 ⟨Nat.le_of_ble_eq_true rfl, Nat.le_of_ble_eq_true rfl⟩ (fun r15691 hr15691 => ?_)
          refine lv_if_eq (tgt := 98) hx hb dX12_taken_91 (by decide) (fun c15692 => ?_) (fun c15692 => ?_)
          · have g15693 : Rg 0 0 r15691 := wk_eql hr15691.1 (by decide : Rg 0 0 (0 : Int32)) c15692 (by decide)
            refine lv_iconst (v := 0) hx hb dX12_taken_98 (by decide) ?_
            refine lv_istore_n (lv' := [(3, .int 0), (0, .ref (b 0)), (1, .int x0), (2, .int x1)]) hx hb dX12_taken_99 rfl hl (by decide) rfl (fun ls hl => ?_)
            refine lv_iload_n hx hb dX12_taken_100 rfl (lv_at hl 0 rfl) ?_
            refine lv_if_eq (tgt := 113) hx hb dX12_taken_101 (by decide) (fun c15694 => ?_) (fun c15694 => ?_)
            · refine lv_bipush (v := (-13)) hx hb dX12_taken_113 (by decide) ?_
              exact W.iret (v := (-13)) hx hb hr (fun t ht hW => ⟨_, rfl, ⟨(by decide : Rg (-2147483648) 2147483647 ((-13) : Int32)), trivial⟩, ht⟩) (fun q hq => absurd hq List.not_mem_nil) dX12_taken_115
            · exact absurd c15694 (by decide)
          · have g15695 : Rg (-1) 6 x1 := (hr15691.2 c15692)
            have g15696 : Rg 1 1 r15691 := rg_ne_lo (k := 0) hr15691.1 (by decide) c15692 (by decide)
            refine lv_iconst (v := 1) hx hb dX12_taken_94 (by decide) ?_
            refine lv_goto (tgt := 99) hx hb dX12_taken_95 (by decide) ?_
            refine lv_istore_n (lv' := [(3, .int 1), (0, .ref (b 0)), (1, .int x0), (2, .int x1)]) hx hb dX12_taken_99 rfl hl (by decide) rfl (fun ls hl => ?_)
            refine lv_iload_n hx hb dX12_taken_100 rfl (lv_at hl 0 rfl) ?_
            refine lv_if_eq (tgt := 113) hx hb dX12_taken_101 (by decide) (fun c15697 => ?_) (fun c15697 => ?_)
            · exact absurd c15697 (by decide)
            · refine lv_aload_n hx hb dX12_taken_104 rfl (lv_at hl 1 rfl) ?_
              refine va_get (D := D) (ci := 12) (v := .ref (b 13)) (C := RX12) (T := TX12) (N := 24) hx hb hts hin12 hown hK hP 0 rfl rfl 20 (by decide) (hts (.fieldLink RX12 50 "MissedPointsModel" "heldSet" "[I") (by decide +kernel)) (fun _ h9 => h9) rfl dX12_taken_105 ?_
              refine lv_iload_n hx hb dX12_taken_108 rfl (lv_at hl 2 rfl) ?_
              refine wk_aldA hx hb hK hP 13 0 rfl rfl (rg_in g30_l1 (by decide) (by decide)) dX12_taken_109 (fun r15698 => ?_)
              refine lv_goto (tgt := 115) hx hb dX12_taken_110 (by decide) ?_
              exact W.iret (v := r15698) hx hb hr (fun t ht hW => ⟨_, rfl, ⟨(rg_any r15698), trivial⟩, ht⟩) (fun q hq => absurd hq List.not_mem_nil) dX12_taken_115
      · have g15699 : Rg 6 6 r15683 := wk_eql hr15683 (by decide : Rg 6 6 (6 : Int32)) c15684 (by decide)
        refine lv_iload_n hx hb dX12_taken_54 rfl (lv_at hl 2 rfl) ?_
        refine lv_bipush (v := 10) hx hb dX12_taken_55 (by decide) ?_
        refine wk_isub (e := (-10)) (f := 1) hx hb dX12_taken_57 g30_l2 (by decide : Rg 10 10 (10 : Int32)) (by decide) (fun r15700 hr15700 er15700 qr15700 => ?_)
        refine lv_aload_n hx hb dX12_taken_58 rfl (lv_at hl 0 rfl) ?_
        refine va_get (D := D) (ci := 12) (v := .ref (b 14)) (C := RX12) (T := TX12) (N := 24) hx hb hts hin12 hown hK hP 0 rfl rfl 21 (by decide) (hts (.fieldLink RX12 53 "MissedPointsModel" "heldSort" "[I") (by decide +kernel)) (fun _ h9 => h9) rfl dX12_taken_59 ?_
        refine lv_iload_n hx hb dX12_taken_62 rfl (lv_at hl 1 rfl) ?_
        refine wk_aldA hx hb hK hP 14 0 rfl rfl (rg_in g30_l1 (by decide) (by decide)) dX12_taken_63 (fun r15701 => ?_)
        refine lv_icmp_ne (tgt := 71) hx hb dX12_taken_64 (by decide) (fun c15702 => ?_) (fun c15702 => ?_)
        · refine lv_iconst (v := 0) hx hb dX12_taken_71 (by decide) ?_
          refine lv_goto (tgt := 99) hx hb dX12_taken_72 (by decide) ?_
          refine lv_istore_n (lv' := [(3, .int 0), (0, .ref (b 0)), (1, .int x0), (2, .int x1)]) hx hb dX12_taken_99 rfl hl (by decide) rfl (fun ls hl => ?_)
          refine lv_iload_n hx hb dX12_taken_100 rfl (lv_at hl 0 rfl) ?_
          refine lv_if_eq (tgt := 113) hx hb dX12_taken_101 (by decide) (fun c15703 => ?_) (fun c15703 => ?_)
          · refine lv_bipush (v := (-13)) hx hb dX12_taken_113 (by decide) ?_
            exact W.iret (v := (-13)) hx hb hr (fun t ht hW => ⟨_, rfl, ⟨(by decide : Rg (-2147483648) 2147483647 ((-13) : Int32)), trivial⟩, ht⟩) (fun q hq => absurd hq List.not_mem_nil) dX12_taken_115
          · exact absurd c15703 (by decide)
        · have g15704 : Rg (-10) 1 r15701 := wk_eqr hr15700 (rg_any r15701) c15702 (by decide)
          refine lv_iconst (v := 1) hx hb dX12_taken_67 (by decide) ?_
          refine lv_goto (tgt := 99) hx hb dX12_taken_68 (by decide) ?_
          refine lv_istore_n (lv' := [(3, .int 1), (0, .ref (b 0)), (1, .int x0), (2, .int x1)]) hx hb dX12_taken_99 rfl hl (by decide) rfl (fun ls hl => ?_)
          refine lv_iload_n hx hb dX12_taken_100 rfl (lv_at hl 0 rfl) ?_
          refine lv_if_eq (tgt := 113) hx hb dX12_taken_101 (by decide) (fun c15705 => ?_) (fun c15705 => ?_)
          · exact absurd c15705 (by decide)
          · refine lv_aload_n hx hb dX12_taken_104 rfl (lv_at hl 1 rfl) ?_
            refine va_get (D := D) (ci := 12) (v := .ref (b 13)) (C := RX12) (T := TX12) (N := 24) hx hb hts hin12 hown hK hP 0 rfl rfl 20 (by decide) (hts (.fieldLink RX12 50 "MissedPointsModel" "heldSet" "[I") (by decide +kernel)) (fun _ h9 => h9) rfl dX12_taken_105 ?_
            refine lv_iload_n hx hb dX12_taken_108 rfl (lv_at hl 2 rfl) ?_
            refine wk_aldA hx hb hK hP 13 0 rfl rfl (rg_in g30_l1 (by decide) (by decide)) dX12_taken_109 (fun r15706 => ?_)
            refine lv_goto (tgt := 115) hx hb dX12_taken_110 (by decide) ?_
            exact W.iret (v := r15706) hx hb hr (fun t ht hW => ⟨_, rfl, ⟨(rg_any r15706), trivial⟩, ht⟩) (fun q hq => absurd hq List.not_mem_nil) dX12_taken_115
    · have g15707 : Rg (-1) (-1) r15680 := wk_eql hr15680 (by decide : Rg (-1) (-1) ((-1) : Int32)) c15681 (by decide)
      refine lv_bipush (v := (-11)) hx hb dX12_taken_40 (by decide) ?_
      exact W.iret (v := (-11)) hx hb hr (fun t ht hW => ⟨_, rfl, ⟨(by decide : Rg (-2147483648) 2147483647 ((-11) : Int32)), trivial⟩, ht⟩) (fun q hq => absurd hq List.not_mem_nil) dX12_taken_42
  refine lv_iload_n hx hb dX12_taken_0 rfl (lv_at hl 1 rfl) ?_
  refine lz_ss (As := [.int x0]) (rest := []) ⟨hx, hb, hml, hown, hts⟩ (w_X12_isShelf l D cI cS x0) hKK (hP.sub (ws' := []) [] rfl) (va_cwS 1 hts gX12_taken_X12_isShelf rfl rfl rfl (by decide +kernel) ⟨Nat.le_of_ble_eq_true rfl, Nat.le_of_ble_eq_true rfl⟩) rfl hl.1 rfl (Nat.le_of_ble_eq_true rfl) dX12_taken_1 ⟨Nat.le_of_ble_eq_true rfl, Nat.le_of_ble_eq_true rfl⟩ (fun r15708 hr15708 => ?_)
  refine lv_if_eq (tgt := 27) hx hb dX12_taken_4 (by decide) (fun c15709 => ?_) (fun c15709 => ?_)
  · have g15710 : Rg 0 0 r15708 := wk_eql hr15708.1 (by decide : Rg 0 0 (0 : Int32)) c15709 (by decide)
    refine lv_bipush (v := (-2)) hx hb dX12_taken_27 (by decide) ?_
    exact W.iret (v := (-2)) hx hb hr (fun t ht hW => ⟨_, rfl, ⟨(by decide : Rg (-2147483648) 2147483647 ((-2) : Int32)), trivial⟩, ht⟩) (fun q hq => absurd hq List.not_mem_nil) dX12_taken_29
  · have g15711 : Rg 0 3 x0 := (hr15708.2 c15709)
    have g15712 : Rg 1 1 r15708 := rg_ne_lo (k := 0) hr15708.1 (by decide) c15709 (by decide)
    refine lv_iload_n hx hb dX12_taken_7 rfl (lv_at hl 2 rfl) ?_
    refine lv_iconst (v := 0) hx hb dX12_taken_8 (by decide) ?_
    refine lv_iconst (v := 5) hx hb dX12_taken_9 (by decide) ?_
    refine lz_ss (As := [.int x1, .int 0, .int 5]) (rest := []) ⟨hx, hb, hml, hown, hts⟩ (w_X12_in l D cI cS x1 (0 : Int32) (5 : Int32)) hKK (hP.sub (ws' := []) [] rfl) (va_cwS 3 hts gX12_taken_X12_in rfl rfl rfl (by decide +kernel) ⟨Nat.le_of_ble_eq_true rfl, Nat.le_of_ble_eq_true rfl⟩) rfl hl.1 rfl (Nat.le_of_ble_eq_true rfl) dX12_taken_10 ⟨Nat.le_of_ble_eq_true rfl, Nat.le_of_ble_eq_true rfl⟩ (fun r15713 hr15713 => ?_)
    refine lv_if_ne (tgt := 30) hx hb dX12_taken_13 (by decide) (fun c15714 => ?_) (fun c15714 => ?_)
    · have g15715 : Rg 0 5 x1 := wk_in3 (rg_any x1) (by decide : Rg 0 0 (0 : Int32)) (by decide : Rg 5 5 (5 : Int32)) (hr15713.2 c15714) (by decide)
      have g15716 : Rg 1 1 r15713 := rg_ne_lo (k := 0) hr15713.1 (by decide) c15714 (by decide)
      exact ct30 ls g15711 (rg_w g15715 (by decide) (by decide)) (lv_sub (l' := [(0, .ref (b 0)), (1, .int x0), (2, .int x1)]) hl [0, 1, 2] rfl)
    · have g15717 : Rg 0 0 r15713 := wk_eql hr15713.1 (by decide : Rg 0 0 (0 : Int32)) c15714 (by decide)
      refine lv_iload_n hx hb dX12_taken_16 rfl (lv_at hl 2 rfl) ?_
      refine lv_bipush (v := 10) hx hb dX12_taken_17 (by decide) ?_
      refine lv_bipush (v := 11) hx hb dX12_taken_19 (by decide) ?_
      refine lz_ss (As := [.int x1, .int 10, .int 11]) (rest := []) ⟨hx, hb, hml, hown, hts⟩ (w_X12_in l D cI cS x1 (10 : Int32) (11 : Int32)) hKK (hP.sub (ws' := []) [] rfl) (va_cwS 3 hts gX12_taken_X12_in rfl rfl rfl (by decide +kernel) ⟨Nat.le_of_ble_eq_true rfl, Nat.le_of_ble_eq_true rfl⟩) rfl hl.1 rfl (Nat.le_of_ble_eq_true rfl) dX12_taken_21 ⟨Nat.le_of_ble_eq_true rfl, Nat.le_of_ble_eq_true rfl⟩ (fun r15718 hr15718 => ?_)
      refine lv_if_ne (tgt := 30) hx hb dX12_taken_24 (by decide) (fun c15719 => ?_) (fun c15719 => ?_)
      · have g15720 : Rg 10 11 x1 := wk_in3 (rg_any x1) (by decide : Rg 10 10 (10 : Int32)) (by decide : Rg 11 11 (11 : Int32)) (hr15718.2 c15719) (by decide)
        have g15721 : Rg 1 1 r15718 := rg_ne_lo (k := 0) hr15718.1 (by decide) c15719 (by decide)
        exact ct30 ls g15711 (rg_w g15720 (by decide) (by decide)) (lv_sub (l' := [(0, .ref (b 0)), (1, .int x0), (2, .int x1)]) hl [0, 1, 2] rfl)
      · have g15722 : Rg 0 0 r15718 := wk_eql hr15718.1 (by decide : Rg 0 0 (0 : Int32)) c15719 (by decide)
        refine lv_bipush (v := (-2)) hx hb dX12_taken_27 (by decide) ?_
        exact W.iret (v := (-2)) hx hb hr (fun t ht hW => ⟨_, rfl, ⟨(by decide : Rg (-2147483648) 2147483647 ((-2) : Int32)), trivial⟩, ht⟩) (fun q hq => absurd hq List.not_mem_nil) dX12_taken_29
set_option maxRecDepth 20000 in
theorem ggX12_held_X12_bits : GoodIn wsX12_held wsX12_bits := goodIn_r _ [15] (by decide +kernel) (by decide +kernel)
set_option maxRecDepth 20000 in
theorem gX12_held_X12_bits : GoodIn wsX12_held (va_wsS RX12 85 yX12_bits wsX12_bits) := goodIn_app (goodIn_of _ (by decide +kernel)) ggX12_held_X12_bits
set_option maxRecDepth 20000 in
theorem ggX12_held_X12_isOf : GoodIn wsX12_held wsX12_isOf := goodIn_r _ [9, 10, 11, 5, 12] (by decide +kernel) (by decide +kernel)
set_option maxRecDepth 20000 in
theorem gX12_held_X12_isOf : GoodIn wsX12_held (va_wsS RX12 231 yX12_isOf wsX12_isOf) := goodIn_app (goodIn_of _ (by decide +kernel)) ggX12_held_X12_isOf
theorem dX12_held_101 : decode cX12_held 101 = .ok (.aload_n 0, 1) := by decide +kernel
theorem dX12_held_102 : decode cX12_held 102 = .ok (.getfield 50, 3) := by decide +kernel
theorem dX12_held_105 : decode cX12_held 105 = .ok (.iload 5, 2) := by decide +kernel
theorem dX12_held_107 : decode cX12_held 107 = .ok (.iaload, 1) := by decide +kernel
theorem dX12_held_108 : decode cX12_held 108 = .ok (.invokestatic 85, 3) := by decide +kernel
theorem dX12_held_111 : decode cX12_held 111 = .ok (.if_icmp .le 8, 3) := by decide +kernel
theorem dX12_held_114 : decode cX12_held 114 = .ok (.iload 6, 2) := by decide +kernel
theorem dX12_held_116 : decode cX12_held 116 = .ok (.goto 5, 3) := by decide +kernel
theorem dX12_held_119 : decode cX12_held 119 = .ok (.iload 5, 2) := by decide +kernel
theorem dX12_held_121 : decode cX12_held 121 = .ok (.istore 5, 2) := by decide +kernel
theorem dX12_held_53 : decode cX12_held 53 = .ok (.aload_n 0, 1) := by decide +kernel
theorem dX12_held_54 : decode cX12_held 54 = .ok (.getfield 47, 3) := by decide +kernel
theorem dX12_held_57 : decode cX12_held 57 = .ok (.iload 6, 2) := by decide +kernel
theorem dX12_held_59 : decode cX12_held 59 = .ok (.iaload, 1) := by decide +kernel
theorem dX12_held_60 : decode cX12_held 60 = .ok (.iload_n 1, 1) := by decide +kernel
theorem dX12_held_61 : decode cX12_held 61 = .ok (.invokestatic 231, 3) := by decide +kernel
theorem dX12_held_64 : decode cX12_held 64 = .ok (.ifCond .ne 6, 3) := by decide +kernel
theorem dX12_held_67 : decode cX12_held 67 = .ok (.goto 56, 3) := by decide +kernel
theorem dX12_held_70 : decode cX12_held 70 = .ok (.iinc 3 1, 3) := by decide +kernel
theorem dX12_held_73 : decode cX12_held 73 = .ok (.iload 4, 2) := by decide +kernel
theorem dX12_held_75 : decode cX12_held 75 = .ok (.aload_n 0, 1) := by decide +kernel
theorem dX12_held_76 : decode cX12_held 76 = .ok (.getfield 50, 3) := by decide +kernel
theorem dX12_held_79 : decode cX12_held 79 = .ok (.iload 6, 2) := by decide +kernel
theorem dX12_held_81 : decode cX12_held 81 = .ok (.iaload, 1) := by decide +kernel
theorem dX12_held_82 : decode cX12_held 82 = .ok (.ior, 1) := by decide +kernel
theorem dX12_held_83 : decode cX12_held 83 = .ok (.istore 4, 2) := by decide +kernel
theorem dX12_held_85 : decode cX12_held 85 = .ok (.iload 5, 2) := by decide +kernel
theorem dX12_held_87 : decode cX12_held 87 = .ok (.iconst (-1), 1) := by decide +kernel
theorem dX12_held_88 : decode cX12_held 88 = .ok (.if_icmp .eq 26, 3) := by decide +kernel
theorem dX12_held_91 : decode cX12_held 91 = .ok (.aload_n 0, 1) := by decide +kernel
theorem dX12_held_92 : decode cX12_held 92 = .ok (.getfield 50, 3) := by decide +kernel
theorem dX12_held_95 : decode cX12_held 95 = .ok (.iload 6, 2) := by decide +kernel
theorem dX12_held_97 : decode cX12_held 97 = .ok (.iaload, 1) := by decide +kernel
theorem dX12_held_98 : decode cX12_held 98 = .ok (.invokestatic 85, 3) := by decide +kernel
set_option maxHeartbeats 4000000 in
set_option maxRecDepth 100000 in
theorem w_X12_held (l : Launch) (D : va_G) (cI cS : ClassId) (b : Nat → Nat) (L v : SU) (hL : TyL L) (hV : TyV v) (x0 x1 : Int32) : Met l yX12_held wsX12_held ({ frames := 2, cells := 0, slots := 0, locals := 80 }) (PS D cI cS (wM cI b L v) [.ref (b 0), .int x0, .int x1]) (vp_Si (fun r => Rg (-2147483648) 2147483647 r ∧ True)) 0 0 (fun _ => False) := by
  refine Met.ofW (cc := cX12_held) (maxL := 7) (ret := (some .int)) (by decide) rfl ?_
  intro p e s m args below meth c s₁ B hml hv
  obtain ⟨rfl, hP, hKK⟩ := hv
  have hx := B.exec
  have hb := B.bytes
  have hr := B.returns
  have hts := atoms_spec (ws := wsX12_held) B.pre
  have hown : s.vm.findClass RX12 = some m.cls := findClass_of_methodNamed B.named
  have hlocks := B.notSynchronized
  have hK := hKK.1
  have hin12 : ∀ w ∈ wsX120, w ∈ wsX12_held := by decide +kernel
  have hl := lv_entry ([.ref (b 0), .int x0, .int x1]) (n := 7) (Nat.le_of_ble_eq_true rfl)
  rw [lg_entry_eq]
  generalize (lg_sl ([.ref (b 0), .int x0, .int x1]) ++ List.replicate (7 - (lg_sl ([.ref (b 0), .int x0, .int x1])).length) Slot.unset).toArray = ls at hl ⊢
  have hl : lv_has ls 7 [(0, .ref (b 0)), (1, .int x0), (2, .int x1)] := hl
  have lp32 : ∀ (n32 : Nat) (y32_l3 y32_l4 y32_l5 y32_l6 : Int32) (ls : Array Slot), Rg 0 5 x0 → Rg 0 2 x1 → Rg (-1) 3 y32_l5 → Rg 0 4 y32_l6 → lv_has ls 7 [(0, .ref (b 0)), (1, .int x0), (2, .int x1), (3, .int y32_l3), (4, .int y32_l4), (5, .int y32_l5), (6, .int y32_l6)] → 4 - y32_l6.toInt < (n32 : Int) → W p l e (headSpec wsX12_held ({ frames := 2, cells := 0, slots := 0, locals := 80 })).room s m ([.ref (b 0), .int x0, .int x1]).toArray below meth c s.heap [] 0 0 (MQ below (vp_Si (fun r => Rg (-2147483648) 2147483647 r ∧ True)) ([.ref (b 0), .int x0, .int x1]).toArray s 0 0 (fun _ => False)) (F0 m 32 ls []) := by
    intro n32
    induction n32 with
    | zero =>
      intro y32_l3 y32_l4 y32_l5 y32_l6 ls g32_l1 g32_l2 g32_l5 g32_l6 hl hm32
      exact absurd rfl (me_z g32_l6 hm32)
    | succ n32 ih32 =>
      intro y32_l3 y32_l4 y32_l5 y32_l6 ls g32_l1 g32_l2 g32_l5 g32_l6 hl hm32
      refine lv_iload hx hb dX12_held_32 (lv_at hl 6 rfl) ?_
      refine lv_iconst (v := 4) hx hb dX12_held_34 (by decide) ?_
      refine lv_icmp_ge (tgt := 129) hx hb dX12_held_35 (by decide) (fun c16897 => ?_) (fun c16897 => ?_)
      · have g16898 : Rg 4 4 y32_l6 := rg_ler (by decide : Rg 4 4 (4 : Int32)) g32_l6 c16897 (by decide)
        refine lv_iload_n hx hb dX12_held_129 rfl (lv_at hl 2 rfl) ?_
        refine lv_if_ne (tgt := 137) hx hb dX12_held_130 (by decide) (fun c16899 => ?_) (fun c16899 => ?_)
        · have g16900 : Rg 1 2 x1 := rg_ne_lo (k := 0) g32_l2 (by decide) c16899 (by decide)
          refine lv_iload_n hx hb dX12_held_137 rfl (lv_at hl 2 rfl) ?_
          refine lv_iconst (v := 1) hx hb dX12_held_138 (by decide) ?_
          refine lv_icmp_ne (tgt := 147) hx hb dX12_held_139 (by decide) (fun c16901 => ?_) (fun c16901 => ?_)
          · have g16902 : Rg 2 2 x1 := rg_ne_lo (k := 1) g16900 (by decide) c16901 (by decide)
            refine lv_iload hx hb dX12_held_147 (lv_at hl 5 rfl) ?_
            exact W.iret (v := y32_l5) hx hb hr (fun t ht hW => ⟨_, rfl, ⟨(rg_any y32_l5), trivial⟩, ht⟩) (fun q hq => absurd hq List.not_mem_nil) dX12_held_149
          · have g16903 : Rg 1 1 x1 := wk_eql g16900 (by decide : Rg 1 1 (1 : Int32)) c16901 (by decide)
            refine lv_iload hx hb dX12_held_142 (lv_at hl 4 rfl) ?_
            refine lv_goto (tgt := 149) hx hb dX12_held_144 (by decide) ?_
            exact W.iret (v := y32_l4) hx hb hr (fun t ht hW => ⟨_, rfl, ⟨(rg_any y32_l4), trivial⟩, ht⟩) (fun q hq => absurd hq List.not_mem_nil) dX12_held_149
        · have g16904 : Rg 0 0 x1 := wk_eql g32_l2 (by decide : Rg 0 0 (0 : Int32)) c16899 (by decide)
          refine lv_iload_n hx hb dX12_held_133 rfl (lv_at hl 3 rfl) ?_
          refine lv_goto (tgt := 149) hx hb dX12_held_134 (by decide) ?_
          exact W.iret (v := y32_l3) hx hb hr (fun t ht hW => ⟨_, rfl, ⟨(rg_any y32_l3), trivial⟩, ht⟩) (fun q hq => absurd hq List.not_mem_nil) dX12_held_149
      · have g16905 : Rg 0 3 y32_l6 := rg_ltl g32_l6 (by decide : Rg 4 4 (4 : Int32)) (rg_nle c16897) (by decide)
        refine lv_aload_n hx hb dX12_held_38 rfl (lv_at hl 0 rfl) ?_
        refine va_get (D := D) (ci := 12) (v := .ref (b 12)) (C := RX12) (T := TX12) (N := 24) hx hb hts hin12 hown hK hP 0 rfl rfl 19 (by decide) (hts (.fieldLink RX12 47 "MissedPointsModel" "heldKind" "[I") (by decide +kernel)) (fun _ h9 => h9) rfl dX12_held_39 ?_
        refine lv_iload hx hb dX12_held_42 (lv_at hl 6 rfl) ?_
        refine wk_ald hx hb hK hP 12 0 rfl rfl (rg_in g16905 (by decide) (by decide)) dX12_held_44 hV.2.2.2.2.2 (fun r16906 hr16906 => ?_)
        refine lv_iconst (v := 0) hx hb dX12_held_45 (by decide) ?_
        refine lv_iconst (v := 5) hx hb dX12_held_46 (by decide) ?_
        refine lz_ss (As := [.int r16906, .int 0, .int 5]) (rest := []) ⟨hx, hb, hml, hown, hts⟩ (w_X12_in l D cI cS r16906 (0 : Int32) (5 : Int32)) hKK (hP.sub (ws' := []) [] rfl) (va_cwS 3 hts gX12_held_X12_in rfl rfl rfl (by decide +kernel) ⟨Nat.le_of_ble_eq_true rfl, Nat.le_of_ble_eq_true rfl⟩) rfl hl.1 rfl (Nat.le_of_ble_eq_true rfl) dX12_held_47 ⟨Nat.le_of_ble_eq_true rfl, Nat.le_of_ble_eq_true rfl⟩ (fun r16907 hr16907 => ?_)
        refine lv_if_eq (tgt := 123) hx hb dX12_held_50 (by decide) (fun c16908 => ?_) (fun c16908 => ?_)
        · have g16909 : Rg 0 0 r16907 := wk_eql hr16907.1 (by decide : Rg 0 0 (0 : Int32)) c16908 (by decide)
          refine wk_iinc (lv' := fun r => [(6, .int r), (0, .ref (b 0)), (1, .int x0), (2, .int x1), (3, .int y32_l3), (4, .int y32_l4), (5, .int y32_l5)]) (e := 1) (f := 4) hx hb dX12_held_123 hl (k := 6) rfl (by decide) g16905 (by decide) (fun _ => rfl) (fun r16910 ls hr16910 er16910 hl => ?_)
          refine lv_goto (tgt := 32) hx hb dX12_held_126 (by decide) ?_
          exact ih32 _ y32_l3 y32_l4 y32_l5 r16910 ls g32_l1 g32_l2 g32_l5 (rg_w hr16910 (by decide) (by decide)) (lv_sub (l' := [(0, .ref (b 0)), (1, .int x0), (2, .int x1), (3, .int y32_l3), (4, .int y32_l4), (5, .int y32_l5), (6, .int r16910)]) hl [1, 2, 3, 4, 5, 6, 0] rfl) (me_up hm32 er16910 (by decide))
        · have g16911 : Rg 1 1 r16907 := rg_ne_lo (k := 0) hr16907.1 (by decide) c16908 (by decide)
          refine lv_aload_n hx hb dX12_held_53 rfl (lv_at hl 0 rfl) ?_
          refine va_get (D := D) (ci := 12) (v := .ref (b 12)) (C := RX12) (T := TX12) (N := 24) hx hb hts hin12 hown hK hP 0 rfl rfl 19 (by decide) (hts (.fieldLink RX12 47 "MissedPointsModel" "heldKind" "[I") (by decide +kernel)) (fun _ h9 => h9) rfl dX12_held_54 ?_
          refine lv_iload hx hb dX12_held_57 (lv_at hl 6 rfl) ?_
          refine wk_ald hx hb hK hP 12 0 rfl rfl (rg_in g16905 (by decide) (by decide)) dX12_held_59 hV.2.2.2.2.2 (fun r16912 hr16912 => ?_)
          refine lv_iload_n hx hb dX12_held_60 rfl (lv_at hl 1 rfl) ?_
          refine lz_ss (As := [.int r16912, .int x0]) (rest := []) ⟨hx, hb, hml, hown, hts⟩ (w_X12_isOf l D cI cS r16912 x0 hr16912) hKK (hP.sub (ws' := []) [] rfl) (va_cwS 2 hts gX12_held_X12_isOf rfl rfl rfl (by decide +kernel) ⟨Nat.le_of_ble_eq_true rfl, Nat.le_of_ble_eq_true rfl⟩) rfl hl.1 rfl (Nat.le_of_ble_eq_true rfl) dX12_held_61 ⟨Nat.le_of_ble_eq_true rfl, Nat.le_of_ble_eq_true rfl⟩ (fun r16913 hr16913 => ?_)
          refine lv_if_ne (tgt := 70) hx hb dX12_held_64 (by decide) (fun c16914 => ?_) (fun c16914 => ?_)
          · have g16915 : Rg 1 1 r16913 := rg_ne_lo (k := 0) hr16913.1 (by decide) c16914 (by decide)
            refine wk_iincA (lv' := fun r => [(3, .int r), (0, .ref (b 0)), (1, .int x0), (2, .int x1), (4, .int y32_l4), (5, .int y32_l5), (6, .int y32_l6)]) hx hb dX12_held_70 hl (k := 3) rfl (by decide) (fun _ => rfl) (fun r16916 ls hl => ?_)
            refine lv_iload hx hb dX12_held_73 (lv_at hl 4 rfl) ?_
            refine lv_aload_n hx hb dX12_held_75 rfl (lv_at hl 1 rfl) ?_
            refine va_get (D := D) (ci := 12) (v := .ref (b 13)) (C := RX12) (T := TX12) (N := 24) hx hb hts hin12 hown hK hP 0 rfl rfl 20 (by decide) (hts (.fieldLink RX12 50 "MissedPointsModel" "heldSet" "[I") (by decide +kernel)) (fun _ h9 => h9) rfl dX12_held_76 ?_
            refine lv_iload hx hb dX12_held_79 (lv_at hl 6 rfl) ?_
            refine wk_aldA hx hb hK hP 13 0 rfl rfl (rg_in g16905 (by decide) (by decide)) dX12_held_81 (fun r16917 => ?_)
            refine lv_ior hx hb dX12_held_82 ?_
            refine wk_topP (P := fun r => r = y32_l4 ||| r16917) rfl (fun r16918 qr16918 => ?_)
            refine lv_istore (lv' := [(4, .int r16918), (3, .int r16916), (0, .ref (b 0)), (1, .int x0), (2, .int x1), (5, .int y32_l5), (6, .int y32_l6)]) hx hb dX12_held_83 hl (by decide) rfl (fun ls hl => ?_)
            refine lv_iload hx hb dX12_held_85 (lv_at hl 5 rfl) ?_
            refine lv_iconst (v := (-1)) hx hb dX12_held_87 (by decide) ?_
            refine lv_icmp_eq (tgt := 114) hx hb dX12_held_88 (by decide) (fun c16919 => ?_) (fun c16919 => ?_)
            · have g16920 : Rg (-1) (-1) y32_l5 := wk_eql g32_l5 (by decide : Rg (-1) (-1) ((-1) : Int32)) c16919 (by decide)
              refine lv_iload hx hb dX12_held_114 (lv_at hl 6 rfl) ?_
              refine lv_goto (tgt := 121) hx hb dX12_held_116 (by decide) ?_
              refine lv_istore (lv' := [(5, .int y32_l6), (4, .int r16918), (3, .int r16916), (0, .ref (b 0)), (1, .int x0), (2, .int x1), (6, .int y32_l6)]) hx hb dX12_held_121 hl (by decide) rfl (fun ls hl => ?_)
              refine wk_iinc (lv' := fun r => [(6, .int r), (5, .int y32_l6), (4, .int r16918), (3, .int r16916), (0, .ref (b 0)), (1, .int x0), (2, .int x1)]) (e := 1) (f := 4) hx hb dX12_held_123 hl (k := 6) rfl (by decide) g16905 (by decide) (fun _ => rfl) (fun r16921 ls hr16921 er16921 hl => ?_)
              refine lv_goto (tgt := 32) hx hb dX12_held_126 (by decide) ?_
              exact ih32 _ r16916 r16918 y32_l6 r16921 ls g32_l1 g32_l2 (rg_w g16905 (by decide) (by decide)) (rg_w hr16921 (by decide) (by decide)) (lv_sub (l' := [(0, .ref (b 0)), (1, .int x0), (2, .int x1), (3, .int r16916), (4, .int r16918), (5, .int y32_l6), (6, .int r16921)]) hl [4, 5, 6, 3, 2, 1, 0] rfl) (me_up hm32 er16921 (by decide))
            · have g16922 : Rg 0 3 y32_l5 := rg_ne_lo (k := (-1)) g32_l5 (by decide) c16919 (by decide)
              refine lv_aload_n hx hb dX12_held_91 rfl (lv_at hl 2 rfl) ?_
              refine va_get (D := D) (ci := 12) (v := .ref (b 13)) (C := RX12) (T := TX12) (N := 24) hx hb hts hin12 hown hK hP 0 rfl rfl 20 (by decide) (hts (.fieldLink RX12 50 "MissedPointsModel" "heldSet" "[I") (by decide +kernel)) (fun _ h9 => h9) rfl dX12_held_92 ?_
              refine lv_iload hx hb dX12_held_95 (lv_at hl 6 rfl) ?_
              refine wk_aldA hx hb hK hP 13 0 rfl rfl (rg_in g16905 (by decide) (by decide)) dX12_held_97 (fun r16923 => ?_)
              refine lz_ss (As := [.int r16923]) (rest := []) ⟨hx, hb, hml, hown, hts⟩ (w_X12_bits l D cI cS r16923) hKK (hP.sub (ws' := []) [] rfl) (va_cwS 1 hts gX12_held_X12_bits rfl rfl rfl (by decide +kernel) ⟨Nat.le_of_ble_eq_true rfl, Nat.le_of_ble_eq_true rfl⟩) rfl hl.1 rfl (Nat.le_of_ble_eq_true rfl) dX12_held_98 ⟨Nat.le_of_ble_eq_true rfl, Nat.le_of_ble_eq_true rfl⟩ (fun r16924 hr16924 => ?_)
              refine lv_aload_n hx hb dX12_held_101 rfl (lv_at hl 2 rfl) ?_
              refine va_get (D := D) (ci := 12) (v := .ref (b 13)) (C := RX12) (T := TX12) (N := 24) hx hb hts hin12 hown hK hP 0 rfl rfl 20 (by decide) (hts (.fieldLink RX12 50 "MissedPointsModel" "heldSet" "[I") (by decide +kernel)) (fun _ h9 => h9) rfl dX12_held_102 ?_
              refine lv_iload hx hb dX12_held_105 (lv_at hl 5 rfl) ?_
              refine wk_aldA hx hb hK hP 13 0 rfl rfl (rg_in g16922 (by decide) (by decide)) dX12_held_107 (fun r16925 => ?_)
              refine lz_ss (As := [.int r16925]) (rest := [.int r16924]) ⟨hx, hb, hml, hown, hts⟩ (w_X12_bits l D cI cS r16925) hKK (hP.sub (ws' := []) [] rfl) (va_cwS 1 hts gX12_held_X12_bits rfl rfl rfl (by decide +kernel) ⟨Nat.le_of_ble_eq_true rfl, Nat.le_of_ble_eq_true rfl⟩) rfl hl.1 rfl (Nat.le_of_ble_eq_true rfl) dX12_held_108 ⟨Nat.le_of_ble_eq_true rfl, Nat.le_of_ble_eq_true rfl⟩ (fun r16926 hr16926 => ?_)
              refine lv_icmp_le (tgt := 119) hx hb dX12_held_111 (by decide) (fun c16927 => ?_) (fun c16927 => ?_)
              · refine lv_iload hx hb dX12_held_119 (lv_at hl 5 rfl) ?_
                refine lv_istore (lv' := [(5, .int y32_l5), (4, .int r16918), (3, .int r16916), (0, .ref (b 0)), (1, .int x0), (2, .int x1), (6, .int y32_l6)]) hx hb dX12_held_121 hl (by decide) rfl (fun ls hl => ?_)
                refine wk_iinc (lv' := fun r => [(6, .int r), (5, .int y32_l5), (4, .int r16918), (3, .int r16916), (0, .ref (b 0)), (1, .int x0), (2, .int x1)]) (e := 1) (f := 4) hx hb dX12_held_123 hl (k := 6) rfl (by decide) g16905 (by decide) (fun _ => rfl) (fun r16928 ls hr16928 er16928 hl => ?_)
                refine lv_goto (tgt := 32) hx hb dX12_held_126 (by decide) ?_
                exact ih32 _ r16916 r16918 y32_l5 r16928 ls g32_l1 g32_l2 (rg_w g16922 (by decide) (by decide)) (rg_w hr16928 (by decide) (by decide)) (lv_sub (l' := [(0, .ref (b 0)), (1, .int x0), (2, .int x1), (3, .int r16916), (4, .int r16918), (5, .int y32_l5), (6, .int r16928)]) hl [4, 5, 6, 3, 2, 1, 0] rfl) (me_up hm32 er16928 (by decide))
              · refine lv_iload hx hb dX12_held_114 (lv_at hl 6 rfl) ?_
                refine lv_goto (tgt := 121) hx hb dX12_held_116 (by decide) ?_
                refine lv_istore (lv' := [(5, .int y32_l6), (4, .int r16918), (3, .int r16916), (0, .ref (b 0)), (1, .int x0), (2, .int x1), (6, .int y32_l6)]) hx hb dX12_held_121 hl (by decide) rfl (fun ls hl => ?_)
                refine wk_iinc (lv' := fun r => [(6, .int r), (5, .int y32_l6), (4, .int r16918), (3, .int r16916), (0, .ref (b 0)), (1, .int x0), (2, .int x1)]) (e := 1) (f := 4) hx hb dX12_held_123 hl (k := 6) rfl (by decide) g16905 (by decide) (fun _ => rfl) (fun r16929 ls hr16929 er16929 hl => ?_)
                refine lv_goto (tgt := 32) hx hb dX12_held_126 (by decide) ?_
                exact ih32 _ r16916 r16918 y32_l6 r16929 ls g32_l1 g32_l2 (rg_w g16905 (by decide) (by decide)) (rg_w hr16929 (by decide) (by decide)) (lv_sub (l' := [(0, .ref (b 0)), (1, .int x0), (2, .int x1), (3, .int r16916), (4, .int r16918), (5, .int y32_l6), (6, .int r16929)]) hl [4, 5, 6, 3, 2, 1, 0] rfl) (me_up hm32 er16929 (by decide))
          · have g16930 : Rg 0 0 r16913 := wk_eql hr16913.1 (by decide : Rg 0 0 (0 : Int32)) c16914 (by decide)
            refine lv_goto (tgt := 123) hx hb dX12_held_67 (by decide) ?_
            refine wk_iinc (lv' := fun r => [(6, .int r), (0, .ref (b 0)), (1, .int x0), (2, .int x1), (3, .int y32_l3), (4, .int y32_l4), (5, .int y32_l5)]) (e := 1) (f := 4) hx hb dX12_held_123 hl (k := 6) rfl (by decide) g16905 (by decide) (fun _ => rfl) (fun r16931 ls hr16931 er16931 hl => ?_)
            refine lv_goto (tgt := 32) hx hb dX12_held_126 (by decide) ?_
            exact ih32 _ y32_l3 y32_l4 y32_l5 r16931 ls g32_l1 g32_l2 g32_l5 (rg_w hr16931 (by decide) (by decide)) (lv_sub (l' := [(0, .ref (b 0)), (1, .int x0), (2, .int x1), (3, .int y32_l3), (4, .int y32_l4), (5, .int y32_l5), (6, .int r16931)]) hl [1, 2, 3, 4, 5, 6, 0] rfl) (me_up hm32 er16931 (by decide))
  refine lv_iload_n hx hb dX12_held_0 rfl (lv_at hl 1 rfl) ?_
  refine lv_iconst (v := 0) hx hb dX12_held_1 (by decide) ?_
  refine lv_iconst (v := 5) hx hb dX12_held_2 (by decide) ?_
  refine lz_ss (As := [.int x0, .int 0, .int 5]) (rest := []) ⟨hx, hb, hml, hown, hts⟩ (w_X12_in l D cI cS x0 (0 : Int32) (5 : Int32)) hKK (hP.sub (ws' := []) [] rfl) (va_cwS 3 hts gX12_held_X12_in rfl rfl rfl (by decide +kernel) ⟨Nat.le_of_ble_eq_true rfl, Nat.le_of_ble_eq_true rfl⟩) rfl hl.1 rfl (Nat.le_of_ble_eq_true rfl) dX12_held_3 ⟨Nat.le_of_ble_eq_true rfl, Nat.le_of_ble_eq_true rfl⟩ (fun r16932 hr16932 => ?_)
  refine lv_if_eq (tgt := 18) hx hb dX12_held_6 (by decide) (fun c16933 => ?_) (fun c16933 => ?_)
  · have g16934 : Rg 0 0 r16932 := wk_eql hr16932.1 (by decide : Rg 0 0 (0 : Int32)) c16933 (by decide)
    refine lv_bipush (v := (-2)) hx hb dX12_held_18 (by decide) ?_
    exact W.iret (v := (-2)) hx hb hr (fun t ht hW => ⟨_, rfl, ⟨(by decide : Rg (-2147483648) 2147483647 ((-2) : Int32)), trivial⟩, ht⟩) (fun q hq => absurd hq List.not_mem_nil) dX12_held_20
  · have g16935 : Rg 0 5 x0 := wk_in3 (rg_any x0) (by decide : Rg 0 0 (0 : Int32)) (by decide : Rg 5 5 (5 : Int32)) (hr16932.2 c16933) (by decide)
    have g16936 : Rg 1 1 r16932 := rg_ne_lo (k := 0) hr16932.1 (by decide) c16933 (by decide)
    refine lv_iload_n hx hb dX12_held_9 rfl (lv_at hl 2 rfl) ?_
    refine lv_iconst (v := 0) hx hb dX12_held_10 (by decide) ?_
    refine lv_iconst (v := 2) hx hb dX12_held_11 (by decide) ?_
    refine lz_ss (As := [.int x1, .int 0, .int 2]) (rest := []) ⟨hx, hb, hml, hown, hts⟩ (w_X12_in l D cI cS x1 (0 : Int32) (2 : Int32)) hKK (hP.sub (ws' := []) [] rfl) (va_cwS 3 hts gX12_held_X12_in rfl rfl rfl (by decide +kernel) ⟨Nat.le_of_ble_eq_true rfl, Nat.le_of_ble_eq_true rfl⟩) rfl hl.1 rfl (Nat.le_of_ble_eq_true rfl) dX12_held_12 ⟨Nat.le_of_ble_eq_true rfl, Nat.le_of_ble_eq_true rfl⟩ (fun r16937 hr16937 => ?_)
    refine lv_if_ne (tgt := 21) hx hb dX12_held_15 (by decide) (fun c16938 => ?_) (fun c16938 => ?_)
    · have g16939 : Rg 0 2 x1 := wk_in3 (rg_any x1) (by decide : Rg 0 0 (0 : Int32)) (by decide : Rg 2 2 (2 : Int32)) (hr16937.2 c16938) (by decide)
      have g16940 : Rg 1 1 r16937 := rg_ne_lo (k := 0) hr16937.1 (by decide) c16938 (by decide)
      refine lv_iconst (v := 0) hx hb dX12_held_21 (by decide) ?_
      refine lv_istore_n (lv' := [(3, .int 0), (0, .ref (b 0)), (1, .int x0), (2, .int x1)]) hx hb dX12_held_22 rfl hl (by decide) rfl (fun ls hl => ?_)
      refine lv_iconst (v := 0) hx hb dX12_held_23 (by decide) ?_
      refine lv_istore (lv' := [(4, .int 0), (3, .int 0), (0, .ref (b 0)), (1, .int x0), (2, .int x1)]) hx hb dX12_held_24 hl (by decide) rfl (fun ls hl => ?_)
      refine lv_iconst (v := (-1)) hx hb dX12_held_26 (by decide) ?_
      refine lv_istore (lv' := [(5, .int (-1)), (4, .int 0), (3, .int 0), (0, .ref (b 0)), (1, .int x0), (2, .int x1)]) hx hb dX12_held_27 hl (by decide) rfl (fun ls hl => ?_)
      refine lv_iconst (v := 0) hx hb dX12_held_29 (by decide) ?_
      refine lv_istore (lv' := [(6, .int 0), (5, .int (-1)), (4, .int 0), (3, .int 0), (0, .ref (b 0)), (1, .int x0), (2, .int x1)]) hx hb dX12_held_30 hl (by decide) rfl (fun ls hl => ?_)
      exact lp32 5 (0 : Int32) (0 : Int32) (((-1) : Int32)) (0 : Int32) ls g16935 g16939 (by decide : Rg (-1) 3 ((-1) : Int32)) (by decide : Rg 0 4 (0 : Int32)) (lv_sub (l' := [(0, .ref (b 0)), (1, .int x0), (2, .int x1), (3, .int 0), (4, .int 0), (5, .int (-1)), (6, .int 0)]) hl [4, 5, 6, 3, 2, 1, 0] rfl) (me_i (by decide : Rg 0 4 (0 : Int32)) (by decide))
    · have g16941 : Rg 0 0 r16937 := wk_eql hr16937.1 (by decide : Rg 0 0 (0 : Int32)) c16938 (by decide)
      refine lv_bipush (v := (-2)) hx hb dX12_held_18 (by decide) ?_
      exact W.iret (v := (-2)) hx hb hr (fun t ht hW => ⟨_, rfl, ⟨(by decide : Rg (-2147483648) 2147483647 ((-2) : Int32)), trivial⟩, ht⟩) (fun q hq => absurd hq List.not_mem_nil) dX12_held_20
set_option maxRecDepth 20000 in
theorem ggX12_shelf_X12_mark : GoodIn wsX12_shelf wsX12_mark := goodIn_r _ [65, 13, 14, 15, 8, 16, 17, 10, 11, 12, 37, 38, 39, 40, 41, 42, 43, 22, 23, 24, 25, 44, 45, 46, 47, 48, 49, 50, 51, 52, 53, 54, 55, 56, 57, 66, 67, 68, 69, 70, 71, 72, 73, 74, 75, 76, 77, 78, 79, 80, 81, 82, 83, 84, 85, 86, 87, 88, 89] (by decide +kernel) (by decide +kernel)
set_option maxRecDepth 20000 in
theorem gX12_shelf_X12_mark : GoodIn wsX12_shelf (wsV RX12 225 RX12 yX12_mark wsX12_mark) := goodIn_app (goodIn_of _ (by decide +kernel)) ggX12_shelf_X12_mark
theorem dX12_shelf_109 : decode cX12_shelf 109 = .ok (.aload_n 0, 1) := by decide +kernel
theorem dX12_shelf_110 : decode cX12_shelf 110 = .ok (.iload_n 3, 1) := by decide +kernel
theorem dX12_shelf_111 : decode cX12_shelf 111 = .ok (.invokevirtual 225, 3) := by decide +kernel
theorem dX12_shelf_114 : decode cX12_shelf 114 = .ok (.iconst 1, 1) := by decide +kernel
theorem dX12_shelf_115 : decode cX12_shelf 115 = .ok (.if_icmp .ne 7, 3) := by decide +kernel
theorem dX12_shelf_118 : decode cX12_shelf 118 = .ok (.iconst 3, 1) := by decide +kernel
theorem dX12_shelf_119 : decode cX12_shelf 119 = .ok (.goto 45, 3) := by decide +kernel
theorem dX12_shelf_122 : decode cX12_shelf 122 = .ok (.iconst 1, 1) := by decide +kernel
theorem dX12_shelf_123 : decode cX12_shelf 123 = .ok (.goto 41, 3) := by decide +kernel
theorem dX12_shelf_131 : decode cX12_shelf 131 = .ok (.iconst 4, 1) := by decide +kernel
theorem dX12_shelf_132 : decode cX12_shelf 132 = .ok (.goto 32, 3) := by decide +kernel
theorem dX12_shelf_140 : decode cX12_shelf 140 = .ok (.iconst 5, 1) := by decide +kernel
theorem dX12_shelf_141 : decode cX12_shelf 141 = .ok (.goto 23, 3) := by decide +kernel
theorem dX12_shelf_158 : decode cX12_shelf 158 = .ok (.bipush 6, 2) := by decide +kernel
theorem dX12_shelf_160 : decode cX12_shelf 160 = .ok (.goto 4, 3) := by decide +kernel
theorem dX12_shelf_183 : decode cX12_shelf 183 = .ok (.iconst 1, 1) := by decide +kernel
theorem dX12_shelf_184 : decode cX12_shelf 184 = .ok (.iload_n 3, 1) := by decide +kernel
theorem dX12_shelf_185 : decode cX12_shelf 185 = .ok (.ishl, 1) := by decide +kernel
theorem dX12_shelf_186 : decode cX12_shelf 186 = .ok (.goto 37, 3) := by decide +kernel
theorem dX12_shelf_194 : decode cX12_shelf 194 = .ok (.iload 4, 2) := by decide +kernel
theorem dX12_shelf_196 : decode cX12_shelf 196 = .ok (.goto 27, 3) := by decide +kernel
theorem dX12_shelf_213 : decode cX12_shelf 213 = .ok (.aload_n 0, 1) := by decide +kernel
theorem dX12_shelf_214 : decode cX12_shelf 214 = .ok (.getfield 41, 3) := by decide +kernel
theorem dX12_shelf_217 : decode cX12_shelf 217 = .ok (.iload_n 3, 1) := by decide +kernel
theorem dX12_shelf_218 : decode cX12_shelf 218 = .ok (.iaload, 1) := by decide +kernel
theorem dX12_shelf_219 : decode cX12_shelf 219 = .ok (.goto 4, 3) := by decide +kernel
theorem dX12_shelf_234 : decode cX12_shelf 234 = .ok (.aload_n 0, 1) := by decide +kernel
theorem dX12_shelf_235 : decode cX12_shelf 235 = .ok (.getfield 38, 3) := by decide +kernel
theorem dX12_shelf_238 : decode cX12_shelf 238 = .ok (.iload_n 3, 1) := by decide +kernel
theorem dX12_shelf_239 : decode cX12_shelf 239 = .ok (.iaload, 1) := by decide +kernel
theorem dX12_shelf_240 : decode cX12_shelf 240 = .ok (.goto 4, 3) := by decide +kernel
set_option maxHeartbeats 4000000 in
set_option maxRecDepth 100000 in
theorem w_X12_shelf (l : Launch) (D : va_G) (cI cS : ClassId) (sz : Nat) (b : Nat → Nat) (L v : SU) (hL : TyL L) (hV : TyV v) (x0 x1 x2 : Int32) : Met l yX12_shelf wsX12_shelf ({ frames := 5, cells := 0, slots := 0, locals := 200 }) (PQ D cI cS (wM cI b L v) sz [.ref (b 0), .int x0, .int x1, .int x2]) (QF (S := SU) D (wM cI b L v) (wM cI b L) sz (fun r u => TyV u ∧ Rg (-11) 1 r ∧ True)) 0 0 (va_A (wM cI b L v) sz) := by
  refine Met.ofW (cc := cX12_shelf) (maxL := 6) (ret := (some .int)) (by decide) rfl ?_
  intro p e s m args below meth c s₁ B hml hv
  obtain ⟨rfl, hsz, hP, hKK, hD0⟩ := hv
  have hx := B.exec
  have hb := B.bytes
  have hr := B.returns
  have hts := atoms_spec (ws := wsX12_shelf) B.pre
  have hown : s.vm.findClass RX12 = some m.cls := findClass_of_methodNamed B.named
  have hlocks := B.notSynchronized
  have hK := hKK.1
  have hin12 : ∀ w ∈ wsX120, w ∈ wsX12_shelf := by decide +kernel
  subst hsz
  have hD := hD0.self (sz := s.heap.size)
  obtain ⟨A, hAe⟩ : ∃ A, A = va_A (wM cI b L v) s.heap.size := ⟨_, rfl⟩
  rw [← hAe] at hD
  have hA : ∀ q : Nat, s.heap.size ≤ q → A q := fun q h => by rw [hAe]; exact Or.inr h
  have hS : va_S A s.heap s.heap [] := va_S.rf
  have hl := lv_entry ([.ref (b 0), .int x0, .int x1, .int x2]) (n := 6) (Nat.le_of_ble_eq_true rfl)
  rw [lg_entry_eq]
  generalize (lg_sl ([.ref (b 0), .int x0, .int x1, .int x2]) ++ List.replicate (6 - (lg_sl ([.ref (b 0), .int x0, .int x1, .int x2])).length) Slot.unset).toArray = ls at hl ⊢
  have hl : lv_has ls 6 [(0, .ref (b 0)), (1, .int x0), (2, .int x1), (3, .int x2)] := hl
  have ct223 : ∀ (y223_s0 : Int32) (v : SU) (H : Heap) (locs : List Loc) (ls : Array Slot), Rg 0 3 x0 → Rg 0 5 x1 → Rg 0 3 x0 → (x1 = 4 → Rg 0 3 x2) → TyV v → va_P D cls (wM cI b L v) H → va_D A (wM cI b L v) → va_S A s.heap H locs → lv_has ls 6 [(0, .ref (b 0)), (1, .int x0), (2, .int x1), (3, .int x2)] → W p l e (headSpec wsX12_shelf ({ frames := 5, cells := 0, slots := 0, locals := 200 })).room s m ([.ref (b 0), .int x0, .int x1, .int x2]).toArray below meth c H locs 0 0 (MQ below (QF (S := SU) D (wM cI b L v) (wM cI b L) s.heap.size (fun r u => TyV u ∧ Rg (-11) 1 r ∧ True)) ([.ref (b 0), .int x0, .int x1, .int x2]).toArray s 0 0 (va_A (wM cI b L v) s.heap.size)) (F0 m 223 ls [.int y223_s0, .int x0, .ref (b 13)]) := by
    intro y223_s0 v H locs ls g223_l1 g223_l2 g223_s1 x223_0 hV hP hD hS hl
    refine ms_13 hx hb hK hP hD hS hV rfl (rg_in g223_s1 (by decide) (by decide)) dX12_shelf_223 (fun v H locs hV ev17308 hP hD hS => ?_)
    refine lv_aload_n hx hb dX12_shelf_224 rfl (lv_at hl 0 rfl) ?_
    refine va_get (D := D) (ci := 12) (v := .ref (b 14)) (C := RX12) (T := TX12) (N := 24) hx hb hts hin12 hown hK hP 0 rfl rfl 21 (by decide) (hts (.fieldLink RX12 53 "MissedPointsModel" "heldSort" "[I") (by decide +kernel)) (fun _ h9 => h9) rfl dX12_shelf_225 ?_
    refine lv_iload_n hx hb dX12_shelf_228 rfl (lv_at hl 1 rfl) ?_
    refine lv_iload_n hx hb dX12_shelf_229 rfl (lv_at hl 2 rfl) ?_
    refine lv_iconst (v := 4) hx hb dX12_shelf_230 (by decide) ?_
    refine lv_icmp_ne (tgt := 243) hx hb dX12_shelf_231 (by decide) (fun c17309 => ?_) (fun c17309 => ?_)
    · refine lv_iconst (v := 0) hx hb dX12_shelf_243 (by decide) ?_
      refine ms_14 hx hb hK hP hD hS hV rfl (rg_in g223_l1 (by decide) (by decide)) dX12_shelf_244 (fun v H locs hV ev17310 hP hD hS => ?_)
      refine lv_iconst (v := 1) hx hb dX12_shelf_245 (by decide) ?_
      subst hAe
      exact W.iret (v := 1) hx hb hr (fun t ht hW => ⟨⟨_, v, rfl, ⟨hV, (by decide : Rg (-11) 1 (1 : Int32)), trivial⟩, by rw [ht]; exact hP, hD⟩, hS.F ht⟩) hS.2.2 dX12_shelf_246
    · have g17311 : Rg 4 4 x1 := wk_eql g223_l2 (by decide : Rg 4 4 (4 : Int32)) c17309 (by decide)
      have g17312 : Rg 0 3 x2 := x223_0 c17309
      refine lv_aload_n hx hb dX12_shelf_234 rfl (lv_at hl 0 rfl) ?_
      refine va_get (D := D) (ci := 12) (v := .ref (b 9)) (C := RX12) (T := TX12) (N := 24) hx hb hts hin12 hown hK hP 0 rfl rfl 16 (by decide) (hts (.fieldLink RX12 38 "MissedPointsModel" "sort" "[I") (by decide +kernel)) (fun _ h9 => h9) rfl dX12_shelf_235 ?_
      refine lv_iload_n hx hb dX12_shelf_238 rfl (lv_at hl 3 rfl) ?_
      refine wk_ald hx hb hK hP 9 0 rfl rfl (rg_in g17312 (by decide) (by decide)) dX12_shelf_239 hL.2.2.1 (fun r17313 hr17313 => ?_)
      refine lv_goto (tgt := 244) hx hb dX12_shelf_240 (by decide) ?_
      refine ms_14 hx hb hK hP hD hS hV rfl (rg_in g223_l1 (by decide) (by decide)) dX12_shelf_244 (fun v H locs hV ev17314 hP hD hS => ?_)
      refine lv_iconst (v := 1) hx hb dX12_shelf_245 (by decide) ?_
      subst hAe
      exact W.iret (v := 1) hx hb hr (fun t ht hW => ⟨⟨_, v, rfl, ⟨hV, (by decide : Rg (-11) 1 (1 : Int32)), trivial⟩, by rw [ht]; exact hP, hD⟩, hS.F ht⟩) hS.2.2 dX12_shelf_246
  have ct164 : ∀ (y164_l4 y164_s0 : Int32) (v : SU) (H : Heap) (locs : List Loc) (ls : Array Slot), Rg 0 3 x0 → Rg 0 5 x1 → Rg 1 4095 y164_l4 → Rg (-1) 6 y164_s0 → (x1 = 4 → Rg 0 3 x2) → TyV v → va_P D cls (wM cI b L v) H → va_D A (wM cI b L v) → va_S A s.heap H locs → lv_has ls 6 [(0, .ref (b 0)), (1, .int x0), (2, .int x1), (3, .int x2), (4, .int y164_l4)] → W p l e (headSpec wsX12_shelf ({ frames := 5, cells := 0, slots := 0, locals := 200 })).room s m ([.ref (b 0), .int x0, .int x1, .int x2]).toArray below meth c H locs 0 0 (MQ below (QF (S := SU) D (wM cI b L v) (wM cI b L) s.heap.size (fun r u => TyV u ∧ Rg (-11) 1 r ∧ True)) ([.ref (b 0), .int x0, .int x1, .int x2]).toArray s 0 0 (va_A (wM cI b L v) s.heap.size)) (F0 m 164 ls [.int y164_s0]) := by
    intro y164_l4 y164_s0 v H locs ls g164_l1 g164_l2 g164_l4 g164_s0 x164_0 hV hP hD hS hl
    refine lv_istore (lv' := [(5, .int y164_s0), (0, .ref (b 0)), (1, .int x0), (2, .int x1), (3, .int x2), (4, .int y164_l4)]) hx hb dX12_shelf_164 hl (by decide) rfl (fun ls hl => ?_)
    refine lv_aload_n hx hb dX12_shelf_166 rfl (lv_at hl 1 rfl) ?_
    refine va_get (D := D) (ci := 12) (v := .ref (b 12)) (C := RX12) (T := TX12) (N := 24) hx hb hts hin12 hown hK hP 0 rfl rfl 19 (by decide) (hts (.fieldLink RX12 47 "MissedPointsModel" "heldKind" "[I") (by decide +kernel)) (fun _ h9 => h9) rfl dX12_shelf_167 ?_
    refine lv_iload_n hx hb dX12_shelf_170 rfl (lv_at hl 2 rfl) ?_
    refine lv_iload hx hb dX12_shelf_171 (lv_at hl 0 rfl) ?_
    refine ms_12 hx hb hK hP hD hS hV rfl (rg_in g164_l1 (by decide) (by decide)) g164_s0 dX12_shelf_173 (fun v H locs hV ev17315 hP hD hS => ?_)
    refine lv_aload_n hx hb dX12_shelf_174 rfl (lv_at hl 1 rfl) ?_
    refine va_get (D := D) (ci := 12) (v := .ref (b 13)) (C := RX12) (T := TX12) (N := 24) hx hb hts hin12 hown hK hP 0 rfl rfl 20 (by decide) (hts (.fieldLink RX12 50 "MissedPointsModel" "heldSet" "[I") (by decide +kernel)) (fun _ h9 => h9) rfl dX12_shelf_175 ?_
    refine lv_iload_n hx hb dX12_shelf_178 rfl (lv_at hl 2 rfl) ?_
    refine lv_iload_n hx hb dX12_shelf_179 rfl (lv_at hl 3 rfl) ?_
    refine lv_if_ne (tgt := 189) hx hb dX12_shelf_180 (by decide) (fun c17316 => ?_) (fun c17316 => ?_)
    · have g17317 : Rg 1 5 x1 := rg_ne_lo (k := 0) g164_l2 (by decide) c17316 (by decide)
      refine lv_iload_n hx hb dX12_shelf_189 rfl (lv_at hl 3 rfl) ?_
      refine lv_iconst (v := 3) hx hb dX12_shelf_190 (by decide) ?_
      refine lv_icmp_ge (tgt := 199) hx hb dX12_shelf_191 (by decide) (fun c17318 => ?_) (fun c17318 => ?_)
      · have g17319 : Rg 3 5 x1 := rg_ler (by decide : Rg 3 3 (3 : Int32)) g17317 c17318 (by decide)
        refine lv_iload_n hx hb dX12_shelf_199 rfl (lv_at hl 3 rfl) ?_
        refine lv_iconst (v := 3) hx hb dX12_shelf_200 (by decide) ?_
        refine lv_icmp_ne (tgt := 208) hx hb dX12_shelf_201 (by decide) (fun c17320 => ?_) (fun c17320 => ?_)
        · have g17321 : Rg 4 5 x1 := rg_ne_lo (k := 3) g17319 (by decide) c17320 (by decide)
          refine lv_iload_n hx hb dX12_shelf_208 rfl (lv_at hl 3 rfl) ?_
          refine lv_iconst (v := 4) hx hb dX12_shelf_209 (by decide) ?_
          refine lv_icmp_ne (tgt := 222) hx hb dX12_shelf_210 (by decide) (fun c17322 => ?_) (fun c17322 => ?_)
          · have g17323 : Rg 5 5 x1 := rg_ne_lo (k := 4) g17321 (by decide) c17322 (by decide)
            refine lv_iconst (v := 0) hx hb dX12_shelf_222 (by decide) ?_
            exact ct223 (0 : Int32) v _ _ ls g164_l1 (rg_w g17323 (by decide) (by decide)) g164_l1 (by exact x164_0) hV hP hD hS (lv_sub (l' := [(0, .ref (b 0)), (1, .int x0), (2, .int x1), (3, .int x2)]) hl [1, 2, 3, 4] rfl)
          · have g17324 : Rg 4 4 x1 := wk_eql g17321 (by decide : Rg 4 4 (4 : Int32)) c17322 (by decide)
            have g17325 : Rg 0 3 x2 := x164_0 c17322
            refine lv_aload_n hx hb dX12_shelf_213 rfl (lv_at hl 1 rfl) ?_
            refine va_get (D := D) (ci := 12) (v := .ref (b 10)) (C := RX12) (T := TX12) (N := 24) hx hb hts hin12 hown hK hP 0 rfl rfl 17 (by decide) (hts (.fieldLink RX12 41 "MissedPointsModel" "size" "[I") (by decide +kernel)) (fun _ h9 => h9) rfl dX12_shelf_214 ?_
            refine lv_iload_n hx hb dX12_shelf_217 rfl (lv_at hl 4 rfl) ?_
            refine wk_ald hx hb hK hP 10 0 rfl rfl (rg_in g17325 (by decide) (by decide)) dX12_shelf_218 hL.2.2.2.1 (fun r17326 hr17326 => ?_)
            refine lv_goto (tgt := 223) hx hb dX12_shelf_219 (by decide) ?_
            exact ct223 r17326 v _ _ ls g164_l1 (rg_w g17324 (by decide) (by decide)) g164_l1 (by exact x164_0) hV hP hD hS (lv_sub (l' := [(0, .ref (b 0)), (1, .int x0), (2, .int x1), (3, .int x2)]) hl [1, 2, 3, 4] rfl)
        · have g17327 : Rg 3 3 x1 := wk_eql g17319 (by decide : Rg 3 3 (3 : Int32)) c17320 (by decide)
          refine lv_iload_n hx hb dX12_shelf_204 rfl (lv_at hl 4 rfl) ?_
          refine lv_goto (tgt := 223) hx hb dX12_shelf_205 (by decide) ?_
          exact ct223 x2 v _ _ ls g164_l1 (rg_w g17327 (by decide) (by decide)) g164_l1 (by exact x164_0) hV hP hD hS (lv_sub (l' := [(0, .ref (b 0)), (1, .int x0), (2, .int x1), (3, .int x2)]) hl [1, 2, 3, 4] rfl)
      · have g17328 : Rg 1 2 x1 := rg_ltl g17317 (by decide : Rg 3 3 (3 : Int32)) (rg_nle c17318) (by decide)
        refine lv_iload hx hb dX12_shelf_194 (lv_at hl 5 rfl) ?_
        refine lv_goto (tgt := 223) hx hb dX12_shelf_196 (by decide) ?_
        exact ct223 y164_l4 v _ _ ls g164_l1 (rg_w g17328 (by decide) (by decide)) g164_l1 (by exact x164_0) hV hP hD hS (lv_sub (l' := [(0, .ref (b 0)), (1, .int x0), (2, .int x1), (3, .int x2)]) hl [1, 2, 3, 4] rfl)
    · have g17329 : Rg 0 0 x1 := wk_eql g164_l2 (by decide : Rg 0 0 (0 : Int32)) c17316 (by decide)
      refine lv_iconst (v := 1) hx hb dX12_shelf_183 (by decide) ?_
      refine lv_iload_n hx hb dX12_shelf_184 rfl (lv_at hl 4 rfl) ?_
      refine lv_ishl hx hb dX12_shelf_185 ?_
      refine wk_topP (P := fun r => r = (1 : Int32) <<< (x2 &&& 31)) rfl (fun r17330 qr17330 => ?_)
      refine lv_goto (tgt := 223) hx hb dX12_shelf_186 (by decide) ?_
      exact ct223 r17330 v _ _ ls g164_l1 (rg_w g17329 (by decide) (by decide)) g164_l1 (by exact x164_0) hV hP hD hS (lv_sub (l' := [(0, .ref (b 0)), (1, .int x0), (2, .int x1), (3, .int x2)]) hl [1, 2, 3, 4] rfl)
  have ct105 : ∀ (y105_l4 : Int32) (v : SU) (H : Heap) (locs : List Loc) (ls : Array Slot), Rg 0 3 x0 → Rg 0 5 x1 → Rg 1 4095 y105_l4 → (x1 = 4 → Rg 0 3 x2) → TyV v → va_P D cls (wM cI b L v) H → va_D A (wM cI b L v) → va_S A s.heap H locs → lv_has ls 6 [(0, .ref (b 0)), (1, .int x0), (2, .int x1), (3, .int x2), (4, .int y105_l4)] → W p l e (headSpec wsX12_shelf ({ frames := 5, cells := 0, slots := 0, locals := 200 })).room s m ([.ref (b 0), .int x0, .int x1, .int x2]).toArray below meth c H locs 0 0 (MQ below (QF (S := SU) D (wM cI b L v) (wM cI b L) s.heap.size (fun r u => TyV u ∧ Rg (-11) 1 r ∧ True)) ([.ref (b 0), .int x0, .int x1, .int x2]).toArray s 0 0 (va_A (wM cI b L v) s.heap.size)) (F0 m 105 ls []) := by
    intro y105_l4 v H locs ls g105_l1 g105_l2 g105_l4 x105_0 hV hP hD hS hl
    refine lv_iload_n hx hb dX12_shelf_105 rfl (lv_at hl 2 rfl) ?_
    refine lv_if_ne (tgt := 126) hx hb dX12_shelf_106 (by decide) (fun c17331 => ?_) (fun c17331 => ?_)
    · have g17332 : Rg 1 5 x1 := rg_ne_lo (k := 0) g105_l2 (by decide) c17331 (by decide)
      refine lv_iload_n hx hb dX12_shelf_126 rfl (lv_at hl 2 rfl) ?_
      refine lv_iconst (v := 1) hx hb dX12_shelf_127 (by decide) ?_
      refine lv_icmp_ne (tgt := 135) hx hb dX12_shelf_128 (by decide) (fun c17333 => ?_) (fun c17333 => ?_)
      · have g17334 : Rg 2 5 x1 := rg_ne_lo (k := 1) g17332 (by decide) c17333 (by decide)
        refine lv_iload_n hx hb dX12_shelf_135 rfl (lv_at hl 2 rfl) ?_
        refine lv_iconst (v := 2) hx hb dX12_shelf_136 (by decide) ?_
        refine lv_icmp_ne (tgt := 144) hx hb dX12_shelf_137 (by decide) (fun c17335 => ?_) (fun c17335 => ?_)
        · have g17336 : Rg 3 5 x1 := rg_ne_lo (k := 2) g17334 (by decide) c17335 (by decide)
          refine lv_iload_n hx hb dX12_shelf_144 rfl (lv_at hl 2 rfl) ?_
          refine lv_iconst (v := 3) hx hb dX12_shelf_145 (by decide) ?_
          refine lv_icmp_ne (tgt := 153) hx hb dX12_shelf_146 (by decide) (fun c17337 => ?_) (fun c17337 => ?_)
          · have g17338 : Rg 4 5 x1 := rg_ne_lo (k := 3) g17336 (by decide) c17337 (by decide)
            refine lv_iload_n hx hb dX12_shelf_153 rfl (lv_at hl 2 rfl) ?_
            refine lv_iconst (v := 4) hx hb dX12_shelf_154 (by decide) ?_
            refine lv_icmp_ne (tgt := 163) hx hb dX12_shelf_155 (by decide) (fun c17339 => ?_) (fun c17339 => ?_)
            · have g17340 : Rg 5 5 x1 := rg_ne_lo (k := 4) g17338 (by decide) c17339 (by decide)
              refine lv_iconst (v := (-1)) hx hb dX12_shelf_163 (by decide) ?_
              exact ct164 y105_l4 (((-1) : Int32)) v _ _ ls g105_l1 (rg_w g17340 (by decide) (by decide)) g105_l4 (by decide : Rg (-1) 6 ((-1) : Int32)) (by exact x105_0) hV hP hD hS (lv_sub (l' := [(0, .ref (b 0)), (1, .int x0), (2, .int x1), (3, .int x2), (4, .int y105_l4)]) hl [0, 1, 2, 3, 4] rfl)
            · have g17341 : Rg 4 4 x1 := wk_eql g17338 (by decide : Rg 4 4 (4 : Int32)) c17339 (by decide)
              refine lv_bipush (v := 6) hx hb dX12_shelf_158 (by decide) ?_
              refine lv_goto (tgt := 164) hx hb dX12_shelf_160 (by decide) ?_
              exact ct164 y105_l4 (6 : Int32) v _ _ ls g105_l1 (rg_w g17341 (by decide) (by decide)) g105_l4 (by decide : Rg (-1) 6 (6 : Int32)) (by exact x105_0) hV hP hD hS (lv_sub (l' := [(0, .ref (b 0)), (1, .int x0), (2, .int x1), (3, .int x2), (4, .int y105_l4)]) hl [0, 1, 2, 3, 4] rfl)
          · have g17342 : Rg 3 3 x1 := wk_eql g17336 (by decide : Rg 3 3 (3 : Int32)) c17337 (by decide)
            refine lv_iconst (v := 2) hx hb dX12_shelf_149 (by decide) ?_
            refine lv_goto (tgt := 164) hx hb dX12_shelf_150 (by decide) ?_
            exact ct164 y105_l4 (2 : Int32) v _ _ ls g105_l1 (rg_w g17342 (by decide) (by decide)) g105_l4 (by decide : Rg (-1) 6 (2 : Int32)) (by exact x105_0) hV hP hD hS (lv_sub (l' := [(0, .ref (b 0)), (1, .int x0), (2, .int x1), (3, .int x2), (4, .int y105_l4)]) hl [0, 1, 2, 3, 4] rfl)
        · have g17343 : Rg 2 2 x1 := wk_eql g17334 (by decide : Rg 2 2 (2 : Int32)) c17335 (by decide)
          refine lv_iconst (v := 5) hx hb dX12_shelf_140 (by decide) ?_
          refine lv_goto (tgt := 164) hx hb dX12_shelf_141 (by decide) ?_
          exact ct164 y105_l4 (5 : Int32) v _ _ ls g105_l1 (rg_w g17343 (by decide) (by decide)) g105_l4 (by decide : Rg (-1) 6 (5 : Int32)) (by exact x105_0) hV hP hD hS (lv_sub (l' := [(0, .ref (b 0)), (1, .int x0), (2, .int x1), (3, .int x2), (4, .int y105_l4)]) hl [0, 1, 2, 3, 4] rfl)
      · have g17344 : Rg 1 1 x1 := wk_eql g17332 (by decide : Rg 1 1 (1 : Int32)) c17333 (by decide)
        refine lv_iconst (v := 4) hx hb dX12_shelf_131 (by decide) ?_
        refine lv_goto (tgt := 164) hx hb dX12_shelf_132 (by decide) ?_
        exact ct164 y105_l4 (4 : Int32) v _ _ ls g105_l1 (rg_w g17344 (by decide) (by decide)) g105_l4 (by decide : Rg (-1) 6 (4 : Int32)) (by exact x105_0) hV hP hD hS (lv_sub (l' := [(0, .ref (b 0)), (1, .int x0), (2, .int x1), (3, .int x2), (4, .int y105_l4)]) hl [0, 1, 2, 3, 4] rfl)
    · have g17345 : Rg 0 0 x1 := wk_eql g105_l2 (by decide : Rg 0 0 (0 : Int32)) c17331 (by decide)
      refine lv_aload_n hx hb dX12_shelf_109 rfl (lv_at hl 0 rfl) ?_
      refine lv_iload_n hx hb dX12_shelf_110 rfl (lv_at hl 3 rfl) ?_
      refine wk_qi (wM cI b L) v (As := [.int x2]) (rest := []) ⟨hx, hb, hml, hown, hts⟩ (w_X12_mark l D cI cS _ b L v hL hV x2) hKK hP hD hS hA 0 (ci := 12) rfl rfl (cwV 1 hts gX12_shelf_X12_mark rfl rfl rfl (by decide +kernel) ⟨Nat.le_of_ble_eq_true rfl, Nat.le_of_ble_eq_true rfl⟩) rfl hl.1 rfl (Nat.le_of_ble_eq_true rfl) dX12_shelf_111 ⟨Nat.le_of_ble_eq_true rfl, Nat.le_of_ble_eq_true rfl⟩ (fun r17346 v H locs hr17346 hP hD hS => ?_)
      have hV := hr17346.1
      refine lv_iconst (v := 1) hx hb dX12_shelf_114 (by decide) ?_
      refine lv_icmp_ne (tgt := 122) hx hb dX12_shelf_115 (by decide) (fun c17347 => ?_) (fun c17347 => ?_)
      · refine lv_iconst (v := 1) hx hb dX12_shelf_122 (by decide) ?_
        refine lv_goto (tgt := 164) hx hb dX12_shelf_123 (by decide) ?_
        exact ct164 y105_l4 (1 : Int32) v _ _ ls g105_l1 (rg_w g17345 (by decide) (by decide)) g105_l4 (by decide : Rg (-1) 6 (1 : Int32)) (by exact x105_0) hV hP hD hS (lv_sub (l' := [(0, .ref (b 0)), (1, .int x0), (2, .int x1), (3, .int x2), (4, .int y105_l4)]) hl [0, 1, 2, 3, 4] rfl)
      · have g17348 : Rg 1 1 r17346 := wk_eql hr17346.2.1 (by decide : Rg 1 1 (1 : Int32)) c17347 (by decide)
        refine lv_iconst (v := 3) hx hb dX12_shelf_118 (by decide) ?_
        refine lv_goto (tgt := 164) hx hb dX12_shelf_119 (by decide) ?_
        exact ct164 y105_l4 (3 : Int32) v _ _ ls g105_l1 (rg_w g17345 (by decide) (by decide)) g105_l4 (by decide : Rg (-1) 6 (3 : Int32)) (by exact x105_0) hV hP hD hS (lv_sub (l' := [(0, .ref (b 0)), (1, .int x0), (2, .int x1), (3, .int x2), (4, .int y105_l4)]) hl [0, 1, 2, 3, 4] rfl)
  have ct77 : ∀ (y77_s0 : Int32) (v : SU) (H : Heap) (locs : List Loc) (ls : Array Slot), Rg 0 3 x0 → Rg 0 5 x1 → Rg 0 4095 y77_s0 → (x1 = 4 → Rg 0 3 x2) → TyV v → va_P D cls (wM cI b L v) H → va_D A (wM cI b L v) → va_S A s.heap H locs → lv_has ls 6 [(0, .ref (b 0)), (1, .int x0), (2, .int x1), (3, .int x2)] → W p l e (headSpec wsX12_shelf ({ frames := 5, cells := 0, slots := 0, locals := 200 })).room s m ([.ref (b 0), .int x0, .int x1, .int x2]).toArray below meth c H locs 0 0 (MQ below (QF (S := SU) D (wM cI b L v) (wM cI b L) s.heap.size (fun r u => TyV u ∧ Rg (-11) 1 r ∧ True)) ([.ref (b 0), .int x0, .int x1, .int x2]).toArray s 0 0 (va_A (wM cI b L v) s.heap.size)) (F0 m 77 ls [.int y77_s0]) := by
    intro y77_s0 v H locs ls g77_l1 g77_l2 g77_s0 x77_0 hV hP hD hS hl
    refine lv_istore (lv' := [(4, .int y77_s0), (0, .ref (b 0)), (1, .int x0), (2, .int x1), (3, .int x2)]) hx hb dX12_shelf_77 hl (by decide) rfl (fun ls hl => ?_)
    refine lv_iload hx hb dX12_shelf_79 (lv_at hl 0 rfl) ?_
    refine lv_if_ne (tgt := 87) hx hb dX12_shelf_81 (by decide) (fun c17349 => ?_) (fun c17349 => ?_)
    · have g17350 : Rg 1 4095 y77_s0 := rg_ne_lo (k := 0) g77_s0 (by decide) c17349 (by decide)
      refine lv_iload_n hx hb dX12_shelf_87 rfl (lv_at hl 3 rfl) ?_
      refine lv_iconst (v := 4) hx hb dX12_shelf_88 (by decide) ?_
      refine lv_icmp_ne (tgt := 105) hx hb dX12_shelf_89 (by decide) (fun c17351 => ?_) (fun c17351 => ?_)
      · exact ct105 y77_s0 v _ _ ls g77_l1 g77_l2 g17350 (by exact x77_0) hV hP hD hS (lv_sub (l' := [(0, .ref (b 0)), (1, .int x0), (2, .int x1), (3, .int x2), (4, .int y77_s0)]) hl [1, 2, 3, 4, 0] rfl)
      · have g17352 : Rg 4 4 x1 := wk_eql g77_l2 (by decide : Rg 4 4 (4 : Int32)) c17351 (by decide)
        have g17353 : Rg 0 3 x2 := x77_0 c17351
        refine lv_aload_n hx hb dX12_shelf_92 rfl (lv_at hl 1 rfl) ?_
        refine va_get (D := D) (ci := 12) (v := .ref (b 9)) (C := RX12) (T := TX12) (N := 24) hx hb hts hin12 hown hK hP 0 rfl rfl 16 (by decide) (hts (.fieldLink RX12 38 "MissedPointsModel" "sort" "[I") (by decide +kernel)) (fun _ h9 => h9) rfl dX12_shelf_93 ?_
        refine lv_iload_n hx hb dX12_shelf_96 rfl (lv_at hl 4 rfl) ?_
        refine wk_ald hx hb hK hP 9 0 rfl rfl (rg_in g17353 (by decide) (by decide)) dX12_shelf_97 hL.2.2.1 (fun r17354 hr17354 => ?_)
        refine lv_iconst (v := (-1)) hx hb dX12_shelf_98 (by decide) ?_
        refine lv_icmp_ne (tgt := 105) hx hb dX12_shelf_99 (by decide) (fun c17355 => ?_) (fun c17355 => ?_)
        · have g17356 : Rg 0 1 r17354 := rg_ne_lo (k := (-1)) hr17354 (by decide) c17355 (by decide)
          exact ct105 y77_s0 v _ _ ls g77_l1 (rg_w g17352 (by decide) (by decide)) g17350 (by exact x77_0) hV hP hD hS (lv_sub (l' := [(0, .ref (b 0)), (1, .int x0), (2, .int x1), (3, .int x2), (4, .int y77_s0)]) hl [1, 2, 3, 4, 0] rfl)
        · have g17357 : Rg (-1) (-1) r17354 := wk_eql hr17354 (by decide : Rg (-1) (-1) ((-1) : Int32)) c17355 (by decide)
          refine lv_bipush (v := (-11)) hx hb dX12_shelf_102 (by decide) ?_
          subst hAe
          exact W.iret (v := (-11)) hx hb hr (fun t ht hW => ⟨⟨_, v, rfl, ⟨hV, (by decide : Rg (-11) 1 ((-11) : Int32)), trivial⟩, by rw [ht]; exact hP, hD⟩, hS.F ht⟩) hS.2.2 dX12_shelf_104
    · have g17358 : Rg 0 0 y77_s0 := wk_eql g77_s0 (by decide : Rg 0 0 (0 : Int32)) c17349 (by decide)
      refine lv_bipush (v := (-2)) hx hb dX12_shelf_84 (by decide) ?_
      subst hAe
      exact W.iret (v := (-2)) hx hb hr (fun t ht hW => ⟨⟨_, v, rfl, ⟨hV, (by decide : Rg (-11) 1 ((-2) : Int32)), trivial⟩, by rw [ht]; exact hP, hD⟩, hS.F ht⟩) hS.2.2 dX12_shelf_86
  have ct56 : ∀ (v : SU) (H : Heap) (locs : List Loc) (ls : Array Slot), Rg 0 3 x0 → Rg 0 5 x1 → (x1 = 4 → Rg 0 3 x2) → TyV v → va_P D cls (wM cI b L v) H → va_D A (wM cI b L v) → va_S A s.heap H locs → lv_has ls 6 [(0, .ref (b 0)), (1, .int x0), (2, .int x1), (3, .int x2)] → W p l e (headSpec wsX12_shelf ({ frames := 5, cells := 0, slots := 0, locals := 200 })).room s m ([.ref (b 0), .int x0, .int x1, .int x2]).toArray below meth c H locs 0 0 (MQ below (QF (S := SU) D (wM cI b L v) (wM cI b L) s.heap.size (fun r u => TyV u ∧ Rg (-11) 1 r ∧ True)) ([.ref (b 0), .int x0, .int x1, .int x2]).toArray s 0 0 (va_A (wM cI b L v) s.heap.size)) (F0 m 56 ls []) := by
    intro v H locs ls g56_l1 g56_l2 x56_0 hV hP hD hS hl
    refine lv_iload_n hx hb dX12_shelf_56 rfl (lv_at hl 2 rfl) ?_
    refine lv_iconst (v := 1) hx hb dX12_shelf_57 (by decide) ?_
    refine lv_iconst (v := 2) hx hb dX12_shelf_58 (by decide) ?_
    refine lz_ss (As := [.int x1, .int 1, .int 2]) (rest := []) ⟨hx, hb, hml, hown, hts⟩ (w_X12_in l D cI cS x1 (1 : Int32) (2 : Int32)) hKK (hP.sub (ws' := []) [] rfl) (va_cwS 3 hts gX12_shelf_X12_in rfl rfl rfl (by decide +kernel) ⟨Nat.le_of_ble_eq_true rfl, Nat.le_of_ble_eq_true rfl⟩) rfl hl.1 rfl (Nat.le_of_ble_eq_true rfl) dX12_shelf_59 ⟨Nat.le_of_ble_eq_true rfl, Nat.le_of_ble_eq_true rfl⟩ (fun r17359 hr17359 => ?_)
    refine lv_if_eq (tgt := 76) hx hb dX12_shelf_62 (by decide) (fun c17360 => ?_) (fun c17360 => ?_)
    · have g17361 : Rg 0 0 r17359 := wk_eql hr17359.1 (by decide : Rg 0 0 (0 : Int32)) c17360 (by decide)
      refine lv_iconst (v := 1) hx hb dX12_shelf_76 (by decide) ?_
      exact ct77 (1 : Int32) v _ _ ls g56_l1 g56_l2 (by decide : Rg 0 4095 (1 : Int32)) (by exact x56_0) hV hP hD hS (lv_sub (l' := [(0, .ref (b 0)), (1, .int x0), (2, .int x1), (3, .int x2)]) hl [0, 1, 2, 3] rfl)
    · have g17362 : Rg 1 2 x1 := wk_in3 g56_l2 (by decide : Rg 1 1 (1 : Int32)) (by decide : Rg 2 2 (2 : Int32)) (hr17359.2 c17360) (by decide)
      have g17363 : Rg 1 1 r17359 := rg_ne_lo (k := 0) hr17359.1 (by decide) c17360 (by decide)
      refine lv_aload_n hx hb dX12_shelf_65 rfl (lv_at hl 0 rfl) ?_
      refine lv_iload_n hx hb dX12_shelf_66 rfl (lv_at hl 2 rfl) ?_
      refine lv_iconst (v := 1) hx hb dX12_shelf_67 (by decide) ?_
      refine wk_isub (e := 0) (f := 1) hx hb dX12_shelf_68 g17362 (by decide : Rg 1 1 (1 : Int32)) (by decide) (fun r17364 hr17364 er17364 qr17364 => ?_)
      refine lv_iload_n hx hb dX12_shelf_69 rfl (lv_at hl 3 rfl) ?_
      refine wk_qi (wM cI b L) v (As := [.int r17364, .int x2]) (rest := []) ⟨hx, hb, hml, hown, hts⟩ (w_X12_pieceAt l D cI cS _ b L v hL hV r17364 x2 hr17364) hKK hP hD hS hA 0 (ci := 12) rfl rfl (cwV 2 hts gX12_shelf_X12_pieceAt rfl rfl rfl (by decide +kernel) ⟨Nat.le_of_ble_eq_true rfl, Nat.le_of_ble_eq_true rfl⟩) rfl hl.1 rfl (Nat.le_of_ble_eq_true rfl) dX12_shelf_70 ⟨Nat.le_of_ble_eq_true rfl, Nat.le_of_ble_eq_true rfl⟩ (fun r17365 v H locs hr17365 hP hD hS => ?_)
      have hV := hr17365.1
      refine lv_goto (tgt := 77) hx hb dX12_shelf_73 (by decide) ?_
      exact ct77 r17365 v _ _ ls g56_l1 (rg_w g17362 (by decide) (by decide)) hr17365.2.1 (by exact x56_0) hV hP hD hS (lv_sub (l' := [(0, .ref (b 0)), (1, .int x0), (2, .int x1), (3, .int x2)]) hl [0, 1, 2, 3] rfl)
  have ct28 : ∀ (v : SU) (H : Heap) (locs : List Loc) (ls : Array Slot), Rg 0 3 x0 → Rg 0 5 x1 → TyV v → va_P D cls (wM cI b L v) H → va_D A (wM cI b L v) → va_S A s.heap H locs → lv_has ls 6 [(0, .ref (b 0)), (1, .int x0), (2, .int x1), (3, .int x2)] → W p l e (headSpec wsX12_shelf ({ frames := 5, cells := 0, slots := 0, locals := 200 })).room s m ([.ref (b 0), .int x0, .int x1, .int x2]).toArray below meth c H locs 0 0 (MQ below (QF (S := SU) D (wM cI b L v) (wM cI b L) s.heap.size (fun r u => TyV u ∧ Rg (-11) 1 r ∧ True)) ([.ref (b 0), .int x0, .int x1, .int x2]).toArray s 0 0 (va_A (wM cI b L v) s.heap.size)) (F0 m 28 ls []) := by
    intro v H locs ls g28_l1 g28_l2 hV hP hD hS hl
    refine lv_iload_n hx hb dX12_shelf_28 rfl (lv_at hl 2 rfl) ?_
    refine lv_iconst (v := 3) hx hb dX12_shelf_29 (by decide) ?_
    refine lv_icmp_ne (tgt := 41) hx hb dX12_shelf_30 (by decide) (fun c17366 => ?_) (fun c17366 => ?_)
    · refine lv_iload_n hx hb dX12_shelf_41 rfl (lv_at hl 2 rfl) ?_
      refine lv_iconst (v := 4) hx hb dX12_shelf_42 (by decide) ?_
      refine lv_icmp_ne (tgt := 56) hx hb dX12_shelf_43 (by decide) (fun c17367 => ?_) (fun c17367 => ?_)
      · exact ct56 v _ _ ls g28_l1 g28_l2 (by exact fun h9 => absurd h9 c17367) hV hP hD hS (lv_sub (l' := [(0, .ref (b 0)), (1, .int x0), (2, .int x1), (3, .int x2)]) hl [0, 1, 2, 3] rfl)
      · have g17368 : Rg 4 4 x1 := wk_eql g28_l2 (by decide : Rg 4 4 (4 : Int32)) c17367 (by decide)
        refine lv_iload_n hx hb dX12_shelf_46 rfl (lv_at hl 3 rfl) ?_
        refine lz_ss (As := [.int x2]) (rest := []) ⟨hx, hb, hml, hown, hts⟩ (w_X12_isSheet l D cI cS x2) hKK (hP.sub (ws' := []) [] rfl) (va_cwS 1 hts gX12_shelf_X12_isSheet rfl rfl rfl (by decide +kernel) ⟨Nat.le_of_ble_eq_true rfl, Nat.le_of_ble_eq_true rfl⟩) rfl hl.1 rfl (Nat.le_of_ble_eq_true rfl) dX12_shelf_47 ⟨Nat.le_of_ble_eq_true rfl, Nat.le_of_ble_eq_true rfl⟩ (fun r17369 hr17369 => ?_)
        refine lv_if_ne (tgt := 56) hx hb dX12_shelf_50 (by decide) (fun c17370 => ?_) (fun c17370 => ?_)
        · have g17371 : Rg 0 3 x2 := (hr17369.2 c17370)
          have g17372 : Rg 1 1 r17369 := rg_ne_lo (k := 0) hr17369.1 (by decide) c17370 (by decide)
          exact ct56 v _ _ ls g28_l1 (rg_w g17368 (by decide) (by decide)) (by exact fun _ => g17371) hV hP hD hS (lv_sub (l' := [(0, .ref (b 0)), (1, .int x0), (2, .int x1), (3, .int x2)]) hl [0, 1, 2, 3] rfl)
        · have g17373 : Rg 0 0 r17369 := wk_eql hr17369.1 (by decide : Rg 0 0 (0 : Int32)) c17370 (by decide)
          refine lv_bipush (v := (-2)) hx hb dX12_shelf_53 (by decide) ?_
          subst hAe
          exact W.iret (v := (-2)) hx hb hr (fun t ht hW => ⟨⟨_, v, rfl, ⟨hV, (by decide : Rg (-11) 1 ((-2) : Int32)), trivial⟩, by rw [ht]; exact hP, hD⟩, hS.F ht⟩) hS.2.2 dX12_shelf_55
    · have g17374 : Rg 3 3 x1 := wk_eql g28_l2 (by decide : Rg 3 3 (3 : Int32)) c17366 (by decide)
      refine lv_aload_n hx hb dX12_shelf_33 rfl (lv_at hl 0 rfl) ?_
      refine lv_iload_n hx hb dX12_shelf_34 rfl (lv_at hl 3 rfl) ?_
      refine wk_sv 0 (As := [.int x2]) (rest := []) ⟨hx, hb, hml, hown, hts⟩ (w_X12_isSet l D cI cS b L v hL hV x2) hKK hP (ci := 12) rfl rfl (cwV 1 hts gX12_shelf_X12_isSet rfl rfl rfl (by decide +kernel) ⟨Nat.le_of_ble_eq_true rfl, Nat.le_of_ble_eq_true rfl⟩) rfl hl.1 rfl (Nat.le_of_ble_eq_true rfl) dX12_shelf_35 ⟨Nat.le_of_ble_eq_true rfl, Nat.le_of_ble_eq_true rfl⟩ (fun r17375 hr17375 => ?_)
      refine lv_if_eq (tgt := 53) hx hb dX12_shelf_38 (by decide) (fun c17376 => ?_) (fun c17376 => ?_)
      · have g17377 : Rg 0 0 r17375 := wk_eql hr17375.1 (by decide : Rg 0 0 (0 : Int32)) c17376 (by decide)
        refine lv_bipush (v := (-2)) hx hb dX12_shelf_53 (by decide) ?_
        subst hAe
        exact W.iret (v := (-2)) hx hb hr (fun t ht hW => ⟨⟨_, v, rfl, ⟨hV, (by decide : Rg (-11) 1 ((-2) : Int32)), trivial⟩, by rw [ht]; exact hP, hD⟩, hS.F ht⟩) hS.2.2 dX12_shelf_55
      · have g17378 : Rg 0 4095 x2 := (hr17375.2 c17376)
        have g17379 : Rg 1 1 r17375 := rg_ne_lo (k := 0) hr17375.1 (by decide) c17376 (by decide)
        refine lv_iload_n hx hb dX12_shelf_41 rfl (lv_at hl 2 rfl) ?_
        refine lv_iconst (v := 4) hx hb dX12_shelf_42 (by decide) ?_
        refine lv_icmp_ne (tgt := 56) hx hb dX12_shelf_43 (by decide) (fun c17380 => ?_) (fun c17380 => ?_)
        · exact ct56 v _ _ ls g28_l1 (rg_w g17374 (by decide) (by decide)) (by exact fun h9 => absurd h9 c17380) hV hP hD hS (lv_sub (l' := [(0, .ref (b 0)), (1, .int x0), (2, .int x1), (3, .int x2)]) hl [0, 1, 2, 3] rfl)
        · exact absurd c17380 (wk_neq g17374 (by decide : Rg 4 4 (4 : Int32)) (by decide))
  refine lv_iload_n hx hb dX12_shelf_0 rfl (lv_at hl 1 rfl) ?_
  refine lz_ss (As := [.int x0]) (rest := []) ⟨hx, hb, hml, hown, hts⟩ (w_X12_isShelf l D cI cS x0) hKK (hP.sub (ws' := []) [] rfl) (va_cwS 1 hts gX12_shelf_X12_isShelf rfl rfl rfl (by decide +kernel) ⟨Nat.le_of_ble_eq_true rfl, Nat.le_of_ble_eq_true rfl⟩) rfl hl.1 rfl (Nat.le_of_ble_eq_true rfl) dX12_shelf_1 ⟨Nat.le_of_ble_eq_true rfl, Nat.le_of_ble_eq_true rfl⟩ (fun r17381 hr17381 => ?_)
  refine lv_if_eq (tgt := 53) hx hb dX12_shelf_4 (by decide) (fun c17382 => ?_) (fun c17382 => ?_)
  · have g17383 : Rg 0 0 r17381 := wk_eql hr17381.1 (by decide : Rg 0 0 (0 : Int32)) c17382 (by decide)
    refine lv_bipush (v := (-2)) hx hb dX12_shelf_53 (by decide) ?_
    subst hAe
    exact W.iret (v := (-2)) hx hb hr (fun t ht hW => ⟨⟨_, v, rfl, ⟨hV, (by decide : Rg (-11) 1 ((-2) : Int32)), trivial⟩, by rw [ht]; exact hP, hD⟩, hS.F ht⟩) hS.2.2 dX12_shelf_55
  · have g17384 : Rg 0 3 x0 := (hr17381.2 c17382)
    have g17385 : Rg 1 1 r17381 := rg_ne_lo (k := 0) hr17381.1 (by decide) c17382 (by decide)
    refine lv_iload_n hx hb dX12_shelf_7 rfl (lv_at hl 2 rfl) ?_
    refine lv_iconst (v := 0) hx hb dX12_shelf_8 (by decide) ?_
    refine lv_iconst (v := 5) hx hb dX12_shelf_9 (by decide) ?_
    refine lz_ss (As := [.int x1, .int 0, .int 5]) (rest := []) ⟨hx, hb, hml, hown, hts⟩ (w_X12_in l D cI cS x1 (0 : Int32) (5 : Int32)) hKK (hP.sub (ws' := []) [] rfl) (va_cwS 3 hts gX12_shelf_X12_in rfl rfl rfl (by decide +kernel) ⟨Nat.le_of_ble_eq_true rfl, Nat.le_of_ble_eq_true rfl⟩) rfl hl.1 rfl (Nat.le_of_ble_eq_true rfl) dX12_shelf_10 ⟨Nat.le_of_ble_eq_true rfl, Nat.le_of_ble_eq_true rfl⟩ (fun r17386 hr17386 => ?_)
    refine lv_if_eq (tgt := 53) hx hb dX12_shelf_13 (by decide) (fun c17387 => ?_) (fun c17387 => ?_)
    · have g17388 : Rg 0 0 r17386 := wk_eql hr17386.1 (by decide : Rg 0 0 (0 : Int32)) c17387 (by decide)
      refine lv_bipush (v := (-2)) hx hb dX12_shelf_53 (by decide) ?_
      subst hAe
      exact W.iret (v := (-2)) hx hb hr (fun t ht hW => ⟨⟨_, v, rfl, ⟨hV, (by decide : Rg (-11) 1 ((-2) : Int32)), trivial⟩, by rw [ht]; exact hP, hD⟩, hS.F ht⟩) hS.2.2 dX12_shelf_55
    · have g17389 : Rg 0 5 x1 := wk_in3 (rg_any x1) (by decide : Rg 0 0 (0 : Int32)) (by decide : Rg 5 5 (5 : Int32)) (hr17386.2 c17387) (by decide)
      have g17390 : Rg 1 1 r17386 := rg_ne_lo (k := 0) hr17386.1 (by decide) c17387 (by decide)
      refine lv_iload_n hx hb dX12_shelf_16 rfl (lv_at hl 2 rfl) ?_
      refine lv_if_ne (tgt := 28) hx hb dX12_shelf_17 (by decide) (fun c17391 => ?_) (fun c17391 => ?_)
      · have g17392 : Rg 1 5 x1 := rg_ne_lo (k := 0) g17389 (by decide) c17391 (by decide)
        exact ct28 v _ _ ls g17384 (rg_w g17392 (by decide) (by decide)) hV hP hD hS (lv_sub (l' := [(0, .ref (b 0)), (1, .int x0), (2, .int x1), (3, .int x2)]) hl [0, 1, 2, 3] rfl)
      · have g17393 : Rg 0 0 x1 := wk_eql g17389 (by decide : Rg 0 0 (0 : Int32)) c17391 (by decide)
        refine lv_aload_n hx hb dX12_shelf_20 rfl (lv_at hl 0 rfl) ?_
        refine lv_iload_n hx hb dX12_shelf_21 rfl (lv_at hl 3 rfl) ?_
        refine wk_sv 0 (As := [.int x2]) (rest := []) ⟨hx, hb, hml, hown, hts⟩ (w_X12_isPoint l D cI cS b L v hL hV x2) hKK hP (ci := 12) rfl rfl (cwV 1 hts gX12_shelf_X12_isPoint rfl rfl rfl (by decide +kernel) ⟨Nat.le_of_ble_eq_true rfl, Nat.le_of_ble_eq_true rfl⟩) rfl hl.1 rfl (Nat.le_of_ble_eq_true rfl) dX12_shelf_22 ⟨Nat.le_of_ble_eq_true rfl, Nat.le_of_ble_eq_true rfl⟩ (fun r17394 hr17394 => ?_)
        refine lv_if_eq (tgt := 53) hx hb dX12_shelf_25 (by decide) (fun c17395 => ?_) (fun c17395 => ?_)
        · have g17396 : Rg 0 0 r17394 := wk_eql hr17394.1 (by decide : Rg 0 0 (0 : Int32)) c17395 (by decide)
          refine lv_bipush (v := (-2)) hx hb dX12_shelf_53 (by decide) ?_
          subst hAe
          exact W.iret (v := (-2)) hx hb hr (fun t ht hW => ⟨⟨_, v, rfl, ⟨hV, (by decide : Rg (-11) 1 ((-2) : Int32)), trivial⟩, by rw [ht]; exact hP, hD⟩, hS.F ht⟩) hS.2.2 dX12_shelf_55
        · have g17397 : Rg 0 11 x2 := (hr17394.2 c17395)
          have g17398 : Rg 1 1 r17394 := rg_ne_lo (k := 0) hr17394.1 (by decide) c17395 (by decide)
          exact ct28 v _ _ ls g17384 (rg_w g17393 (by decide) (by decide)) hV hP hD hS (lv_sub (l' := [(0, .ref (b 0)), (1, .int x0), (2, .int x1), (3, .int x2)]) hl [0, 1, 2, 3] rfl)
set_option maxRecDepth 20000 in
theorem ggX12_wrongAt_X12_in : GoodIn wsX12_wrongAt wsX12_in := goodIn_r _ [9] (by decide +kernel) (by decide +kernel)
set_option maxRecDepth 20000 in
theorem gX12_wrongAt_X12_in : GoodIn wsX12_wrongAt (va_wsS RX12 66 yX12_in wsX12_in) := goodIn_app (goodIn_of _ (by decide +kernel)) ggX12_wrongAt_X12_in
theorem dX12_wrongAt_27 : decode cX12_wrongAt 27 = .ok (.iload_n 2, 1) := by decide +kernel
theorem dX12_wrongAt_28 : decode cX12_wrongAt 28 = .ok (.iconst 0, 1) := by decide +kernel
theorem dX12_wrongAt_29 : decode cX12_wrongAt 29 = .ok (.aload_n 0, 1) := by decide +kernel
theorem dX12_wrongAt_30 : decode cX12_wrongAt 30 = .ok (.getfield 41, 3) := by decide +kernel
theorem dX12_wrongAt_33 : decode cX12_wrongAt 33 = .ok (.iload_n 1, 1) := by decide +kernel
theorem dX12_wrongAt_34 : decode cX12_wrongAt 34 = .ok (.iaload, 1) := by decide +kernel
theorem dX12_wrongAt_35 : decode cX12_wrongAt 35 = .ok (.iconst 1, 1) := by decide +kernel
theorem dX12_wrongAt_36 : decode cX12_wrongAt 36 = .ok (.isub, 1) := by decide +kernel
theorem dX12_wrongAt_37 : decode cX12_wrongAt 37 = .ok (.invokestatic 66, 3) := by decide +kernel
theorem dX12_wrongAt_40 : decode cX12_wrongAt 40 = .ok (.ifCond .eq 7, 3) := by decide +kernel
theorem dX12_wrongAt_43 : decode cX12_wrongAt 43 = .ok (.iconst 0, 1) := by decide +kernel
theorem dX12_wrongAt_44 : decode cX12_wrongAt 44 = .ok (.goto 5, 3) := by decide +kernel
theorem dX12_wrongAt_47 : decode cX12_wrongAt 47 = .ok (.bipush (-12), 2) := by decide +kernel
set_option maxHeartbeats 4000000 in
set_option maxRecDepth 100000 in
theorem w_X12_wrongAt (l : Launch) (D : va_G) (cI cS : ClassId) (b : Nat → Nat) (L v : SU) (hL : TyL L) (hV : TyV v) (x0 x1 : Int32) : Met l yX12_wrongAt wsX12_wrongAt ({ frames := 2, cells := 0, slots := 0, locals := 80 }) (PS D cI cS (wM cI b L v) [.ref (b 0), .int x0, .int x1]) (vp_Si (fun r => Rg (-12) 0 r ∧ (r = 0 → Rg 0 3 x0 ∧ Rg 0 39 x1))) 0 0 (fun _ => False) := by
  refine Met.ofW (cc := cX12_wrongAt) (maxL := 3) (ret := (some .int)) (by decide) rfl ?_
  intro p e s m args below meth c s₁ B hml hv
  obtain ⟨rfl, hP, hKK⟩ := hv
  have hx := B.exec
  have hb := B.bytes
  have hr := B.returns
  have hts := atoms_spec (ws := wsX12_wrongAt) B.pre
  have hown : s.vm.findClass RX12 = some m.cls := findClass_of_methodNamed B.named
  have hlocks := B.notSynchronized
  have hK := hKK.1
  have hin12 : ∀ w ∈ wsX120, w ∈ wsX12_wrongAt := by decide +kernel
  have hl := lv_entry ([.ref (b 0), .int x0, .int x1]) (n := 3) (Nat.le_of_ble_eq_true rfl)
  rw [lg_entry_eq]
  generalize (lg_sl ([.ref (b 0), .int x0, .int x1]) ++ List.replicate (3 - (lg_sl ([.ref (b 0), .int x0, .int x1])).length) Slot.unset).toArray = ls at hl ⊢
  have hl : lv_has ls 3 [(0, .ref (b 0)), (1, .int x0), (2, .int x1)] := hl
  refine lv_iload_n hx hb dX12_wrongAt_0 rfl (lv_at hl 1 rfl) ?_
  refine lz_ss (As := [.int x0]) (rest := []) ⟨hx, hb, hml, hown, hts⟩ (w_X12_isSheet l D cI cS x0) hKK (hP.sub (ws' := []) [] rfl) (va_cwS 1 hts gX12_wrongAt_X12_isSheet rfl rfl rfl (by decide +kernel) ⟨Nat.le_of_ble_eq_true rfl, Nat.le_of_ble_eq_true rfl⟩) rfl hl.1 rfl (Nat.le_of_ble_eq_true rfl) dX12_wrongAt_1 ⟨Nat.le_of_ble_eq_true rfl, Nat.le_of_ble_eq_true rfl⟩ (fun r17415 hr17415 => ?_)
  refine lv_if_ne (tgt := 12) hx hb dX12_wrongAt_4 (by decide) (fun c17416 => ?_) (fun c17416 => ?_)
  · have g17417 : Rg 0 3 x0 := (hr17415.2 c17416)
    have g17418 : Rg 1 1 r17415 := rg_ne_lo (k := 0) hr17415.1 (by decide) c17416 (by decide)
    refine lv_aload_n hx hb dX12_wrongAt_12 rfl (lv_at hl 0 rfl) ?_
    refine va_get (D := D) (ci := 12) (v := .ref (b 9)) (C := RX12) (T := TX12) (N := 24) hx hb hts hin12 hown hK hP 0 rfl rfl 16 (by decide) (hts (.fieldLink RX12 38 "MissedPointsModel" "sort" "[I") (by decide +kernel)) (fun _ h9 => h9) rfl dX12_wrongAt_13 ?_
    refine lv_iload_n hx hb dX12_wrongAt_16 rfl (lv_at hl 1 rfl) ?_
    refine wk_ald hx hb hK hP 9 0 rfl rfl (rg_in g17417 (by decide) (by decide)) dX12_wrongAt_17 hL.2.2.1 (fun r17419 hr17419 => ?_)
    refine lv_iconst (v := (-1)) hx hb dX12_wrongAt_18 (by decide) ?_
    refine lv_icmp_ne (tgt := 27) hx hb dX12_wrongAt_19 (by decide) (fun c17420 => ?_) (fun c17420 => ?_)
    · have g17421 : Rg 0 1 r17419 := rg_ne_lo (k := (-1)) hr17419 (by decide) c17420 (by decide)
      refine lv_iload_n hx hb dX12_wrongAt_27 rfl (lv_at hl 2 rfl) ?_
      refine lv_iconst (v := 0) hx hb dX12_wrongAt_28 (by decide) ?_
      refine lv_aload_n hx hb dX12_wrongAt_29 rfl (lv_at hl 0 rfl) ?_
      refine va_get (D := D) (ci := 12) (v := .ref (b 10)) (C := RX12) (T := TX12) (N := 24) hx hb hts hin12 hown hK hP 0 rfl rfl 17 (by decide) (hts (.fieldLink RX12 41 "MissedPointsModel" "size" "[I") (by decide +kernel)) (fun _ h9 => h9) rfl dX12_wrongAt_30 ?_
      refine lv_iload_n hx hb dX12_wrongAt_33 rfl (lv_at hl 1 rfl) ?_
      refine wk_ald hx hb hK hP 10 0 rfl rfl (rg_in g17417 (by decide) (by decide)) dX12_wrongAt_34 hL.2.2.2.1 (fun r17422 hr17422 => ?_)
      refine lv_iconst (v := 1) hx hb dX12_wrongAt_35 (by decide) ?_
      refine wk_isub (e := (-1)) (f := 39) hx hb dX12_wrongAt_36 hr17422 (by decide : Rg 1 1 (1 : Int32)) (by decide) (fun r17423 hr17423 er17423 qr17423 => ?_)
      refine lz_ss (As := [.int x1, .int 0, .int r17423]) (rest := []) ⟨hx, hb, hml, hown, hts⟩ (w_X12_in l D cI cS x1 (0 : Int32) r17423) hKK (hP.sub (ws' := []) [] rfl) (va_cwS 3 hts gX12_wrongAt_X12_in rfl rfl rfl (by decide +kernel) ⟨Nat.le_of_ble_eq_true rfl, Nat.le_of_ble_eq_true rfl⟩) rfl hl.1 rfl (Nat.le_of_ble_eq_true rfl) dX12_wrongAt_37 ⟨Nat.le_of_ble_eq_true rfl, Nat.le_of_ble_eq_true rfl⟩ (fun r17424 hr17424 => ?_)
      refine lv_if_eq (tgt := 47) hx hb dX12_wrongAt_40 (by decide) (fun c17425 => ?_) (fun c17425 => ?_)
      · have g17426 : Rg 0 0 r17424 := wk_eql hr17424.1 (by decide : Rg 0 0 (0 : Int32)) c17425 (by decide)
        refine lv_bipush (v := (-12)) hx hb dX12_wrongAt_47 (by decide) ?_
        exact W.iret (v := (-12)) hx hb hr (fun t ht hW => ⟨_, rfl, ⟨(by decide : Rg (-12) 0 ((-12) : Int32)), fun h9 => absurd h9 (by decide)⟩, ht⟩) (fun q hq => absurd hq List.not_mem_nil) dX12_wrongAt_49
      · have g17427 : Rg 0 39 x1 := wk_in3 (rg_any x1) (by decide : Rg 0 0 (0 : Int32)) hr17423 (hr17424.2 c17425) (by decide)
        have g17428 : Rg 1 1 r17424 := rg_ne_lo (k := 0) hr17424.1 (by decide) c17425 (by decide)
        refine lv_iconst (v := 0) hx hb dX12_wrongAt_43 (by decide) ?_
        refine lv_goto (tgt := 49) hx hb dX12_wrongAt_44 (by decide) ?_
        exact W.iret (v := 0) hx hb hr (fun t ht hW => ⟨_, rfl, ⟨(by decide : Rg (-12) 0 (0 : Int32)), fun _ => ⟨g17417, g17427⟩⟩, ht⟩) (fun q hq => absurd hq List.not_mem_nil) dX12_wrongAt_49
    · have g17429 : Rg (-1) (-1) r17419 := wk_eql hr17419 (by decide : Rg (-1) (-1) ((-1) : Int32)) c17420 (by decide)
      refine lv_bipush (v := (-11)) hx hb dX12_wrongAt_22 (by decide) ?_
      refine lv_goto (tgt := 49) hx hb dX12_wrongAt_24 (by decide) ?_
      exact W.iret (v := (-11)) hx hb hr (fun t ht hW => ⟨_, rfl, ⟨(by decide : Rg (-12) 0 ((-11) : Int32)), fun h9 => absurd h9 (by decide)⟩, ht⟩) (fun q hq => absurd hq List.not_mem_nil) dX12_wrongAt_49
  · have g17430 : Rg 0 0 r17415 := wk_eql hr17415.1 (by decide : Rg 0 0 (0 : Int32)) c17416 (by decide)
    refine lv_bipush (v := (-2)) hx hb dX12_wrongAt_7 (by decide) ?_
    refine lv_goto (tgt := 49) hx hb dX12_wrongAt_9 (by decide) ?_
    exact W.iret (v := (-2)) hx hb hr (fun t ht hW => ⟨_, rfl, ⟨(by decide : Rg (-12) 0 ((-2) : Int32)), fun h9 => absurd h9 (by decide)⟩, ht⟩) (fun q hq => absurd hq List.not_mem_nil) dX12_wrongAt_49
theorem dX12_write_16 : decode cX12_write 16 = .ok (.aload_n 0, 1) := by decide +kernel
theorem dX12_write_17 : decode cX12_write 17 = .ok (.getfield 44, 3) := by decide +kernel
theorem dX12_write_20 : decode cX12_write 20 = .ok (.bipush 40, 2) := by decide +kernel
theorem dX12_write_22 : decode cX12_write 22 = .ok (.iload_n 1, 1) := by decide +kernel
theorem dX12_write_23 : decode cX12_write 23 = .ok (.imul, 1) := by decide +kernel
theorem dX12_write_24 : decode cX12_write 24 = .ok (.iload_n 2, 1) := by decide +kernel
theorem dX12_write_25 : decode cX12_write 25 = .ok (.iadd, 1) := by decide +kernel
theorem dX12_write_26 : decode cX12_write 26 = .ok (.aload_n 0, 1) := by decide +kernel
theorem dX12_write_27 : decode cX12_write 27 = .ok (.getfield 38, 3) := by decide +kernel
theorem dX12_write_30 : decode cX12_write 30 = .ok (.iload_n 1, 1) := by decide +kernel
theorem dX12_write_31 : decode cX12_write 31 = .ok (.iaload, 1) := by decide +kernel
theorem dX12_write_32 : decode cX12_write 32 = .ok (.ifCond .ne 8, 3) := by decide +kernel
theorem dX12_write_35 : decode cX12_write 35 = .ok (.iload_n 3, 1) := by decide +kernel
theorem dX12_write_36 : decode cX12_write 36 = .ok (.i2s, 1) := by decide +kernel
theorem dX12_write_37 : decode cX12_write 37 = .ok (.goto 4, 3) := by decide +kernel
theorem dX12_write_40 : decode cX12_write 40 = .ok (.iload_n 3, 1) := by decide +kernel
theorem dX12_write_41 : decode cX12_write 41 = .ok (.iastore, 1) := by decide +kernel
theorem dX12_write_42 : decode cX12_write 42 = .ok (.iconst 1, 1) := by decide +kernel
theorem dX12_write_43 : decode cX12_write 43 = .ok (.ireturn, 1) := by decide +kernel
set_option maxHeartbeats 4000000 in
set_option maxRecDepth 100000 in
theorem w_X12_write (l : Launch) (D : va_G) (cI cS : ClassId) (sz : Nat) (b : Nat → Nat) (L v : SU) (hL : TyL L) (hV : TyV v) (x0 x1 x2 : Int32) : Met l yX12_write wsX12_write ({ frames := 3, cells := 0, slots := 0, locals := 120 }) (PQ D cI cS (wM cI b L v) sz [.ref (b 0), .int x0, .int x1, .int x2]) (QF (S := SU) D (wM cI b L v) (wM cI b L) sz (fun r u => TyV u ∧ Rg (-12) 1 r ∧ True)) 0 0 (va_A (wM cI b L v) sz) := by
  refine Met.ofW (cc := cX12_write) (maxL := 5) (ret := (some .int)) (by decide) rfl ?_
  intro p e s m args below meth c s₁ B hml hv
  obtain ⟨rfl, hsz, hP, hKK, hD0⟩ := hv
  have hx := B.exec
  have hb := B.bytes
  have hr := B.returns
  have hts := atoms_spec (ws := wsX12_write) B.pre
  have hown : s.vm.findClass RX12 = some m.cls := findClass_of_methodNamed B.named
  have hlocks := B.notSynchronized
  have hK := hKK.1
  have hin12 : ∀ w ∈ wsX120, w ∈ wsX12_write := by decide +kernel
  subst hsz
  have hD := hD0.self (sz := s.heap.size)
  obtain ⟨A, hAe⟩ : ∃ A, A = va_A (wM cI b L v) s.heap.size := ⟨_, rfl⟩
  rw [← hAe] at hD
  have hA : ∀ q : Nat, s.heap.size ≤ q → A q := fun q h => by rw [hAe]; exact Or.inr h
  have hS : va_S A s.heap s.heap [] := va_S.rf
  have hl := lv_entry ([.ref (b 0), .int x0, .int x1, .int x2]) (n := 5) (Nat.le_of_ble_eq_true rfl)
  rw [lg_entry_eq]
  generalize (lg_sl ([.ref (b 0), .int x0, .int x1, .int x2]) ++ List.replicate (5 - (lg_sl ([.ref (b 0), .int x0, .int x1, .int x2])).length) Slot.unset).toArray = ls at hl ⊢
  have hl : lv_has ls 5 [(0, .ref (b 0)), (1, .int x0), (2, .int x1), (3, .int x2)] := hl
  refine lv_aload_n hx hb dX12_write_0 rfl (lv_at hl 0 rfl) ?_
  refine lv_iload_n hx hb dX12_write_1 rfl (lv_at hl 1 rfl) ?_
  refine lv_iload_n hx hb dX12_write_2 rfl (lv_at hl 2 rfl) ?_
  refine wk_sv 0 (As := [.int x0, .int x1]) (rest := []) ⟨hx, hb, hml, hown, hts⟩ (w_X12_wrongAt l D cI cS b L v hL hV x0 x1) hKK hP (ci := 12) rfl rfl (cwV 2 hts gX12_write_X12_wrongAt rfl rfl rfl (by decide +kernel) ⟨Nat.le_of_ble_eq_true rfl, Nat.le_of_ble_eq_true rfl⟩) rfl hl.1 rfl (Nat.le_of_ble_eq_true rfl) dX12_write_3 ⟨Nat.le_of_ble_eq_true rfl, Nat.le_of_ble_eq_true rfl⟩ (fun r17446 hr17446 => ?_)
  refine lv_istore (lv' := [(4, .int r17446), (0, .ref (b 0)), (1, .int x0), (2, .int x1), (3, .int x2)]) hx hb dX12_write_6 hl (by decide) rfl (fun ls hl => ?_)
  refine lv_iload hx hb dX12_write_8 (lv_at hl 0 rfl) ?_
  refine lv_if_eq (tgt := 16) hx hb dX12_write_10 (by decide) (fun c17447 => ?_) (fun c17447 => ?_)
  · have g17448 : Rg 0 3 x0 := (hr17446.2 c17447).1
    have g17449 : Rg 0 39 x1 := (hr17446.2 c17447).2
    have g17450 : Rg 0 0 r17446 := wk_eql hr17446.1 (by decide : Rg 0 0 (0 : Int32)) c17447 (by decide)
    refine lv_aload_n hx hb dX12_write_16 rfl (lv_at hl 1 rfl) ?_
    refine va_get (D := D) (ci := 12) (v := .ref (b 11)) (C := RX12) (T := TX12) (N := 24) hx hb hts hin12 hown hK hP 0 rfl rfl 18 (by decide) (hts (.fieldLink RX12 44 "MissedPointsModel" "items" "[I") (by decide +kernel)) (fun _ h9 => h9) rfl dX12_write_17 ?_
    refine lv_bipush (v := 40) hx hb dX12_write_20 (by decide) ?_
    refine lv_iload_n hx hb dX12_write_22 rfl (lv_at hl 2 rfl) ?_
    refine wk_imul (f := 120) hx hb dX12_write_23 (by decide : Rg 0 40 (40 : Int32)) g17448 (by decide) (fun r17451 hr17451 er17451 qr17451 => ?_)
    refine lv_iload_n hx hb dX12_write_24 rfl (lv_at hl 3 rfl) ?_
    refine wk_iadd (e := 0) (f := 159) hx hb dX12_write_25 hr17451 g17449 (by decide) (fun r17452 hr17452 er17452 qr17452 => ?_)
    refine lv_aload_n hx hb dX12_write_26 rfl (lv_at hl 1 rfl) ?_
    refine va_get (D := D) (ci := 12) (v := .ref (b 9)) (C := RX12) (T := TX12) (N := 24) hx hb hts hin12 hown hK hP 0 rfl rfl 16 (by decide) (hts (.fieldLink RX12 38 "MissedPointsModel" "sort" "[I") (by decide +kernel)) (fun _ h9 => h9) rfl dX12_write_27 ?_
    refine lv_iload_n hx hb dX12_write_30 rfl (lv_at hl 2 rfl) ?_
    refine wk_ald hx hb hK hP 9 0 rfl rfl (rg_in g17448 (by decide) (by decide)) dX12_write_31 hL.2.2.1 (fun r17453 hr17453 => ?_)
    refine lv_if_ne (tgt := 40) hx hb dX12_write_32 (by decide) (fun c17454 => ?_) (fun c17454 => ?_)
    · refine lv_iload_n hx hb dX12_write_40 rfl (lv_at hl 4 rfl) ?_
      refine ms_11 hx hb hK hP hD hS hV rfl (rg_in hr17452 (by decide) (by decide)) dX12_write_41 (fun v H locs hV ev17455 hP hD hS => ?_)
      refine lv_iconst (v := 1) hx hb dX12_write_42 (by decide) ?_
      subst hAe
      exact W.iret (v := 1) hx hb hr (fun t ht hW => ⟨⟨_, v, rfl, ⟨hV, (by decide : Rg (-12) 1 (1 : Int32)), trivial⟩, by rw [ht]; exact hP, hD⟩, hS.F ht⟩) hS.2.2 dX12_write_43
    · have g17456 : Rg 0 0 r17453 := wk_eql hr17453 (by decide : Rg 0 0 (0 : Int32)) c17454 (by decide)
      refine lv_iload_n hx hb dX12_write_35 rfl (lv_at hl 4 rfl) ?_
      refine lv_i2s hx hb dX12_write_36 rfl ?_
      refine wk_any (fun r17458 => ?_)
      refine lv_goto (tgt := 41) hx hb dX12_write_37 (by decide) ?_
      refine ms_11 hx hb hK hP hD hS hV rfl (rg_in hr17452 (by decide) (by decide)) dX12_write_41 (fun v H locs hV ev17459 hP hD hS => ?_)
      refine lv_iconst (v := 1) hx hb dX12_write_42 (by decide) ?_
      subst hAe
      exact W.iret (v := 1) hx hb hr (fun t ht hW => ⟨⟨_, v, rfl, ⟨hV, (by decide : Rg (-12) 1 (1 : Int32)), trivial⟩, by rw [ht]; exact hP, hD⟩, hS.F ht⟩) hS.2.2 dX12_write_43
  · have g17460 : Rg (-12) (-1) r17446 := rg_ne_hi (k := 0) hr17446.1 (by decide) c17447 (by decide)
    refine lv_iload hx hb dX12_write_13 (lv_at hl 0 rfl) ?_
    subst hAe
    exact W.iret (v := r17446) hx hb hr (fun t ht hW => ⟨⟨_, v, rfl, ⟨hV, (rg_w g17460 (by decide) (by decide)), trivial⟩, by rw [ht]; exact hP, hD⟩, hS.F ht⟩) hS.2.2 dX12_write_15
theorem dX12_item_15 : decode cX12_item 15 = .ok (.aload_n 0, 1) := by decide +kernel
theorem dX12_item_16 : decode cX12_item 16 = .ok (.getfield 44, 3) := by decide +kernel
theorem dX12_item_19 : decode cX12_item 19 = .ok (.bipush 40, 2) := by decide +kernel
theorem dX12_item_21 : decode cX12_item 21 = .ok (.iload_n 1, 1) := by decide +kernel
theorem dX12_item_22 : decode cX12_item 22 = .ok (.imul, 1) := by decide +kernel
theorem dX12_item_23 : decode cX12_item 23 = .ok (.iload_n 2, 1) := by decide +kernel
theorem dX12_item_24 : decode cX12_item 24 = .ok (.iadd, 1) := by decide +kernel
theorem dX12_item_25 : decode cX12_item 25 = .ok (.iaload, 1) := by decide +kernel
set_option maxHeartbeats 4000000 in
set_option maxRecDepth 100000 in
theorem w_X12_item (l : Launch) (D : va_G) (cI cS : ClassId) (b : Nat → Nat) (L v : SU) (hL : TyL L) (hV : TyV v) (x0 x1 : Int32) : Met l yX12_item wsX12_item ({ frames := 3, cells := 0, slots := 0, locals := 120 }) (PS D cI cS (wM cI b L v) [.ref (b 0), .int x0, .int x1]) (vp_Si (fun r => Rg (-2147483648) 2147483647 r ∧ True)) 0 0 (fun _ => False) := by
  refine Met.ofW (cc := cX12_item) (maxL := 4) (ret := (some .int)) (by decide) rfl ?_
  intro p e s m args below meth c s₁ B hml hv
  obtain ⟨rfl, hP, hKK⟩ := hv
  have hx := B.exec
  have hb := B.bytes
  have hr := B.returns
  have hts := atoms_spec (ws := wsX12_item) B.pre
  have hown : s.vm.findClass RX12 = some m.cls := findClass_of_methodNamed B.named
  have hlocks := B.notSynchronized
  have hK := hKK.1
  have hin12 : ∀ w ∈ wsX120, w ∈ wsX12_item := by decide +kernel
  have hl := lv_entry ([.ref (b 0), .int x0, .int x1]) (n := 4) (Nat.le_of_ble_eq_true rfl)
  rw [lg_entry_eq]
  generalize (lg_sl ([.ref (b 0), .int x0, .int x1]) ++ List.replicate (4 - (lg_sl ([.ref (b 0), .int x0, .int x1])).length) Slot.unset).toArray = ls at hl ⊢
  have hl : lv_has ls 4 [(0, .ref (b 0)), (1, .int x0), (2, .int x1)] := hl
  refine lv_aload_n hx hb dX12_item_0 rfl (lv_at hl 0 rfl) ?_
  refine lv_iload_n hx hb dX12_item_1 rfl (lv_at hl 1 rfl) ?_
  refine lv_iload_n hx hb dX12_item_2 rfl (lv_at hl 2 rfl) ?_
  refine wk_sv 0 (As := [.int x0, .int x1]) (rest := []) ⟨hx, hb, hml, hown, hts⟩ (w_X12_wrongAt l D cI cS b L v hL hV x0 x1) hKK hP (ci := 12) rfl rfl (cwV 2 hts gX12_item_X12_wrongAt rfl rfl rfl (by decide +kernel) ⟨Nat.le_of_ble_eq_true rfl, Nat.le_of_ble_eq_true rfl⟩) rfl hl.1 rfl (Nat.le_of_ble_eq_true rfl) dX12_item_3 ⟨Nat.le_of_ble_eq_true rfl, Nat.le_of_ble_eq_true rfl⟩ (fun r17470 hr17470 => ?_)
  refine lv_istore_n (lv' := [(3, .int r17470), (0, .ref (b 0)), (1, .int x0), (2, .int x1)]) hx hb dX12_item_6 rfl hl (by decide) rfl (fun ls hl => ?_)
  refine lv_iload_n hx hb dX12_item_7 rfl (lv_at hl 0 rfl) ?_
  refine lv_if_eq (tgt := 15) hx hb dX12_item_8 (by decide) (fun c17471 => ?_) (fun c17471 => ?_)
  · have g17472 : Rg 0 3 x0 := (hr17470.2 c17471).1
    have g17473 : Rg 0 39 x1 := (hr17470.2 c17471).2
    have g17474 : Rg 0 0 r17470 := wk_eql hr17470.1 (by decide : Rg 0 0 (0 : Int32)) c17471 (by decide)
    refine lv_aload_n hx hb dX12_item_15 rfl (lv_at hl 1 rfl) ?_
    refine va_get (D := D) (ci := 12) (v := .ref (b 11)) (C := RX12) (T := TX12) (N := 24) hx hb hts hin12 hown hK hP 0 rfl rfl 18 (by decide) (hts (.fieldLink RX12 44 "MissedPointsModel" "items" "[I") (by decide +kernel)) (fun _ h9 => h9) rfl dX12_item_16 ?_
    refine lv_bipush (v := 40) hx hb dX12_item_19 (by decide) ?_
    refine lv_iload_n hx hb dX12_item_21 rfl (lv_at hl 2 rfl) ?_
    refine wk_imul (f := 120) hx hb dX12_item_22 (by decide : Rg 0 40 (40 : Int32)) g17472 (by decide) (fun r17475 hr17475 er17475 qr17475 => ?_)
    refine lv_iload_n hx hb dX12_item_23 rfl (lv_at hl 3 rfl) ?_
    refine wk_iadd (e := 0) (f := 159) hx hb dX12_item_24 hr17475 g17473 (by decide) (fun r17476 hr17476 er17476 qr17476 => ?_)
    refine wk_aldA hx hb hK hP 11 0 rfl rfl (rg_in hr17476 (by decide) (by decide)) dX12_item_25 (fun r17477 => ?_)
    exact W.iret (v := r17477) hx hb hr (fun t ht hW => ⟨_, rfl, ⟨(rg_any r17477), trivial⟩, ht⟩) (fun q hq => absurd hq List.not_mem_nil) dX12_item_26
  · have g17478 : Rg (-12) (-1) r17470 := rg_ne_hi (k := 0) hr17470.1 (by decide) c17471 (by decide)
    refine lv_iload_n hx hb dX12_item_11 rfl (lv_at hl 0 rfl) ?_
    refine lv_goto (tgt := 26) hx hb dX12_item_12 (by decide) ?_
    exact W.iret (v := r17470) hx hb hr (fun t ht hW => ⟨_, rfl, ⟨(rg_any r17470), trivial⟩, ht⟩) (fun q hq => absurd hq List.not_mem_nil) dX12_item_26
theorem dX12_copy_101 : decode cX12_copy 101 = .ok (.ireturn, 1) := by decide +kernel
theorem dX12_copy_102 : decode cX12_copy 102 = .ok (.bipush 40, 2) := by decide +kernel
theorem dX12_copy_104 : decode cX12_copy 104 = .ok (.iload_n 1, 1) := by decide +kernel
theorem dX12_copy_105 : decode cX12_copy 105 = .ok (.imul, 1) := by decide +kernel
theorem dX12_copy_106 : decode cX12_copy 106 = .ok (.iload_n 2, 1) := by decide +kernel
theorem dX12_copy_107 : decode cX12_copy 107 = .ok (.iadd, 1) := by decide +kernel
theorem dX12_copy_108 : decode cX12_copy 108 = .ok (.bipush 40, 2) := by decide +kernel
theorem dX12_copy_110 : decode cX12_copy 110 = .ok (.iload_n 3, 1) := by decide +kernel
theorem dX12_copy_111 : decode cX12_copy 111 = .ok (.imul, 1) := by decide +kernel
theorem dX12_copy_112 : decode cX12_copy 112 = .ok (.iload 4, 2) := by decide +kernel
theorem dX12_copy_114 : decode cX12_copy 114 = .ok (.iadd, 1) := by decide +kernel
theorem dX12_copy_115 : decode cX12_copy 115 = .ok (.if_icmp .ge 7, 3) := by decide +kernel
theorem dX12_copy_118 : decode cX12_copy 118 = .ok (.iconst 1, 1) := by decide +kernel
theorem dX12_copy_119 : decode cX12_copy 119 = .ok (.goto 4, 3) := by decide +kernel
theorem dX12_copy_122 : decode cX12_copy 122 = .ok (.iconst 0, 1) := by decide +kernel
theorem dX12_copy_123 : decode cX12_copy 123 = .ok (.istore 6, 2) := by decide +kernel
theorem dX12_copy_125 : decode cX12_copy 125 = .ok (.iconst 0, 1) := by decide +kernel
theorem dX12_copy_126 : decode cX12_copy 126 = .ok (.istore 7, 2) := by decide +kernel
theorem dX12_copy_128 : decode cX12_copy 128 = .ok (.iload 7, 2) := by decide +kernel
theorem dX12_copy_130 : decode cX12_copy 130 = .ok (.iload 5, 2) := by decide +kernel
theorem dX12_copy_132 : decode cX12_copy 132 = .ok (.if_icmp .ge 57, 3) := by decide +kernel
theorem dX12_copy_135 : decode cX12_copy 135 = .ok (.iload 6, 2) := by decide +kernel
theorem dX12_copy_137 : decode cX12_copy 137 = .ok (.ifCond .eq 13, 3) := by decide +kernel
theorem dX12_copy_140 : decode cX12_copy 140 = .ok (.iload 5, 2) := by decide +kernel
theorem dX12_copy_142 : decode cX12_copy 142 = .ok (.iconst 1, 1) := by decide +kernel
theorem dX12_copy_143 : decode cX12_copy 143 = .ok (.isub, 1) := by decide +kernel
theorem dX12_copy_144 : decode cX12_copy 144 = .ok (.iload 7, 2) := by decide +kernel
theorem dX12_copy_146 : decode cX12_copy 146 = .ok (.isub, 1) := by decide +kernel
theorem dX12_copy_147 : decode cX12_copy 147 = .ok (.goto 5, 3) := by decide +kernel
theorem dX12_copy_150 : decode cX12_copy 150 = .ok (.iload 7, 2) := by decide +kernel
theorem dX12_copy_152 : decode cX12_copy 152 = .ok (.istore 8, 2) := by decide +kernel
theorem dX12_copy_154 : decode cX12_copy 154 = .ok (.aload_n 0, 1) := by decide +kernel
theorem dX12_copy_155 : decode cX12_copy 155 = .ok (.getfield 44, 3) := by decide +kernel
theorem dX12_copy_158 : decode cX12_copy 158 = .ok (.bipush 40, 2) := by decide +kernel
theorem dX12_copy_160 : decode cX12_copy 160 = .ok (.iload_n 3, 1) := by decide +kernel
theorem dX12_copy_161 : decode cX12_copy 161 = .ok (.imul, 1) := by decide +kernel
theorem dX12_copy_162 : decode cX12_copy 162 = .ok (.iload 4, 2) := by decide +kernel
theorem dX12_copy_164 : decode cX12_copy 164 = .ok (.iadd, 1) := by decide +kernel
theorem dX12_copy_165 : decode cX12_copy 165 = .ok (.iload 8, 2) := by decide +kernel
theorem dX12_copy_167 : decode cX12_copy 167 = .ok (.iadd, 1) := by decide +kernel
theorem dX12_copy_168 : decode cX12_copy 168 = .ok (.aload_n 0, 1) := by decide +kernel
theorem dX12_copy_169 : decode cX12_copy 169 = .ok (.getfield 44, 3) := by decide +kernel
theorem dX12_copy_172 : decode cX12_copy 172 = .ok (.bipush 40, 2) := by decide +kernel
theorem dX12_copy_174 : decode cX12_copy 174 = .ok (.iload_n 1, 1) := by decide +kernel
theorem dX12_copy_175 : decode cX12_copy 175 = .ok (.imul, 1) := by decide +kernel
theorem dX12_copy_176 : decode cX12_copy 176 = .ok (.iload_n 2, 1) := by decide +kernel
theorem dX12_copy_177 : decode cX12_copy 177 = .ok (.iadd, 1) := by decide +kernel
theorem dX12_copy_178 : decode cX12_copy 178 = .ok (.iload 8, 2) := by decide +kernel
theorem dX12_copy_180 : decode cX12_copy 180 = .ok (.iadd, 1) := by decide +kernel
theorem dX12_copy_181 : decode cX12_copy 181 = .ok (.iaload, 1) := by decide +kernel
theorem dX12_copy_182 : decode cX12_copy 182 = .ok (.iastore, 1) := by decide +kernel
theorem dX12_copy_183 : decode cX12_copy 183 = .ok (.iinc 7 1, 3) := by decide +kernel
theorem dX12_copy_186 : decode cX12_copy 186 = .ok (.goto (-58), 3) := by decide +kernel
theorem dX12_copy_189 : decode cX12_copy 189 = .ok (.iload 5, 2) := by decide +kernel
theorem dX12_copy_191 : decode cX12_copy 191 = .ok (.ireturn, 1) := by decide +kernel
theorem dX12_copy_27 : decode cX12_copy 27 = .ok (.aload_n 0, 1) := by decide +kernel
theorem dX12_copy_28 : decode cX12_copy 28 = .ok (.getfield 38, 3) := by decide +kernel
theorem dX12_copy_31 : decode cX12_copy 31 = .ok (.iload_n 3, 1) := by decide +kernel
theorem dX12_copy_32 : decode cX12_copy 32 = .ok (.iaload, 1) := by decide +kernel
theorem dX12_copy_33 : decode cX12_copy 33 = .ok (.iconst (-1), 1) := by decide +kernel
theorem dX12_copy_34 : decode cX12_copy 34 = .ok (.if_icmp .ne 6, 3) := by decide +kernel
theorem dX12_copy_40 : decode cX12_copy 40 = .ok (.aload_n 0, 1) := by decide +kernel
theorem dX12_copy_41 : decode cX12_copy 41 = .ok (.getfield 38, 3) := by decide +kernel
theorem dX12_copy_44 : decode cX12_copy 44 = .ok (.iload_n 1, 1) := by decide +kernel
theorem dX12_copy_45 : decode cX12_copy 45 = .ok (.iaload, 1) := by decide +kernel
theorem dX12_copy_46 : decode cX12_copy 46 = .ok (.aload_n 0, 1) := by decide +kernel
theorem dX12_copy_47 : decode cX12_copy 47 = .ok (.getfield 38, 3) := by decide +kernel
theorem dX12_copy_50 : decode cX12_copy 50 = .ok (.iload_n 3, 1) := by decide +kernel
theorem dX12_copy_51 : decode cX12_copy 51 = .ok (.iaload, 1) := by decide +kernel
theorem dX12_copy_52 : decode cX12_copy 52 = .ok (.if_icmp .eq 6, 3) := by decide +kernel
theorem dX12_copy_55 : decode cX12_copy 55 = .ok (.bipush (-13), 2) := by decide +kernel
theorem dX12_copy_57 : decode cX12_copy 57 = .ok (.ireturn, 1) := by decide +kernel
theorem dX12_copy_58 : decode cX12_copy 58 = .ok (.iload 5, 2) := by decide +kernel
theorem dX12_copy_60 : decode cX12_copy 60 = .ok (.ifCond .lt 39, 3) := by decide +kernel
theorem dX12_copy_63 : decode cX12_copy 63 = .ok (.iload_n 2, 1) := by decide +kernel
theorem dX12_copy_64 : decode cX12_copy 64 = .ok (.ifCond .lt 35, 3) := by decide +kernel
theorem dX12_copy_67 : decode cX12_copy 67 = .ok (.iload 4, 2) := by decide +kernel
theorem dX12_copy_69 : decode cX12_copy 69 = .ok (.ifCond .lt 30, 3) := by decide +kernel
theorem dX12_copy_72 : decode cX12_copy 72 = .ok (.iload_n 2, 1) := by decide +kernel
theorem dX12_copy_73 : decode cX12_copy 73 = .ok (.aload_n 0, 1) := by decide +kernel
theorem dX12_copy_74 : decode cX12_copy 74 = .ok (.getfield 41, 3) := by decide +kernel
theorem dX12_copy_77 : decode cX12_copy 77 = .ok (.iload_n 1, 1) := by decide +kernel
theorem dX12_copy_78 : decode cX12_copy 78 = .ok (.iaload, 1) := by decide +kernel
theorem dX12_copy_79 : decode cX12_copy 79 = .ok (.iload 5, 2) := by decide +kernel
theorem dX12_copy_81 : decode cX12_copy 81 = .ok (.isub, 1) := by decide +kernel
theorem dX12_copy_82 : decode cX12_copy 82 = .ok (.if_icmp .gt 17, 3) := by decide +kernel
theorem dX12_copy_85 : decode cX12_copy 85 = .ok (.iload 4, 2) := by decide +kernel
theorem dX12_copy_87 : decode cX12_copy 87 = .ok (.aload_n 0, 1) := by decide +kernel
theorem dX12_copy_88 : decode cX12_copy 88 = .ok (.getfield 41, 3) := by decide +kernel
theorem dX12_copy_91 : decode cX12_copy 91 = .ok (.iload_n 3, 1) := by decide +kernel
theorem dX12_copy_92 : decode cX12_copy 92 = .ok (.iaload, 1) := by decide +kernel
theorem dX12_copy_93 : decode cX12_copy 93 = .ok (.iload 5, 2) := by decide +kernel
theorem dX12_copy_95 : decode cX12_copy 95 = .ok (.isub, 1) := by decide +kernel
theorem dX12_copy_96 : decode cX12_copy 96 = .ok (.if_icmp .le 6, 3) := by decide +kernel
theorem dX12_copy_99 : decode cX12_copy 99 = .ok (.bipush (-12), 2) := by decide +kernel
set_option maxHeartbeats 4000000 in
set_option maxRecDepth 100000 in
theorem w_X12_copy (l : Launch) (D : va_G) (cI cS : ClassId) (sz : Nat) (b : Nat → Nat) (L v : SU) (hL : TyL L) (hV : TyV v) (x0 x1 x2 x3 x4 : Int32) : Met l yX12_copy wsX12_copy ({ frames := 2, cells := 0, slots := 0, locals := 80 }) (PQ D cI cS (wM cI b L v) sz [.ref (b 0), .int x0, .int x1, .int x2, .int x3, .int x4]) (QF (S := SU) D (wM cI b L v) (wM cI b L) sz (fun r u => TyV u ∧ Rg (-13) 40 r ∧ True)) 0 0 (va_A (wM cI b L v) sz) := by
  refine Met.ofW (cc := cX12_copy) (maxL := 9) (ret := (some .int)) (by decide) rfl ?_
  intro p e s m args below meth c s₁ B hml hv
  obtain ⟨rfl, hsz, hP, hKK, hD0⟩ := hv
  have hx := B.exec
  have hb := B.bytes
  have hr := B.returns
  have hts := atoms_spec (ws := wsX12_copy) B.pre
  have hown : s.vm.findClass RX12 = some m.cls := findClass_of_methodNamed B.named
  have hlocks := B.notSynchronized
  have hK := hKK.1
  have hin12 : ∀ w ∈ wsX120, w ∈ wsX12_copy := by decide +kernel
  subst hsz
  have hD := hD0.self (sz := s.heap.size)
  obtain ⟨A, hAe⟩ : ∃ A, A = va_A (wM cI b L v) s.heap.size := ⟨_, rfl⟩
  rw [← hAe] at hD
  have hA : ∀ q : Nat, s.heap.size ≤ q → A q := fun q h => by rw [hAe]; exact Or.inr h
  have hS : va_S A s.heap s.heap [] := va_S.rf
  have hl := lv_entry ([.ref (b 0), .int x0, .int x1, .int x2, .int x3, .int x4]) (n := 9) (Nat.le_of_ble_eq_true rfl)
  rw [lg_entry_eq]
  generalize (lg_sl ([.ref (b 0), .int x0, .int x1, .int x2, .int x3, .int x4]) ++ List.replicate (9 - (lg_sl ([.ref (b 0), .int x0, .int x1, .int x2, .int x3, .int x4])).length) Slot.unset).toArray = ls at hl ⊢
  have hl : lv_has ls 9 [(0, .ref (b 0)), (1, .int x0), (2, .int x1), (3, .int x2), (4, .int x3), (5, .int x4)] := hl
  have lp128 : ∀ (n128 : Nat) (y128_l6 y128_l7 : Int32) (v : SU) (H : Heap) (locs : List Loc) (ls : Array Slot), Rg 0 3 x0 → Rg 0 40 x1 → Rg 0 3 x2 → Rg 0 40 x3 → Rg 0 40 x4 → Rg 0 1 y128_l6 → Rg 0 40 y128_l7 → (x1.toInt + x4.toInt ≤ 40 ∧ x3.toInt + x4.toInt ≤ 40) → TyV v → va_P D cls (wM cI b L v) H → va_D A (wM cI b L v) → va_S A s.heap H locs → lv_has ls 9 [(0, .ref (b 0)), (1, .int x0), (2, .int x1), (3, .int x2), (4, .int x3), (5, .int x4), (6, .int y128_l6), (7, .int y128_l7)] → 40 - y128_l7.toInt < (n128 : Int) → W p l e (headSpec wsX12_copy ({ frames := 2, cells := 0, slots := 0, locals := 80 })).room s m ([.ref (b 0), .int x0, .int x1, .int x2, .int x3, .int x4]).toArray below meth c H locs 0 0 (MQ below (QF (S := SU) D (wM cI b L v) (wM cI b L) s.heap.size (fun r u => TyV u ∧ Rg (-13) 40 r ∧ True)) ([.ref (b 0), .int x0, .int x1, .int x2, .int x3, .int x4]).toArray s 0 0 (va_A (wM cI b L v) s.heap.size)) (F0 m 128 ls []) := by
    intro n128
    induction n128 with
    | zero =>
      intro y128_l6 y128_l7 v H locs ls g128_l1 g128_l2 g128_l3 g128_l4 g128_l5 g128_l6 g128_l7 x128_0 hV hP hD hS hl hm128
      exact absurd rfl (me_z g128_l7 hm128)
    | succ n128 ih128 =>
      intro y128_l6 y128_l7 v H locs ls g128_l1 g128_l2 g128_l3 g128_l4 g128_l5 g128_l6 g128_l7 x128_0 hV hP hD hS hl hm128
      have ct152 : ∀ (y152_s0 : Int32) (v : SU) (H : Heap) (locs : List Loc) (ls : Array Slot), Rg 0 3 x0 → Rg 0 40 x1 → Rg 0 3 x2 → Rg 0 40 x3 → Rg 1 40 x4 → Rg 0 1 y128_l6 → Rg 0 39 y128_l7 → Rg (-2147483648) 39 y152_s0 → (x1.toInt + x4.toInt ≤ 40 ∧ x3.toInt + x4.toInt ≤ 40) → (0 ≤ y152_s0.toInt ∧ y152_s0.toInt < x4.toInt) → TyV v → va_P D cls (wM cI b L v) H → va_D A (wM cI b L v) → va_S A s.heap H locs → lv_has ls 9 [(0, .ref (b 0)), (1, .int x0), (2, .int x1), (3, .int x2), (4, .int x3), (5, .int x4), (6, .int y128_l6), (7, .int y128_l7)] → W p l e (headSpec wsX12_copy ({ frames := 2, cells := 0, slots := 0, locals := 80 })).room s m ([.ref (b 0), .int x0, .int x1, .int x2, .int x3, .int x4]).toArray below meth c H locs 0 0 (MQ below (QF (S := SU) D (wM cI b L v) (wM cI b L) s.heap.size (fun r u => TyV u ∧ Rg (-13) 40 r ∧ True)) ([.ref (b 0), .int x0, .int x1, .int x2, .int x3, .int x4]).toArray s 0 0 (va_A (wM cI b L v) s.heap.size)) (F0 m 152 ls [.int y152_s0]) := by
        intro y152_s0 v H locs ls g152_l1 g152_l2 g152_l3 g152_l4 g152_l5 g152_l6 g152_l7 g152_s0 x152_0 x152_1 hV hP hD hS hl
        refine lv_istore (lv' := [(8, .int y152_s0), (0, .ref (b 0)), (1, .int x0), (2, .int x1), (3, .int x2), (4, .int x3), (5, .int x4), (6, .int y128_l6), (7, .int y128_l7)]) hx hb dX12_copy_152 hl (by decide) rfl (fun ls hl => ?_)
        refine lv_aload_n hx hb dX12_copy_154 rfl (lv_at hl 1 rfl) ?_
        refine va_get (D := D) (ci := 12) (v := .ref (b 11)) (C := RX12) (T := TX12) (N := 24) hx hb hts hin12 hown hK hP 0 rfl rfl 18 (by decide) (hts (.fieldLink RX12 44 "MissedPointsModel" "items" "[I") (by decide +kernel)) (fun _ h9 => h9) rfl dX12_copy_155 ?_
        refine lv_bipush (v := 40) hx hb dX12_copy_158 (by decide) ?_
        refine lv_iload_n hx hb dX12_copy_160 rfl (lv_at hl 4 rfl) ?_
        refine wk_imul (f := 120) hx hb dX12_copy_161 (by decide : Rg 0 40 (40 : Int32)) g152_l3 (by decide) (fun r18607 hr18607 er18607 qr18607 => ?_)
        refine lv_iload hx hb dX12_copy_162 (lv_at hl 5 rfl) ?_
        refine wk_iadd (e := 0) (f := 160) hx hb dX12_copy_164 hr18607 g152_l4 (by decide) (fun r18608 hr18608 er18608 qr18608 => ?_)
        refine lv_iload hx hb dX12_copy_165 (lv_at hl 0 rfl) ?_
        refine wk_iadd (e := (-2147483648)) (f := 199) hx hb dX12_copy_167 hr18608 g152_s0 (by decide) (fun r18609 hr18609 er18609 qr18609 => ?_)
        refine lv_aload_n hx hb dX12_copy_168 rfl (lv_at hl 1 rfl) ?_
        refine va_get (D := D) (ci := 12) (v := .ref (b 11)) (C := RX12) (T := TX12) (N := 24) hx hb hts hin12 hown hK hP 0 rfl rfl 18 (by decide) (hts (.fieldLink RX12 44 "MissedPointsModel" "items" "[I") (by decide +kernel)) (fun _ h9 => h9) rfl dX12_copy_169 ?_
        refine lv_bipush (v := 40) hx hb dX12_copy_172 (by decide) ?_
        refine lv_iload_n hx hb dX12_copy_174 rfl (lv_at hl 2 rfl) ?_
        refine wk_imul (f := 120) hx hb dX12_copy_175 (by decide : Rg 0 40 (40 : Int32)) g152_l1 (by decide) (fun r18610 hr18610 er18610 qr18610 => ?_)
        refine lv_iload_n hx hb dX12_copy_176 rfl (lv_at hl 3 rfl) ?_
        refine wk_iadd (e := 0) (f := 160) hx hb dX12_copy_177 hr18610 g152_l2 (by decide) (fun r18611 hr18611 er18611 qr18611 => ?_)
        refine lv_iload hx hb dX12_copy_178 (lv_at hl 0 rfl) ?_
        have g18612 : Rg 0 159 r18611 := by have z1 := er18611; have z2 := er18610; have z3 := (by decide : Rg 0 120 (40 : Int32)); have z4 := g152_l1; have z5 := g152_l2; have z6 := x152_0; have z7 := x152_1; exact ⟨by omega, by omega⟩
        refine wk_iadd (e := (-2147483648)) (f := 198) hx hb dX12_copy_180 g18612 g152_s0 (by decide) (fun r18613 hr18613 er18613 qr18613 => ?_)
        have g18614 : Rg 0 159 r18613 := by have z1 := er18613; have z2 := er18611; have z3 := hr18610; have z4 := g152_l2; have z5 := g152_s0; have z6 := x152_0; have z7 := x152_1; exact ⟨by omega, by omega⟩
        refine wk_aldA hx hb hK hP 11 0 rfl rfl (rg_in g18614 (by decide) (by decide)) dX12_copy_181 (fun r18615 => ?_)
        have g18616 : Rg 0 159 r18609 := by have z1 := er18609; have z2 := er18608; have z3 := hr18607; have z4 := g152_l4; have z5 := g152_s0; have z6 := x152_0; have z7 := x152_1; exact ⟨by omega, by omega⟩
        refine ms_11 hx hb hK hP hD hS hV rfl (rg_in g18616 (by decide) (by decide)) dX12_copy_182 (fun v H locs hV ev18617 hP hD hS => ?_)
        refine wk_iinc (lv' := fun r => [(7, .int r), (8, .int y152_s0), (0, .ref (b 0)), (1, .int x0), (2, .int x1), (3, .int x2), (4, .int x3), (5, .int x4), (6, .int y128_l6)]) (e := 1) (f := 40) hx hb dX12_copy_183 hl (k := 8) rfl (by decide) g152_l7 (by decide) (fun _ => rfl) (fun r18618 ls hr18618 er18618 hl => ?_)
        refine lv_goto (tgt := 128) hx hb dX12_copy_186 (by decide) ?_
        exact ih128 _ y128_l6 r18618 v _ _ ls g152_l1 g152_l2 g152_l3 g152_l4 (rg_w g152_l5 (by decide) (by decide)) g152_l6 (rg_w hr18618 (by decide) (by decide)) (by exact x152_0) hV hP hD hS (lv_sub (l' := [(0, .ref (b 0)), (1, .int x0), (2, .int x1), (3, .int x2), (4, .int x3), (5, .int x4), (6, .int y128_l6), (7, .int r18618)]) hl [2, 3, 4, 5, 6, 7, 8, 0] rfl) (me_up hm128 er18618 (by decide))
      refine lv_iload hx hb dX12_copy_128 (lv_at hl 7 rfl) ?_
      refine lv_iload hx hb dX12_copy_130 (lv_at hl 5 rfl) ?_
      refine lv_icmp_ge (tgt := 189) hx hb dX12_copy_132 (by decide) (fun c18619 => ?_) (fun c18619 => ?_)
      · refine lv_iload hx hb dX12_copy_189 (lv_at hl 5 rfl) ?_
        subst hAe
        exact W.iret (v := x4) hx hb hr (fun t ht hW => ⟨⟨_, v, rfl, ⟨hV, (rg_w g128_l5 (by decide) (by decide)), trivial⟩, by rw [ht]; exact hP, hD⟩, hS.F ht⟩) hS.2.2 dX12_copy_191
      · have g18620 : Rg 1 40 x4 := rg_ltr g128_l7 g128_l5 (rg_nle c18619) (by decide)
        have g18621 : Rg 0 39 y128_l7 := rg_ltl g128_l7 g128_l5 (rg_nle c18619) (by decide)
        refine lv_iload hx hb dX12_copy_135 (lv_at hl 6 rfl) ?_
        refine lv_if_eq (tgt := 150) hx hb dX12_copy_137 (by decide) (fun c18622 => ?_) (fun c18622 => ?_)
        · have g18623 : Rg 0 0 y128_l6 := wk_eql g128_l6 (by decide : Rg 0 0 (0 : Int32)) c18622 (by decide)
          refine lv_iload hx hb dX12_copy_150 (lv_at hl 7 rfl) ?_
          exact ct152 y128_l7 v _ _ ls g128_l1 g128_l2 g128_l3 g128_l4 g18620 (rg_w g18623 (by decide) (by decide)) g18621 (rg_w g18621 (by decide) (by decide)) (by exact x128_0) (by have z1 := (lz_lt _ _).mp (rg_nle c18619); have z2 := g128_l7; exact ⟨z2.1, z1⟩) hV hP hD hS (lv_sub (l' := [(0, .ref (b 0)), (1, .int x0), (2, .int x1), (3, .int x2), (4, .int x3), (5, .int x4), (6, .int y128_l6), (7, .int y128_l7)]) hl [0, 1, 2, 3, 4, 5, 6, 7] rfl)
        · have g18624 : Rg 1 1 y128_l6 := rg_ne_lo (k := 0) g128_l6 (by decide) c18622 (by decide)
          refine lv_iload hx hb dX12_copy_140 (lv_at hl 5 rfl) ?_
          refine lv_iconst (v := 1) hx hb dX12_copy_142 (by decide) ?_
          refine wk_isub (e := 0) (f := 39) hx hb dX12_copy_143 g18620 (by decide : Rg 1 1 (1 : Int32)) (by decide) (fun r18625 hr18625 er18625 qr18625 => ?_)
          refine lv_iload hx hb dX12_copy_144 (lv_at hl 7 rfl) ?_
          refine wk_isub (e := (-39)) (f := 39) hx hb dX12_copy_146 hr18625 g18621 (by decide) (fun r18626 hr18626 er18626 qr18626 => ?_)
          refine lv_goto (tgt := 152) hx hb dX12_copy_147 (by decide) ?_
          exact ct152 r18626 v _ _ ls g128_l1 g128_l2 g128_l3 g128_l4 g18620 (rg_w g18624 (by decide) (by decide)) g18621 (rg_w hr18626 (by decide) (by decide)) (by exact x128_0) (by have z1 := (lz_lt _ _).mp (rg_nle c18619); have z2 := g128_l7.1; have z3 := er18626; have z4 := er18625; have z5 : (1 : Int32).toInt = 1 := (by decide); exact ⟨by omega, by omega⟩) hV hP hD hS (lv_sub (l' := [(0, .ref (b 0)), (1, .int x0), (2, .int x1), (3, .int x2), (4, .int x3), (5, .int x4), (6, .int y128_l6), (7, .int y128_l7)]) hl [0, 1, 2, 3, 4, 5, 6, 7] rfl)
  refine lv_iload_n hx hb dX12_copy_0 rfl (lv_at hl 1 rfl) ?_
  refine lz_ss (As := [.int x0]) (rest := []) ⟨hx, hb, hml, hown, hts⟩ (w_X12_isSheet l D cI cS x0) hKK (hP.sub (ws' := []) [] rfl) (va_cwS 1 hts gX12_copy_X12_isSheet rfl rfl rfl (by decide +kernel) ⟨Nat.le_of_ble_eq_true rfl, Nat.le_of_ble_eq_true rfl⟩) rfl hl.1 rfl (Nat.le_of_ble_eq_true rfl) dX12_copy_1 ⟨Nat.le_of_ble_eq_true rfl, Nat.le_of_ble_eq_true rfl⟩ (fun r18627 hr18627 => ?_)
  refine lv_if_eq (tgt := 14) hx hb dX12_copy_4 (by decide) (fun c18628 => ?_) (fun c18628 => ?_)
  · have g18629 : Rg 0 0 r18627 := wk_eql hr18627.1 (by decide : Rg 0 0 (0 : Int32)) c18628 (by decide)
    refine lv_bipush (v := (-2)) hx hb dX12_copy_14 (by decide) ?_
    subst hAe
    exact W.iret (v := (-2)) hx hb hr (fun t ht hW => ⟨⟨_, v, rfl, ⟨hV, (by decide : Rg (-13) 40 ((-2) : Int32)), trivial⟩, by rw [ht]; exact hP, hD⟩, hS.F ht⟩) hS.2.2 dX12_copy_16
  · have g18630 : Rg 0 3 x0 := (hr18627.2 c18628)
    have g18631 : Rg 1 1 r18627 := rg_ne_lo (k := 0) hr18627.1 (by decide) c18628 (by decide)
    refine lv_iload_n hx hb dX12_copy_7 rfl (lv_at hl 3 rfl) ?_
    refine lz_ss (As := [.int x2]) (rest := []) ⟨hx, hb, hml, hown, hts⟩ (w_X12_isSheet l D cI cS x2) hKK (hP.sub (ws' := []) [] rfl) (va_cwS 1 hts gX12_copy_X12_isSheet rfl rfl rfl (by decide +kernel) ⟨Nat.le_of_ble_eq_true rfl, Nat.le_of_ble_eq_true rfl⟩) rfl hl.1 rfl (Nat.le_of_ble_eq_true rfl) dX12_copy_8 ⟨Nat.le_of_ble_eq_true rfl, Nat.le_of_ble_eq_true rfl⟩ (fun r18632 hr18632 => ?_)
    refine lv_if_ne (tgt := 17) hx hb dX12_copy_11 (by decide) (fun c18633 => ?_) (fun c18633 => ?_)
    · have g18634 : Rg 0 3 x2 := (hr18632.2 c18633)
      have g18635 : Rg 1 1 r18632 := rg_ne_lo (k := 0) hr18632.1 (by decide) c18633 (by decide)
      refine lv_aload_n hx hb dX12_copy_17 rfl (lv_at hl 0 rfl) ?_
      refine va_get (D := D) (ci := 12) (v := .ref (b 9)) (C := RX12) (T := TX12) (N := 24) hx hb hts hin12 hown hK hP 0 rfl rfl 16 (by decide) (hts (.fieldLink RX12 38 "MissedPointsModel" "sort" "[I") (by decide +kernel)) (fun _ h9 => h9) rfl dX12_copy_18 ?_
      refine lv_iload_n hx hb dX12_copy_21 rfl (lv_at hl 1 rfl) ?_
      refine wk_ald hx hb hK hP 9 0 rfl rfl (rg_in g18630 (by decide) (by decide)) dX12_copy_22 hL.2.2.1 (fun r18636 hr18636 => ?_)
      refine lv_iconst (v := (-1)) hx hb dX12_copy_23 (by decide) ?_
      refine lv_icmp_eq (tgt := 37) hx hb dX12_copy_24 (by decide) (fun c18637 => ?_) (fun c18637 => ?_)
      · have g18638 : Rg (-1) (-1) r18636 := wk_eql hr18636 (by decide : Rg (-1) (-1) ((-1) : Int32)) c18637 (by decide)
        refine lv_bipush (v := (-11)) hx hb dX12_copy_37 (by decide) ?_
        subst hAe
        exact W.iret (v := (-11)) hx hb hr (fun t ht hW => ⟨⟨_, v, rfl, ⟨hV, (by decide : Rg (-13) 40 ((-11) : Int32)), trivial⟩, by rw [ht]; exact hP, hD⟩, hS.F ht⟩) hS.2.2 dX12_copy_39
      · have g18639 : Rg 0 1 r18636 := rg_ne_lo (k := (-1)) hr18636 (by decide) c18637 (by decide)
        refine lv_aload_n hx hb dX12_copy_27 rfl (lv_at hl 0 rfl) ?_
        refine va_get (D := D) (ci := 12) (v := .ref (b 9)) (C := RX12) (T := TX12) (N := 24) hx hb hts hin12 hown hK hP 0 rfl rfl 16 (by decide) (hts (.fieldLink RX12 38 "MissedPointsModel" "sort" "[I") (by decide +kernel)) (fun _ h9 => h9) rfl dX12_copy_28 ?_
        refine lv_iload_n hx hb dX12_copy_31 rfl (lv_at hl 3 rfl) ?_
        refine wk_ald hx hb hK hP 9 0 rfl rfl (rg_in g18634 (by decide) (by decide)) dX12_copy_32 hL.2.2.1 (fun r18640 hr18640 => ?_)
        refine lv_iconst (v := (-1)) hx hb dX12_copy_33 (by decide) ?_
        refine lv_icmp_ne (tgt := 40) hx hb dX12_copy_34 (by decide) (fun c18641 => ?_) (fun c18641 => ?_)
        · have g18642 : Rg 0 1 r18640 := rg_ne_lo (k := (-1)) hr18640 (by decide) c18641 (by decide)
          refine lv_aload_n hx hb dX12_copy_40 rfl (lv_at hl 0 rfl) ?_
          refine va_get (D := D) (ci := 12) (v := .ref (b 9)) (C := RX12) (T := TX12) (N := 24) hx hb hts hin12 hown hK hP 0 rfl rfl 16 (by decide) (hts (.fieldLink RX12 38 "MissedPointsModel" "sort" "[I") (by decide +kernel)) (fun _ h9 => h9) rfl dX12_copy_41 ?_
          refine lv_iload_n hx hb dX12_copy_44 rfl (lv_at hl 1 rfl) ?_
          refine wk_ald hx hb hK hP 9 0 rfl rfl (rg_in g18630 (by decide) (by decide)) dX12_copy_45 hL.2.2.1 (fun r18643 hr18643 => ?_)
          refine lv_aload_n hx hb dX12_copy_46 rfl (lv_at hl 0 rfl) ?_
          refine va_get (D := D) (ci := 12) (v := .ref (b 9)) (C := RX12) (T := TX12) (N := 24) hx hb hts hin12 hown hK hP 0 rfl rfl 16 (by decide) (hts (.fieldLink RX12 38 "MissedPointsModel" "sort" "[I") (by decide +kernel)) (fun _ h9 => h9) rfl dX12_copy_47 ?_
          refine lv_iload_n hx hb dX12_copy_50 rfl (lv_at hl 3 rfl) ?_
          refine wk_ald hx hb hK hP 9 0 rfl rfl (rg_in g18634 (by decide) (by decide)) dX12_copy_51 hL.2.2.1 (fun r18644 hr18644 => ?_)
          refine lv_icmp_eq (tgt := 58) hx hb dX12_copy_52 (by decide) (fun c18645 => ?_) (fun c18645 => ?_)
          · refine lv_iload hx hb dX12_copy_58 (lv_at hl 5 rfl) ?_
            refine lv_if_lt (tgt := 99) hx hb dX12_copy_60 (by decide) (fun c18646 => ?_) (fun c18646 => ?_)
            · have g18647 : Rg (-2147483648) (-1) x4 := rg_ltl (rg_any x4) (by decide : Rg 0 0 (0 : Int32)) c18646 (by decide)
              refine lv_bipush (v := (-12)) hx hb dX12_copy_99 (by decide) ?_
              subst hAe
              exact W.iret (v := (-12)) hx hb hr (fun t ht hW => ⟨⟨_, v, rfl, ⟨hV, (by decide : Rg (-13) 40 ((-12) : Int32)), trivial⟩, by rw [ht]; exact hP, hD⟩, hS.F ht⟩) hS.2.2 dX12_copy_101
            · have g18648 : Rg 0 2147483647 x4 := rg_ler (by decide : Rg 0 0 (0 : Int32)) (rg_any x4) (rg_nlt c18646) (by decide)
              refine lv_iload_n hx hb dX12_copy_63 rfl (lv_at hl 2 rfl) ?_
              refine lv_if_lt (tgt := 99) hx hb dX12_copy_64 (by decide) (fun c18649 => ?_) (fun c18649 => ?_)
              · have g18650 : Rg (-2147483648) (-1) x1 := rg_ltl (rg_any x1) (by decide : Rg 0 0 (0 : Int32)) c18649 (by decide)
                refine lv_bipush (v := (-12)) hx hb dX12_copy_99 (by decide) ?_
                subst hAe
                exact W.iret (v := (-12)) hx hb hr (fun t ht hW => ⟨⟨_, v, rfl, ⟨hV, (by decide : Rg (-13) 40 ((-12) : Int32)), trivial⟩, by rw [ht]; exact hP, hD⟩, hS.F ht⟩) hS.2.2 dX12_copy_101
              · have g18651 : Rg 0 2147483647 x1 := rg_ler (by decide : Rg 0 0 (0 : Int32)) (rg_any x1) (rg_nlt c18649) (by decide)
                refine lv_iload hx hb dX12_copy_67 (lv_at hl 4 rfl) ?_
                refine lv_if_lt (tgt := 99) hx hb dX12_copy_69 (by decide) (fun c18652 => ?_) (fun c18652 => ?_)
                · have g18653 : Rg (-2147483648) (-1) x3 := rg_ltl (rg_any x3) (by decide : Rg 0 0 (0 : Int32)) c18652 (by decide)
                  refine lv_bipush (v := (-12)) hx hb dX12_copy_99 (by decide) ?_
                  subst hAe
                  exact W.iret (v := (-12)) hx hb hr (fun t ht hW => ⟨⟨_, v, rfl, ⟨hV, (by decide : Rg (-13) 40 ((-12) : Int32)), trivial⟩, by rw [ht]; exact hP, hD⟩, hS.F ht⟩) hS.2.2 dX12_copy_101
                · have g18654 : Rg 0 2147483647 x3 := rg_ler (by decide : Rg 0 0 (0 : Int32)) (rg_any x3) (rg_nlt c18652) (by decide)
                  refine lv_iload_n hx hb dX12_copy_72 rfl (lv_at hl 2 rfl) ?_
                  refine lv_aload_n hx hb dX12_copy_73 rfl (lv_at hl 0 rfl) ?_
                  refine va_get (D := D) (ci := 12) (v := .ref (b 10)) (C := RX12) (T := TX12) (N := 24) hx hb hts hin12 hown hK hP 0 rfl rfl 17 (by decide) (hts (.fieldLink RX12 41 "MissedPointsModel" "size" "[I") (by decide +kernel)) (fun _ h9 => h9) rfl dX12_copy_74 ?_
                  refine lv_iload_n hx hb dX12_copy_77 rfl (lv_at hl 1 rfl) ?_
                  refine wk_ald hx hb hK hP 10 0 rfl rfl (rg_in g18630 (by decide) (by decide)) dX12_copy_78 hL.2.2.2.1 (fun r18655 hr18655 => ?_)
                  refine lv_iload hx hb dX12_copy_79 (lv_at hl 5 rfl) ?_
                  refine wk_isub (e := (-2147483647)) (f := 40) hx hb dX12_copy_81 hr18655 g18648 (by decide) (fun r18656 hr18656 er18656 qr18656 => ?_)
                  refine lv_icmp_gt (tgt := 99) hx hb dX12_copy_82 (by decide) (fun c18657 => ?_) (fun c18657 => ?_)
                  · refine lv_bipush (v := (-12)) hx hb dX12_copy_99 (by decide) ?_
                    subst hAe
                    exact W.iret (v := (-12)) hx hb hr (fun t ht hW => ⟨⟨_, v, rfl, ⟨hV, (by decide : Rg (-13) 40 ((-12) : Int32)), trivial⟩, by rw [ht]; exact hP, hD⟩, hS.F ht⟩) hS.2.2 dX12_copy_101
                  · have g18658 : Rg 0 40 r18656 := rg_ler g18651 hr18656 (rg_nlt c18657) (by decide)
                    have g18659 : Rg 0 40 x1 := rg_lel g18651 hr18656 (rg_nlt c18657) (by decide)
                    refine lv_iload hx hb dX12_copy_85 (lv_at hl 4 rfl) ?_
                    refine lv_aload_n hx hb dX12_copy_87 rfl (lv_at hl 0 rfl) ?_
                    refine va_get (D := D) (ci := 12) (v := .ref (b 10)) (C := RX12) (T := TX12) (N := 24) hx hb hts hin12 hown hK hP 0 rfl rfl 17 (by decide) (hts (.fieldLink RX12 41 "MissedPointsModel" "size" "[I") (by decide +kernel)) (fun _ h9 => h9) rfl dX12_copy_88 ?_
                    refine lv_iload_n hx hb dX12_copy_91 rfl (lv_at hl 3 rfl) ?_
                    refine wk_ald hx hb hK hP 10 0 rfl rfl (rg_in g18634 (by decide) (by decide)) dX12_copy_92 hL.2.2.2.1 (fun r18660 hr18660 => ?_)
                    refine lv_iload hx hb dX12_copy_93 (lv_at hl 5 rfl) ?_
                    refine wk_isub (e := (-2147483647)) (f := 40) hx hb dX12_copy_95 hr18660 g18648 (by decide) (fun r18661 hr18661 er18661 qr18661 => ?_)
                    refine lv_icmp_le (tgt := 102) hx hb dX12_copy_96 (by decide) (fun c18662 => ?_) (fun c18662 => ?_)
                    · have g18663 : Rg 0 40 x3 := rg_lel g18654 hr18661 c18662 (by decide)
                      have g18664 : Rg 0 40 r18661 := rg_ler g18654 hr18661 c18662 (by decide)
                      have z18665 : x1.toInt + x4.toInt ≤ 40 := by have z1 := (lz_le _ _).mp (rg_nlt c18657); have z2 := er18656; have z3 := hr18655; omega
                      have z18666 : x3.toInt + x4.toInt ≤ 40 := by have z1 := (lz_le _ _).mp c18662; have z2 := er18661; have z3 := hr18660; omega
                      have g18667 : Rg 0 40 x4 := ⟨g18648.1, by have z1 := z18665; have z2 := z18666; have z3 := g18648; have z4 := g18659; have z5 := g18663; omega⟩
                      have g18668 : Rg 0 40 x1 := ⟨g18659.1, by have z1 := z18665; have z2 := z18666; have z3 := g18667; have z4 := g18659; have z5 := g18663; omega⟩
                      have g18669 : Rg 0 40 x3 := ⟨g18663.1, by have z1 := z18665; have z2 := z18666; have z3 := g18667; have z4 := g18668; have z5 := g18663; omega⟩
                      refine lv_bipush (v := 40) hx hb dX12_copy_102 (by decide) ?_
                      refine lv_iload_n hx hb dX12_copy_104 rfl (lv_at hl 1 rfl) ?_
                      refine wk_imul (f := 120) hx hb dX12_copy_105 (by decide : Rg 0 40 (40 : Int32)) g18630 (by decide) (fun r18670 hr18670 er18670 qr18670 => ?_)
                      refine lv_iload_n hx hb dX12_copy_106 rfl (lv_at hl 2 rfl) ?_
                      refine wk_iadd (e := 0) (f := 160) hx hb dX12_copy_107 hr18670 g18668 (by decide) (fun r18671 hr18671 er18671 qr18671 => ?_)
                      refine lv_bipush (v := 40) hx hb dX12_copy_108 (by decide) ?_
                      refine lv_iload_n hx hb dX12_copy_110 rfl (lv_at hl 3 rfl) ?_
                      refine wk_imul (f := 120) hx hb dX12_copy_111 (by decide : Rg 0 40 (40 : Int32)) g18634 (by decide) (fun r18672 hr18672 er18672 qr18672 => ?_)
                      refine lv_iload hx hb dX12_copy_112 (lv_at hl 4 rfl) ?_
                      refine wk_iadd (e := 0) (f := 160) hx hb dX12_copy_114 hr18672 g18669 (by decide) (fun r18673 hr18673 er18673 qr18673 => ?_)
                      refine lv_icmp_ge (tgt := 122) hx hb dX12_copy_115 (by decide) (fun c18674 => ?_) (fun c18674 => ?_)
                      · refine lv_iconst (v := 0) hx hb dX12_copy_122 (by decide) ?_
                        refine lv_istore (lv' := [(6, .int 0), (0, .ref (b 0)), (1, .int x0), (2, .int x1), (3, .int x2), (4, .int x3), (5, .int x4)]) hx hb dX12_copy_123 hl (by decide) rfl (fun ls hl => ?_)
                        refine lv_iconst (v := 0) hx hb dX12_copy_125 (by decide) ?_
                        refine lv_istore (lv' := [(7, .int 0), (6, .int 0), (0, .ref (b 0)), (1, .int x0), (2, .int x1), (3, .int x2), (4, .int x3), (5, .int x4)]) hx hb dX12_copy_126 hl (by decide) rfl (fun ls hl => ?_)
                        exact lp128 41 (0 : Int32) (0 : Int32) v _ _ ls g18630 g18668 g18634 g18669 g18667 (by decide : Rg 0 1 (0 : Int32)) (by decide : Rg 0 40 (0 : Int32)) (by exact ⟨z18665, z18666⟩) hV hP hD hS (lv_sub (l' := [(0, .ref (b 0)), (1, .int x0), (2, .int x1), (3, .int x2), (4, .int x3), (5, .int x4), (6, .int 0), (7, .int 0)]) hl [2, 3, 4, 5, 6, 7, 1, 0] rfl) (me_i (by decide : Rg 0 40 (0 : Int32)) (by decide))
                      · have g18675 : Rg 1 160 r18673 := rg_ltr hr18671 hr18673 (rg_nle c18674) (by decide)
                        have g18676 : Rg 0 159 r18671 := rg_ltl hr18671 hr18673 (rg_nle c18674) (by decide)
                        refine lv_iconst (v := 1) hx hb dX12_copy_118 (by decide) ?_
                        refine lv_goto (tgt := 123) hx hb dX12_copy_119 (by decide) ?_
                        refine lv_istore (lv' := [(6, .int 1), (0, .ref (b 0)), (1, .int x0), (2, .int x1), (3, .int x2), (4, .int x3), (5, .int x4)]) hx hb dX12_copy_123 hl (by decide) rfl (fun ls hl => ?_)
                        refine lv_iconst (v := 0) hx hb dX12_copy_125 (by decide) ?_
                        refine lv_istore (lv' := [(7, .int 0), (6, .int 1), (0, .ref (b 0)), (1, .int x0), (2, .int x1), (3, .int x2), (4, .int x3), (5, .int x4)]) hx hb dX12_copy_126 hl (by decide) rfl (fun ls hl => ?_)
                        exact lp128 41 (1 : Int32) (0 : Int32) v _ _ ls g18630 g18668 g18634 g18669 g18667 (by decide : Rg 0 1 (1 : Int32)) (by decide : Rg 0 40 (0 : Int32)) (by exact ⟨z18665, z18666⟩) hV hP hD hS (lv_sub (l' := [(0, .ref (b 0)), (1, .int x0), (2, .int x1), (3, .int x2), (4, .int x3), (5, .int x4), (6, .int 1), (7, .int 0)]) hl [2, 3, 4, 5, 6, 7, 1, 0] rfl) (me_i (by decide : Rg 0 40 (0 : Int32)) (by decide))
                    · refine lv_bipush (v := (-12)) hx hb dX12_copy_99 (by decide) ?_
                      subst hAe
                      exact W.iret (v := (-12)) hx hb hr (fun t ht hW => ⟨⟨_, v, rfl, ⟨hV, (by decide : Rg (-13) 40 ((-12) : Int32)), trivial⟩, by rw [ht]; exact hP, hD⟩, hS.F ht⟩) hS.2.2 dX12_copy_101
          · refine lv_bipush (v := (-13)) hx hb dX12_copy_55 (by decide) ?_
            subst hAe
            exact W.iret (v := (-13)) hx hb hr (fun t ht hW => ⟨⟨_, v, rfl, ⟨hV, (by decide : Rg (-13) 40 ((-13) : Int32)), trivial⟩, by rw [ht]; exact hP, hD⟩, hS.F ht⟩) hS.2.2 dX12_copy_57
        · have g18677 : Rg (-1) (-1) r18640 := wk_eql hr18640 (by decide : Rg (-1) (-1) ((-1) : Int32)) c18641 (by decide)
          refine lv_bipush (v := (-11)) hx hb dX12_copy_37 (by decide) ?_
          subst hAe
          exact W.iret (v := (-11)) hx hb hr (fun t ht hW => ⟨⟨_, v, rfl, ⟨hV, (by decide : Rg (-13) 40 ((-11) : Int32)), trivial⟩, by rw [ht]; exact hP, hD⟩, hS.F ht⟩) hS.2.2 dX12_copy_39
    · have g18678 : Rg 0 0 r18632 := wk_eql hr18632.1 (by decide : Rg 0 0 (0 : Int32)) c18633 (by decide)
      refine lv_bipush (v := (-2)) hx hb dX12_copy_14 (by decide) ?_
      subst hAe
      exact W.iret (v := (-2)) hx hb hr (fun t ht hW => ⟨⟨_, v, rfl, ⟨hV, (by decide : Rg (-13) 40 ((-2) : Int32)), trivial⟩, by rw [ht]; exact hP, hD⟩, hS.F ht⟩) hS.2.2 dX12_copy_16
