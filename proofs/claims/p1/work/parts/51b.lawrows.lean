theorem dL_law_342 : decode cL_law 342 = .ok (.invokevirtual 31, 3) := by decide +kernel
theorem dL_law_345 : decode cL_law 345 = .ok (.aload_n 2, 1) := by decide +kernel
theorem dL_law_346 : decode cL_law 346 = .ok (.aload_n 0, 1) := by decide +kernel
theorem dL_law_347 : decode cL_law 347 = .ok (.iload_n 3, 1) := by decide +kernel
theorem dL_law_348 : decode cL_law 348 = .ok (.iconst 1, 1) := by decide +kernel
theorem dL_law_349 : decode cL_law 349 = .ok (.iadd, 1) := by decide +kernel
theorem dL_law_350 : decode cL_law 350 = .ok (.iaload, 1) := by decide +kernel
theorem dL_law_351 : decode cL_law 351 = .ok (.invokevirtual 34, 3) := by decide +kernel
theorem dL_law_354 : decode cL_law 354 = .ok (.if_icmp .eq 1132, 3) := by decide +kernel
set_option maxRecDepth 20000 in
theorem ggL_law_X11_mate : GoodIn wsL_law wsX11_mate := goodIn_r _ (350 :: 15 :: 48 :: 211 :: 179 :: 180 :: 14 :: 181 :: 157 :: 351 :: 352 :: 353 :: 47 :: 354 :: 118 :: 114 :: 355 :: 356 :: 357 :: 18 :: 358 :: 70 :: 359 :: 236 :: 237 :: 238 :: 360 :: 361 :: 362 :: 363 :: 364 :: 213 :: 214 :: 215 :: 60 :: 178 :: 274 :: 240 :: 241 :: 242 :: 243 :: 244 :: 245 :: 246 :: 247 :: 68 :: 69 :: 248 :: 249 :: 250 :: 67 :: 251 :: 75 :: 80 :: 252 :: 253 :: 254 :: 255 :: 256 :: 257 :: 230 :: 258 :: 259 :: 260 :: 261 :: 262 :: 263 :: 264 :: 265 :: 229 :: 231 :: 232 :: 233 :: 234 :: 266 :: 267 :: 268 :: 269 :: 365 :: 366 :: 367 :: 368 :: 1181 :: 1182 :: 1183 :: 1184 :: 1185 :: 1186 :: 1187 :: 1188 :: 1189 :: 1190 :: 1191 :: 1192 :: 1193 :: 1194 :: 1195 :: 1196 :: 1221 :: 1222 :: 1223 :: 1249 :: 1250 :: 1251 :: 1252 :: 1253 :: 1254 :: 1224 :: 1225 :: 1226 :: 1227 :: 1260 :: 1261 :: []) (by decide +kernel) (by decide +kernel)
set_option maxRecDepth 20000 in
theorem gL_law_X11_mate : GoodIn wsL_law (wsV RL 35 RX11 yX11_mate wsX11_mate) := goodIn_app (goodIn_of _ (by decide +kernel)) ggL_law_X11_mate
set_option maxRecDepth 20000 in
theorem ggL_law_X12_mate : GoodIn wsL_law wsX12_mate := goodIn_r _ (372 :: 138 :: 199 :: 200 :: 201 :: 5 :: 202 :: 166 :: 167 :: 168 :: 169 :: 373 :: 374 :: 375 :: 376 :: 305 :: 306 :: 307 :: 308 :: 136 :: 135 :: 134 :: 309 :: 310 :: 311 :: 312 :: 313 :: 314 :: 315 :: 316 :: 317 :: 318 :: 377 :: 378 :: 379 :: 380 :: 1197 :: 1198 :: 1199 :: 1200 :: 1201 :: 1202 :: 1203 :: 1204 :: 1205 :: 1206 :: 1207 :: 1208 :: 1209 :: 1210 :: 1211 :: 1212 :: 1213 :: 1214 :: 1215 :: 1216 :: 1217 :: 1218 :: 1219 :: 1220 :: []) (by decide +kernel) (by decide +kernel)
set_option maxRecDepth 20000 in
theorem gL_law_X12_mate : GoodIn wsL_law (wsV RL 38 RX12 yX12_mate wsX12_mate) := goodIn_app (goodIn_of _ (by decide +kernel)) ggL_law_X12_mate
theorem dL_law_359 : decode cL_law 359 = .ok (.aload_n 1, 1) := by decide +kernel
theorem dL_law_360 : decode cL_law 360 = .ok (.aload_n 0, 1) := by decide +kernel
theorem dL_law_361 : decode cL_law 361 = .ok (.iload_n 3, 1) := by decide +kernel
theorem dL_law_362 : decode cL_law 362 = .ok (.iconst 1, 1) := by decide +kernel
theorem dL_law_363 : decode cL_law 363 = .ok (.iadd, 1) := by decide +kernel
theorem dL_law_364 : decode cL_law 364 = .ok (.iaload, 1) := by decide +kernel
theorem dL_law_365 : decode cL_law 365 = .ok (.invokevirtual 35, 3) := by decide +kernel
theorem dL_law_368 : decode cL_law 368 = .ok (.aload_n 2, 1) := by decide +kernel
theorem dL_law_369 : decode cL_law 369 = .ok (.aload_n 0, 1) := by decide +kernel
theorem dL_law_370 : decode cL_law 370 = .ok (.iload_n 3, 1) := by decide +kernel
theorem dL_law_371 : decode cL_law 371 = .ok (.iconst 1, 1) := by decide +kernel
theorem dL_law_372 : decode cL_law 372 = .ok (.iadd, 1) := by decide +kernel
theorem dL_law_373 : decode cL_law 373 = .ok (.iaload, 1) := by decide +kernel
theorem dL_law_374 : decode cL_law 374 = .ok (.invokevirtual 38, 3) := by decide +kernel
theorem dL_law_377 : decode cL_law 377 = .ok (.if_icmp .eq 1109, 3) := by decide +kernel
set_option maxRecDepth 20000 in
theorem ggL_law_X11_ways : GoodIn wsL_law wsX11_ways := goodIn_r _ (384 :: 19 :: 15 :: 235 :: 236 :: 237 :: 14 :: 238 :: 157 :: 385 :: 386 :: 387 :: 18 :: 388 :: 69 :: 65 :: 66 :: 67 :: 243 :: 244 :: 245 :: 246 :: 247 :: 70 :: 68 :: 248 :: 249 :: 250 :: 251 :: 75 :: 80 :: 389 :: 390 :: 391 :: 392 :: 71 :: 72 :: 73 :: 74 :: 10 :: 11 :: 76 :: 77 :: 78 :: 79 :: 59 :: 393 :: 394 :: 395 :: 396 :: 256 :: 257 :: 230 :: 258 :: 259 :: 265 :: 229 :: 231 :: 232 :: 233 :: 234 :: 260 :: 261 :: 262 :: 263 :: 264 :: 266 :: 267 :: 268 :: 269 :: 1181 :: 1182 :: 1183 :: 1184 :: 1185 :: 1186 :: 1187 :: 1188 :: 1189 :: 1190 :: 1191 :: 1192 :: 1193 :: 1194 :: 1195 :: 1196 :: 1221 :: 1222 :: 1223 :: 1224 :: 1225 :: 1226 :: 1227 :: 1260 :: 1261 :: []) (by decide +kernel) (by decide +kernel)
set_option maxRecDepth 20000 in
theorem gL_law_X11_ways : GoodIn wsL_law (wsV RL 39 RX11 yX11_ways wsX11_ways) := goodIn_app (goodIn_of _ (by decide +kernel)) ggL_law_X11_ways
set_option maxRecDepth 20000 in
theorem ggL_law_X12_ways : GoodIn wsL_law wsX12_ways := goodIn_r _ (400 :: 137 :: 166 :: 134 :: 167 :: 168 :: 5 :: 169 :: 309 :: 310 :: 311 :: 312 :: 313 :: 314 :: 315 :: 316 :: 317 :: 318 :: 1197 :: 1198 :: 1199 :: 1200 :: 1201 :: 1202 :: 1203 :: 1204 :: 1205 :: 1206 :: 1207 :: 1208 :: 1209 :: 1210 :: 1211 :: 1212 :: 1213 :: 1214 :: 1215 :: 1216 :: 1217 :: 1218 :: 1219 :: 1220 :: []) (by decide +kernel) (by decide +kernel)
set_option maxRecDepth 20000 in
theorem gL_law_X12_ways : GoodIn wsL_law (wsV RL 42 RX12 yX12_ways wsX12_ways) := goodIn_app (goodIn_of _ (by decide +kernel)) ggL_law_X12_ways
theorem dL_law_382 : decode cL_law 382 = .ok (.aload_n 1, 1) := by decide +kernel
theorem dL_law_383 : decode cL_law 383 = .ok (.aload_n 0, 1) := by decide +kernel
theorem dL_law_384 : decode cL_law 384 = .ok (.iload_n 3, 1) := by decide +kernel
theorem dL_law_385 : decode cL_law 385 = .ok (.iconst 1, 1) := by decide +kernel
theorem dL_law_386 : decode cL_law 386 = .ok (.iadd, 1) := by decide +kernel
theorem dL_law_387 : decode cL_law 387 = .ok (.iaload, 1) := by decide +kernel
theorem dL_law_388 : decode cL_law 388 = .ok (.invokevirtual 39, 3) := by decide +kernel
theorem dL_law_391 : decode cL_law 391 = .ok (.aload_n 2, 1) := by decide +kernel
theorem dL_law_392 : decode cL_law 392 = .ok (.aload_n 0, 1) := by decide +kernel
theorem dL_law_393 : decode cL_law 393 = .ok (.iload_n 3, 1) := by decide +kernel
theorem dL_law_394 : decode cL_law 394 = .ok (.iconst 1, 1) := by decide +kernel
theorem dL_law_395 : decode cL_law 395 = .ok (.iadd, 1) := by decide +kernel
theorem dL_law_396 : decode cL_law 396 = .ok (.iaload, 1) := by decide +kernel
theorem dL_law_397 : decode cL_law 397 = .ok (.invokevirtual 42, 3) := by decide +kernel
theorem dL_law_400 : decode cL_law 400 = .ok (.if_icmp .eq 1086, 3) := by decide +kernel
set_option maxRecDepth 20000 in
theorem ggL_law_X11_alone : GoodIn wsL_law wsX11_alone := goodIn_r _ (404 :: 15 :: 19 :: 211 :: 179 :: 180 :: 14 :: 181 :: 157 :: 235 :: 236 :: 237 :: 238 :: 239 :: 240 :: 241 :: 18 :: 242 :: 243 :: 244 :: 245 :: 246 :: 247 :: 70 :: 68 :: 69 :: 248 :: 249 :: 250 :: 67 :: 251 :: 75 :: 80 :: 252 :: 253 :: 254 :: 255 :: 256 :: 257 :: 230 :: 258 :: 259 :: 260 :: 261 :: 262 :: 263 :: 264 :: 265 :: 229 :: 231 :: 232 :: 233 :: 234 :: 266 :: 267 :: 268 :: 269 :: 385 :: 386 :: 387 :: 388 :: 65 :: 66 :: 389 :: 390 :: 391 :: 392 :: 71 :: 72 :: 73 :: 74 :: 10 :: 11 :: 76 :: 77 :: 78 :: 79 :: 59 :: 393 :: 394 :: 395 :: 396 :: 405 :: 406 :: 2 :: 407 :: 1181 :: 1182 :: 1183 :: 1184 :: 1185 :: 1186 :: 1187 :: 1188 :: 1189 :: 1190 :: 1191 :: 1192 :: 1193 :: 1194 :: 1195 :: 1196 :: 1221 :: 1222 :: 1223 :: 1224 :: 1225 :: 1226 :: 1227 :: 1260 :: 1261 :: []) (by decide +kernel) (by decide +kernel)
set_option maxRecDepth 20000 in
theorem gL_law_X11_alone : GoodIn wsL_law (wsV RL 43 RX11 yX11_alone wsX11_alone) := goodIn_app (goodIn_of _ (by decide +kernel)) ggL_law_X11_alone
set_option maxRecDepth 20000 in
theorem ggL_law_X12_alone : GoodIn wsL_law wsX12_alone := goodIn_r _ (411 :: 136 :: 199 :: 200 :: 201 :: 5 :: 202 :: 166 :: 167 :: 168 :: 169 :: 305 :: 306 :: 307 :: 308 :: 135 :: 134 :: 309 :: 310 :: 311 :: 312 :: 313 :: 314 :: 315 :: 316 :: 317 :: 318 :: 412 :: 413 :: 414 :: 415 :: 416 :: 417 :: 418 :: 1197 :: 1198 :: 1199 :: 1200 :: 1201 :: 1202 :: 1203 :: 1204 :: 1205 :: 1206 :: 1207 :: 1208 :: 1209 :: 1210 :: 1211 :: 1212 :: 1213 :: 1214 :: 1215 :: 1216 :: 1217 :: 1218 :: 1219 :: 1220 :: []) (by decide +kernel) (by decide +kernel)
set_option maxRecDepth 20000 in
theorem gL_law_X12_alone : GoodIn wsL_law (wsV RL 47 RX12 yX12_alone wsX12_alone) := goodIn_app (goodIn_of _ (by decide +kernel)) ggL_law_X12_alone
theorem dL_law_405 : decode cL_law 405 = .ok (.aload_n 1, 1) := by decide +kernel
theorem dL_law_406 : decode cL_law 406 = .ok (.aload_n 0, 1) := by decide +kernel
theorem dL_law_407 : decode cL_law 407 = .ok (.iload_n 3, 1) := by decide +kernel
theorem dL_law_408 : decode cL_law 408 = .ok (.iconst 1, 1) := by decide +kernel
theorem dL_law_409 : decode cL_law 409 = .ok (.iadd, 1) := by decide +kernel
theorem dL_law_410 : decode cL_law 410 = .ok (.iaload, 1) := by decide +kernel
theorem dL_law_411 : decode cL_law 411 = .ok (.aload_n 0, 1) := by decide +kernel
theorem dL_law_412 : decode cL_law 412 = .ok (.iload_n 3, 1) := by decide +kernel
theorem dL_law_413 : decode cL_law 413 = .ok (.iconst 2, 1) := by decide +kernel
theorem dL_law_414 : decode cL_law 414 = .ok (.iadd, 1) := by decide +kernel
theorem dL_law_415 : decode cL_law 415 = .ok (.iaload, 1) := by decide +kernel
theorem dL_law_416 : decode cL_law 416 = .ok (.invokevirtual 43, 3) := by decide +kernel
theorem dL_law_419 : decode cL_law 419 = .ok (.aload_n 2, 1) := by decide +kernel
theorem dL_law_420 : decode cL_law 420 = .ok (.aload_n 0, 1) := by decide +kernel
theorem dL_law_421 : decode cL_law 421 = .ok (.iload_n 3, 1) := by decide +kernel
theorem dL_law_422 : decode cL_law 422 = .ok (.iconst 1, 1) := by decide +kernel
theorem dL_law_423 : decode cL_law 423 = .ok (.iadd, 1) := by decide +kernel
theorem dL_law_424 : decode cL_law 424 = .ok (.iaload, 1) := by decide +kernel
theorem dL_law_425 : decode cL_law 425 = .ok (.aload_n 0, 1) := by decide +kernel
theorem dL_law_426 : decode cL_law 426 = .ok (.iload_n 3, 1) := by decide +kernel
theorem dL_law_427 : decode cL_law 427 = .ok (.iconst 2, 1) := by decide +kernel
theorem dL_law_428 : decode cL_law 428 = .ok (.iadd, 1) := by decide +kernel
theorem dL_law_429 : decode cL_law 429 = .ok (.iaload, 1) := by decide +kernel
theorem dL_law_430 : decode cL_law 430 = .ok (.invokevirtual 47, 3) := by decide +kernel
theorem dL_law_433 : decode cL_law 433 = .ok (.if_icmp .eq 1053, 3) := by decide +kernel
set_option maxRecDepth 20000 in
theorem ggL_law_X11_mark : GoodIn wsL_law wsX11_mark := goodIn_r _ (422 :: 15 :: 23 :: 211 :: 179 :: 180 :: 14 :: 181 :: 157 :: 423 :: 424 :: 425 :: 22 :: 426 :: 86 :: 85 :: 427 :: 428 :: 429 :: 18 :: 430 :: 70 :: 359 :: 236 :: 237 :: 238 :: 274 :: 240 :: 241 :: 242 :: 243 :: 244 :: 245 :: 246 :: 247 :: 68 :: 69 :: 248 :: 249 :: 250 :: 67 :: 251 :: 75 :: 80 :: 252 :: 253 :: 254 :: 255 :: 256 :: 257 :: 230 :: 258 :: 259 :: 260 :: 261 :: 262 :: 263 :: 264 :: 265 :: 229 :: 231 :: 232 :: 233 :: 234 :: 266 :: 267 :: 268 :: 269 :: 431 :: 213 :: 214 :: 215 :: 60 :: 178 :: 1181 :: 1182 :: 1183 :: 1184 :: 1185 :: 1186 :: 1187 :: 1188 :: 1189 :: 1190 :: 1191 :: 1192 :: 1193 :: 1194 :: 1195 :: 1196 :: 1221 :: 1222 :: 1223 :: 1228 :: 1229 :: 1224 :: 1225 :: 1226 :: 1227 :: 1260 :: 1261 :: []) (by decide +kernel) (by decide +kernel)
set_option maxRecDepth 20000 in
theorem gL_law_X11_mark : GoodIn wsL_law (wsV RL 48 RX11 yX11_mark wsX11_mark) := goodIn_app (goodIn_of _ (by decide +kernel)) ggL_law_X11_mark
set_option maxRecDepth 20000 in
theorem ggL_law_X12_mark : GoodIn wsL_law wsX12_mark := goodIn_r _ (435 :: 199 :: 200 :: 201 :: 5 :: 202 :: 166 :: 167 :: 168 :: 169 :: 305 :: 306 :: 307 :: 308 :: 136 :: 135 :: 134 :: 309 :: 310 :: 311 :: 312 :: 313 :: 314 :: 315 :: 316 :: 317 :: 318 :: 436 :: 437 :: 438 :: 439 :: 412 :: 413 :: 414 :: 415 :: 1197 :: 1198 :: 1199 :: 1200 :: 1201 :: 1202 :: 1203 :: 1204 :: 1205 :: 1206 :: 1207 :: 1208 :: 1209 :: 1210 :: 1211 :: 1212 :: 1213 :: 1214 :: 1215 :: 1216 :: 1217 :: 1218 :: 1219 :: 1220 :: []) (by decide +kernel) (by decide +kernel)
set_option maxRecDepth 20000 in
theorem gL_law_X12_mark : GoodIn wsL_law (wsV RL 51 RX12 yX12_mark wsX12_mark) := goodIn_app (goodIn_of _ (by decide +kernel)) ggL_law_X12_mark
theorem dL_law_438 : decode cL_law 438 = .ok (.aload_n 1, 1) := by decide +kernel
theorem dL_law_439 : decode cL_law 439 = .ok (.aload_n 0, 1) := by decide +kernel
theorem dL_law_440 : decode cL_law 440 = .ok (.iload_n 3, 1) := by decide +kernel
theorem dL_law_441 : decode cL_law 441 = .ok (.iconst 1, 1) := by decide +kernel
theorem dL_law_442 : decode cL_law 442 = .ok (.iadd, 1) := by decide +kernel
theorem dL_law_443 : decode cL_law 443 = .ok (.iaload, 1) := by decide +kernel
theorem dL_law_444 : decode cL_law 444 = .ok (.invokevirtual 48, 3) := by decide +kernel
theorem dL_law_447 : decode cL_law 447 = .ok (.aload_n 2, 1) := by decide +kernel
theorem dL_law_448 : decode cL_law 448 = .ok (.aload_n 0, 1) := by decide +kernel
theorem dL_law_449 : decode cL_law 449 = .ok (.iload_n 3, 1) := by decide +kernel
theorem dL_law_450 : decode cL_law 450 = .ok (.iconst 1, 1) := by decide +kernel
theorem dL_law_451 : decode cL_law 451 = .ok (.iadd, 1) := by decide +kernel
theorem dL_law_452 : decode cL_law 452 = .ok (.iaload, 1) := by decide +kernel
theorem dL_law_453 : decode cL_law 453 = .ok (.invokevirtual 51, 3) := by decide +kernel
theorem dL_law_456 : decode cL_law 456 = .ok (.if_icmp .eq 1030, 3) := by decide +kernel
set_option maxRecDepth 20000 in
theorem ggL_law_X11_marked : GoodIn wsL_law wsX11_marked := goodIn_r _ (443 :: 23 :: 444 :: 445 :: 446 :: 22 :: 447 :: 86 :: 85 :: 427 :: 428 :: 429 :: 18 :: 430 :: 70 :: 359 :: 236 :: 237 :: 14 :: 238 :: 157 :: 274 :: 240 :: 241 :: 242 :: 243 :: 244 :: 245 :: 246 :: 247 :: 68 :: 69 :: 248 :: 249 :: 250 :: 67 :: 251 :: 75 :: 80 :: 252 :: 253 :: 254 :: 255 :: 256 :: 257 :: 230 :: 258 :: 259 :: 260 :: 261 :: 262 :: 263 :: 264 :: 265 :: 229 :: 231 :: 232 :: 233 :: 234 :: 266 :: 267 :: 268 :: 269 :: 448 :: 449 :: 450 :: 451 :: 60 :: 452 :: 1181 :: 1182 :: 1183 :: 1184 :: 1185 :: 1186 :: 1187 :: 1188 :: 1189 :: 1190 :: 1191 :: 1192 :: 1193 :: 1194 :: 1195 :: 1196 :: 1228 :: 1229 :: 1224 :: 1225 :: 1226 :: 1227 :: 1221 :: 1222 :: 1223 :: 1260 :: 1261 :: []) (by decide +kernel) (by decide +kernel)
set_option maxRecDepth 20000 in
theorem gL_law_X11_marked : GoodIn wsL_law (wsV RL 52 RX11 yX11_marked wsX11_marked) := goodIn_app (goodIn_of _ (by decide +kernel)) ggL_law_X11_marked
set_option maxRecDepth 20000 in
theorem ggL_law_X12_marked : GoodIn wsL_law wsX12_marked := goodIn_r _ (456 :: 167 :: 168 :: 5 :: 169 :: 305 :: 306 :: 307 :: 308 :: 136 :: 135 :: 166 :: 134 :: 309 :: 310 :: 311 :: 312 :: 313 :: 314 :: 315 :: 316 :: 317 :: 318 :: 436 :: 437 :: 438 :: 439 :: 412 :: 413 :: 414 :: 415 :: 1197 :: 1198 :: 1199 :: 1200 :: 1201 :: 1202 :: 1203 :: 1204 :: 1205 :: 1206 :: 1207 :: 1208 :: 1209 :: 1210 :: 1211 :: 1212 :: 1213 :: 1214 :: 1215 :: 1216 :: 1217 :: 1218 :: 1219 :: 1220 :: []) (by decide +kernel) (by decide +kernel)
set_option maxRecDepth 20000 in
theorem gL_law_X12_marked : GoodIn wsL_law (wsV RL 55 RX12 yX12_marked wsX12_marked) := goodIn_app (goodIn_of _ (by decide +kernel)) ggL_law_X12_marked
theorem dL_law_461 : decode cL_law 461 = .ok (.aload_n 1, 1) := by decide +kernel
theorem dL_law_462 : decode cL_law 462 = .ok (.aload_n 0, 1) := by decide +kernel
theorem dL_law_463 : decode cL_law 463 = .ok (.iload_n 3, 1) := by decide +kernel
theorem dL_law_464 : decode cL_law 464 = .ok (.iconst 1, 1) := by decide +kernel
theorem dL_law_465 : decode cL_law 465 = .ok (.iadd, 1) := by decide +kernel
theorem dL_law_466 : decode cL_law 466 = .ok (.iaload, 1) := by decide +kernel
theorem dL_law_467 : decode cL_law 467 = .ok (.invokevirtual 52, 3) := by decide +kernel
theorem dL_law_470 : decode cL_law 470 = .ok (.aload_n 2, 1) := by decide +kernel
theorem dL_law_471 : decode cL_law 471 = .ok (.aload_n 0, 1) := by decide +kernel
theorem dL_law_472 : decode cL_law 472 = .ok (.iload_n 3, 1) := by decide +kernel
