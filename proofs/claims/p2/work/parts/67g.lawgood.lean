set_option maxRecDepth 20000 in
theorem ggL_law_X12_paint : GoodIn wsL_law wsX12_paint := goodIn_r _ (837 :: 142 :: 143 :: 166 :: 144 :: 138 :: 713 :: 714 :: 5 :: 715 :: 167 :: 168 :: 169 :: 373 :: 374 :: 375 :: 376 :: 305 :: 306 :: 307 :: 308 :: 136 :: 135 :: 134 :: 309 :: 310 :: 311 :: 312 :: 313 :: 314 :: 315 :: 316 :: 317 :: 318 :: 377 :: 378 :: 379 :: 380 :: 1197 :: 1198 :: 1199 :: 1200 :: 1201 :: 1202 :: 1203 :: 1204 :: 1205 :: 1206 :: 1207 :: 1208 :: 1209 :: 1210 :: 1211 :: 1212 :: 1213 :: 1214 :: 1215 :: 1216 :: 1217 :: 1218 :: 1219 :: 1220 :: []) (by decide +kernel) (by decide +kernel)
set_option maxRecDepth 20000 in
theorem gL_law_X12_paint : GoodIn wsL_law (wsV RL 131 RX12 yX12_paint wsX12_paint) := goodIn_app (goodIn_of _ (by decide +kernel)) ggL_law_X12_paint
set_option maxRecDepth 20000 in
theorem ggL_law_X12_piece : GoodIn wsL_law wsX12_piece := goodIn_r _ (484 :: 167 :: 168 :: 5 :: 169 :: 485 :: 486 :: 487 :: 488 :: 468 :: 469 :: 470 :: 471 :: 305 :: 306 :: 307 :: 308 :: 136 :: 135 :: 166 :: 134 :: 309 :: 310 :: 311 :: 312 :: 313 :: 314 :: 315 :: 316 :: 317 :: 318 :: 436 :: 437 :: 438 :: 439 :: 412 :: 413 :: 414 :: 415 :: 327 :: 328 :: 329 :: 330 :: 489 :: 490 :: 491 :: 492 :: 1197 :: 1198 :: 1199 :: 1200 :: 1201 :: 1202 :: 1203 :: 1204 :: 1205 :: 1206 :: 1207 :: 1208 :: 1209 :: 1210 :: 1211 :: 1212 :: 1213 :: 1214 :: 1215 :: 1216 :: 1217 :: 1218 :: 1219 :: 1220 :: []) (by decide +kernel) (by decide +kernel)
set_option maxRecDepth 20000 in
theorem gL_law_X12_piece : GoodIn wsL_law (wsV RL 63 RX12 yX12_piece wsX12_piece) := goodIn_app (goodIn_of _ (by decide +kernel)) ggL_law_X12_piece
set_option maxRecDepth 20000 in
theorem ggL_law_X12_pieces : GoodIn wsL_law wsX12_pieces := goodIn_r _ (467 :: 167 :: 168 :: 5 :: 169 :: 468 :: 469 :: 470 :: 471 :: 305 :: 306 :: 307 :: 308 :: 136 :: 135 :: 166 :: 134 :: 309 :: 310 :: 311 :: 312 :: 313 :: 314 :: 315 :: 316 :: 317 :: 318 :: 436 :: 437 :: 438 :: 439 :: 412 :: 413 :: 414 :: 415 :: 323 :: 324 :: 325 :: 326 :: 327 :: 328 :: 329 :: 330 :: 1197 :: 1198 :: 1199 :: 1200 :: 1201 :: 1202 :: 1203 :: 1204 :: 1205 :: 1206 :: 1207 :: 1208 :: 1209 :: 1210 :: 1211 :: 1212 :: 1213 :: 1214 :: 1215 :: 1216 :: 1217 :: 1218 :: 1219 :: 1220 :: []) (by decide +kernel) (by decide +kernel)
set_option maxRecDepth 20000 in
theorem gL_law_X12_pieces : GoodIn wsL_law (wsV RL 59 RX12 yX12_pieces wsX12_pieces) := goodIn_app (goodIn_of _ (by decide +kernel)) ggL_law_X12_pieces
set_option maxRecDepth 20000 in
theorem ggL_law_X12_points : GoodIn wsL_law wsX12_points := goodIn_r _ (165 :: 166 :: 134 :: 167 :: 168 :: 5 :: 169 :: 1197 :: 1198 :: 1199 :: 1200 :: 1201 :: 1202 :: 1203 :: 1204 :: 1205 :: 1206 :: 1207 :: 1208 :: 1209 :: 1210 :: 1211 :: 1212 :: 1213 :: 1214 :: 1215 :: 1216 :: 1217 :: 1218 :: 1219 :: 1220 :: []) (by decide +kernel) (by decide +kernel)
set_option maxRecDepth 20000 in
theorem gL_law_X12_points : GoodIn wsL_law (wsV RL 17 RX12 yX12_points wsX12_points) := goodIn_app (goodIn_of _ (by decide +kernel)) ggL_law_X12_points
set_option maxRecDepth 20000 in
theorem ggL_law_X12_seed : GoodIn wsL_law wsX12_seed := goodIn_r _ [971, 133, 1197, 1198, 1199, 1200, 1201, 1202, 1203, 1204, 1205, 1206, 1207, 1208, 1209, 1210, 1211, 1212, 1213, 1214, 1215, 1216, 1217, 1218, 1219, 1220] (by decide +kernel) (by decide +kernel)
set_option maxRecDepth 20000 in
theorem gL_law_X12_seed : GoodIn wsL_law (wsV RL 148 RX12 yX12_seed wsX12_seed) := goodIn_app (goodIn_of _ (by decide +kernel)) ggL_law_X12_seed
set_option maxRecDepth 20000 in
theorem ggL_law_X12_sheet : GoodIn wsL_law wsX12_sheet := goodIn_r _ (1113 :: 142 :: 143 :: 144 :: 713 :: 714 :: 5 :: 715 :: 167 :: 168 :: 169 :: 1197 :: 1198 :: 1199 :: 1200 :: 1201 :: 1202 :: 1203 :: 1204 :: 1205 :: 1206 :: 1207 :: 1208 :: 1209 :: 1210 :: 1211 :: 1212 :: 1213 :: 1214 :: 1215 :: 1216 :: 1217 :: 1218 :: 1219 :: 1220 :: []) (by decide +kernel) (by decide +kernel)
set_option maxRecDepth 20000 in
theorem gL_law_X12_sheet : GoodIn wsL_law (wsV RL 173 RX12 yX12_sheet wsX12_sheet) := goodIn_app (goodIn_of _ (by decide +kernel)) ggL_law_X12_sheet
set_option maxRecDepth 20000 in
theorem ggL_law_X12_shelf : GoodIn wsL_law wsX12_shelf := goodIn_r _ (1044 :: 142 :: 145 :: 146 :: 143 :: 147 :: 1045 :: 1046 :: 5 :: 1047 :: 167 :: 168 :: 169 :: 199 :: 200 :: 201 :: 202 :: 166 :: 343 :: 344 :: 345 :: 346 :: 309 :: 310 :: 311 :: 312 :: 713 :: 714 :: 715 :: 485 :: 486 :: 487 :: 488 :: 468 :: 469 :: 470 :: 471 :: 305 :: 306 :: 307 :: 308 :: 136 :: 135 :: 134 :: 313 :: 314 :: 315 :: 316 :: 317 :: 318 :: 436 :: 437 :: 438 :: 439 :: 412 :: 413 :: 414 :: 415 :: 327 :: 328 :: 329 :: 330 :: 1048 :: 433 :: 434 :: 435 :: 1197 :: 1198 :: 1199 :: 1200 :: 1201 :: 1202 :: 1203 :: 1204 :: 1205 :: 1206 :: 1207 :: 1208 :: 1209 :: 1210 :: 1211 :: 1212 :: 1213 :: 1214 :: 1215 :: 1216 :: 1217 :: 1218 :: 1219 :: 1220 :: []) (by decide +kernel) (by decide +kernel)
set_option maxRecDepth 20000 in
theorem gL_law_X12_shelf : GoodIn wsL_law (wsV RL 161 RX12 yX12_shelf wsX12_shelf) := goodIn_app (goodIn_of _ (by decide +kernel)) ggL_law_X12_shelf
set_option maxRecDepth 20000 in
theorem ggL_law_X12_surplus : GoodIn wsL_law wsX12_surplus := goodIn_r _ (506 :: 305 :: 306 :: 307 :: 5 :: 308 :: 136 :: 135 :: 166 :: 134 :: 309 :: 310 :: 311 :: 312 :: 313 :: 314 :: 315 :: 316 :: 317 :: 318 :: 343 :: 344 :: 345 :: 346 :: 436 :: 437 :: 438 :: 439 :: 412 :: 413 :: 414 :: 415 :: 298 :: 299 :: 300 :: 327 :: 328 :: 329 :: 330 :: 489 :: 490 :: 491 :: 492 :: 1197 :: 1198 :: 1199 :: 1200 :: 1201 :: 1202 :: 1203 :: 1204 :: 1205 :: 1206 :: 1207 :: 1208 :: 1209 :: 1210 :: 1211 :: 1212 :: 1213 :: 1214 :: 1215 :: 1216 :: 1217 :: 1218 :: 1219 :: 1220 :: []) (by decide +kernel) (by decide +kernel)
set_option maxRecDepth 20000 in
theorem gL_law_X12_surplus : GoodIn wsL_law (wsV RL 67 RX12 yX12_surplus wsX12_surplus) := goodIn_app (goodIn_of _ (by decide +kernel)) ggL_law_X12_surplus
set_option maxRecDepth 20000 in
theorem ggL_law_X12_taken : GoodIn wsL_law wsX12_taken := goodIn_r _ (1076 :: 145 :: 147 :: 146 :: 1045 :: 1046 :: 5 :: 1047 :: 167 :: 168 :: 169 :: 1077 :: 1078 :: 1079 :: 1080 :: 1081 :: 1082 :: 1197 :: 1198 :: 1199 :: 1200 :: 1201 :: 1202 :: 1203 :: 1204 :: 1205 :: 1206 :: 1207 :: 1208 :: 1209 :: 1210 :: 1211 :: 1212 :: 1213 :: 1214 :: 1215 :: 1216 :: 1217 :: 1218 :: 1219 :: 1220 :: []) (by decide +kernel) (by decide +kernel)
set_option maxRecDepth 20000 in
theorem gL_law_X12_taken : GoodIn wsL_law (wsV RL 165 RX12 yX12_taken wsX12_taken) := goodIn_app (goodIn_of _ (by decide +kernel)) ggL_law_X12_taken
set_option maxRecDepth 20000 in
theorem ggL_law_X12_text : GoodIn wsL_law wsX12_text := goodIn_r _ (922 :: 923 :: 293 :: 924 :: 925 :: 926 :: 927 :: 5 :: 928 :: 148 :: 166 :: 133 :: 134 :: 929 :: 930 :: 931 :: 932 :: 933 :: 934 :: 935 :: 936 :: 937 :: 938 :: 939 :: 141 :: 940 :: 941 :: 942 :: 943 :: 167 :: 168 :: 169 :: 944 :: 945 :: 946 :: 947 :: 298 :: 299 :: 300 :: 948 :: 949 :: 950 :: 951 :: 199 :: 200 :: 201 :: 202 :: 316 :: 317 :: 318 :: 952 :: 953 :: 954 :: 955 :: 203 :: 204 :: 205 :: 206 :: 956 :: 957 :: 958 :: 959 :: 960 :: 961 :: 962 :: 963 :: 1197 :: 1198 :: 1199 :: 1200 :: 1201 :: 1202 :: 1203 :: 1204 :: 1205 :: 1206 :: 1207 :: 1208 :: 1209 :: 1210 :: 1211 :: 1212 :: 1213 :: 1214 :: 1215 :: 1216 :: 1217 :: 1218 :: 1219 :: 1220 :: []) (by decide +kernel) (by decide +kernel)
set_option maxRecDepth 20000 in
theorem gL_law_X12_text : GoodIn wsL_law (wsV RL 144 RX12 yX12_text wsX12_text) := goodIn_app (goodIn_of _ (by decide +kernel)) ggL_law_X12_text
set_option maxRecDepth 20000 in
theorem ggL_law_X12_times : GoodIn wsL_law wsX12_times := goodIn_r _ (1013 :: 167 :: 168 :: 5 :: 169 :: 925 :: 926 :: 927 :: 928 :: 148 :: 166 :: 133 :: 134 :: 997 :: 998 :: 999 :: 1000 :: 1001 :: 1002 :: 1003 :: 1004 :: 1005 :: 203 :: 204 :: 205 :: 206 :: 319 :: 320 :: 321 :: 322 :: 301 :: 302 :: 303 :: 304 :: 135 :: 305 :: 306 :: 307 :: 308 :: 136 :: 309 :: 310 :: 311 :: 312 :: 313 :: 314 :: 315 :: 316 :: 317 :: 318 :: 960 :: 961 :: 962 :: 963 :: 1197 :: 1198 :: 1199 :: 1200 :: 1201 :: 1202 :: 1203 :: 1204 :: 1205 :: 1206 :: 1207 :: 1208 :: 1209 :: 1210 :: 1211 :: 1212 :: 1213 :: 1214 :: 1215 :: 1216 :: 1217 :: 1218 :: 1219 :: 1220 :: []) (by decide +kernel) (by decide +kernel)
set_option maxRecDepth 20000 in
theorem gL_law_X12_times : GoodIn wsL_law (wsV RL 157 RX12 yX12_times wsX12_times) := goodIn_app (goodIn_of _ (by decide +kernel)) ggL_law_X12_times
set_option maxRecDepth 20000 in
theorem ggL_law_X12_verdict : GoodIn wsL_law wsX12_verdict := goodIn_r _ (626 :: 134 :: 195 :: 196 :: 197 :: 5 :: 198 :: 199 :: 200 :: 201 :: 202 :: 166 :: 167 :: 168 :: 169 :: 305 :: 306 :: 307 :: 308 :: 136 :: 135 :: 309 :: 310 :: 311 :: 312 :: 313 :: 314 :: 315 :: 316 :: 317 :: 318 :: 627 :: 628 :: 629 :: 630 :: 1197 :: 1198 :: 1199 :: 1200 :: 1201 :: 1202 :: 1203 :: 1204 :: 1205 :: 1206 :: 1207 :: 1208 :: 1209 :: 1210 :: 1211 :: 1212 :: 1213 :: 1214 :: 1215 :: 1216 :: 1217 :: 1218 :: 1219 :: 1220 :: []) (by decide +kernel) (by decide +kernel)
set_option maxRecDepth 20000 in
theorem gL_law_X12_verdict : GoodIn wsL_law (wsV RL 91 RX12 yX12_verdict wsX12_verdict) := goodIn_app (goodIn_of _ (by decide +kernel)) ggL_law_X12_verdict
