theorem dL_law_600 : decode cL_law 600 = .ok (.iadd, 1) := by decide +kernel
theorem dL_law_601 : decode cL_law 601 = .ok (.iaload, 1) := by decide +kernel
theorem dL_law_602 : decode cL_law 602 = .ok (.invokevirtual 72, 3) := by decide +kernel
theorem dL_law_605 : decode cL_law 605 = .ok (.aload_n 2, 1) := by decide +kernel
theorem dL_law_606 : decode cL_law 606 = .ok (.aload_n 0, 1) := by decide +kernel
theorem dL_law_607 : decode cL_law 607 = .ok (.iload_n 3, 1) := by decide +kernel
theorem dL_law_608 : decode cL_law 608 = .ok (.iconst 1, 1) := by decide +kernel
theorem dL_law_609 : decode cL_law 609 = .ok (.iadd, 1) := by decide +kernel
theorem dL_law_610 : decode cL_law 610 = .ok (.iaload, 1) := by decide +kernel
theorem dL_law_611 : decode cL_law 611 = .ok (.invokevirtual 75, 3) := by decide +kernel
theorem dL_law_614 : decode cL_law 614 = .ok (.if_icmp .eq 872, 3) := by decide +kernel
set_option maxRecDepth 20000 in
theorem ggL_law_X11_barriers : GoodIn wsL_law wsX11_barriers := goodIn_r _ (546 :: 27 :: 547 :: 548 :: 549 :: 26 :: 550 :: 92 :: 93 :: 94 :: 551 :: 552 :: 553 :: 515 :: 236 :: 237 :: 14 :: 238 :: 157 :: 554 :: 428 :: 429 :: 18 :: 430 :: 70 :: 359 :: 274 :: 240 :: 241 :: 242 :: 243 :: 244 :: 245 :: 246 :: 247 :: 68 :: 69 :: 248 :: 249 :: 250 :: 67 :: 251 :: 75 :: 80 :: 252 :: 253 :: 254 :: 255 :: 256 :: 257 :: 230 :: 258 :: 259 :: 260 :: 261 :: 262 :: 263 :: 264 :: 265 :: 229 :: 231 :: 232 :: 233 :: 234 :: 266 :: 267 :: 268 :: 269 :: 538 :: 271 :: 272 :: 273 :: 537 :: 536 :: 512 :: 513 :: 514 :: 516 :: 517 :: 518 :: 519 :: 60 :: 279 :: 280 :: 281 :: 282 :: 283 :: 284 :: 285 :: 286 :: 287 :: 288 :: 228 :: 555 :: 556 :: 557 :: 558 :: 1181 :: 1182 :: 1183 :: 1184 :: 1185 :: 1186 :: 1187 :: 1188 :: 1189 :: 1190 :: 1191 :: 1192 :: 1193 :: 1194 :: 1195 :: 1196 :: 1230 :: 1231 :: 1232 :: 1233 :: 1234 :: 1235 :: 1236 :: 1237 :: 1221 :: 1222 :: 1223 :: 1224 :: 1225 :: 1226 :: 1227 :: 1260 :: 1261 :: []) (by decide +kernel) (by decide +kernel)
set_option maxRecDepth 20000 in
theorem gL_law_X11_barriers : GoodIn wsL_law (wsV RL 76 RX11 yX11_barriers wsX11_barriers) := goodIn_app (goodIn_of _ (by decide +kernel)) ggL_law_X11_barriers
set_option maxRecDepth 20000 in
theorem ggL_law_X12_barriers : GoodIn wsL_law wsX12_barriers := goodIn_r _ (562 :: 167 :: 168 :: 5 :: 169 :: 319 :: 320 :: 321 :: 322 :: 166 :: 301 :: 302 :: 303 :: 304 :: 135 :: 305 :: 306 :: 307 :: 308 :: 136 :: 134 :: 309 :: 310 :: 311 :: 312 :: 313 :: 314 :: 315 :: 316 :: 317 :: 318 :: 524 :: 525 :: 526 :: 527 :: 327 :: 328 :: 329 :: 330 :: 298 :: 299 :: 300 :: 1197 :: 1198 :: 1199 :: 1200 :: 1201 :: 1202 :: 1203 :: 1204 :: 1205 :: 1206 :: 1207 :: 1208 :: 1209 :: 1210 :: 1211 :: 1212 :: 1213 :: 1214 :: 1215 :: 1216 :: 1217 :: 1218 :: 1219 :: 1220 :: []) (by decide +kernel) (by decide +kernel)
set_option maxRecDepth 20000 in
theorem gL_law_X12_barriers : GoodIn wsL_law (wsV RL 79 RX12 yX12_barriers wsX12_barriers) := goodIn_app (goodIn_of _ (by decide +kernel)) ggL_law_X12_barriers
theorem dL_law_619 : decode cL_law 619 = .ok (.aload_n 1, 1) := by decide +kernel
theorem dL_law_620 : decode cL_law 620 = .ok (.aload_n 0, 1) := by decide +kernel
theorem dL_law_621 : decode cL_law 621 = .ok (.iload_n 3, 1) := by decide +kernel
theorem dL_law_622 : decode cL_law 622 = .ok (.iconst 1, 1) := by decide +kernel
theorem dL_law_623 : decode cL_law 623 = .ok (.iadd, 1) := by decide +kernel
theorem dL_law_624 : decode cL_law 624 = .ok (.iaload, 1) := by decide +kernel
theorem dL_law_625 : decode cL_law 625 = .ok (.invokevirtual 76, 3) := by decide +kernel
theorem dL_law_628 : decode cL_law 628 = .ok (.aload_n 2, 1) := by decide +kernel
theorem dL_law_629 : decode cL_law 629 = .ok (.aload_n 0, 1) := by decide +kernel
theorem dL_law_630 : decode cL_law 630 = .ok (.iload_n 3, 1) := by decide +kernel
theorem dL_law_631 : decode cL_law 631 = .ok (.iconst 1, 1) := by decide +kernel
theorem dL_law_632 : decode cL_law 632 = .ok (.iadd, 1) := by decide +kernel
theorem dL_law_633 : decode cL_law 633 = .ok (.iaload, 1) := by decide +kernel
theorem dL_law_634 : decode cL_law 634 = .ok (.invokevirtual 79, 3) := by decide +kernel
theorem dL_law_637 : decode cL_law 637 = .ok (.if_icmp .eq 849, 3) := by decide +kernel
set_option maxRecDepth 20000 in
theorem ggL_law_X11_critical : GoodIn wsL_law wsX11_critical := goodIn_r _ (566 :: 15 :: 27 :: 335 :: 336 :: 337 :: 14 :: 338 :: 279 :: 236 :: 237 :: 238 :: 157 :: 567 :: 568 :: 569 :: 26 :: 570 :: 93 :: 94 :: 537 :: 229 :: 230 :: 231 :: 232 :: 233 :: 234 :: 571 :: 240 :: 241 :: 18 :: 242 :: 243 :: 244 :: 245 :: 246 :: 247 :: 70 :: 68 :: 69 :: 248 :: 249 :: 250 :: 67 :: 251 :: 75 :: 80 :: 252 :: 253 :: 254 :: 255 :: 256 :: 257 :: 258 :: 259 :: 260 :: 261 :: 262 :: 263 :: 264 :: 265 :: 266 :: 267 :: 268 :: 269 :: 1181 :: 1182 :: 1183 :: 1184 :: 1185 :: 1186 :: 1187 :: 1188 :: 1189 :: 1190 :: 1191 :: 1192 :: 1193 :: 1194 :: 1195 :: 1196 :: 1221 :: 1222 :: 1223 :: 1230 :: 1231 :: 1232 :: 1233 :: 1234 :: 1235 :: 1236 :: 1237 :: 1224 :: 1225 :: 1226 :: 1227 :: 1260 :: 1261 :: []) (by decide +kernel) (by decide +kernel)
set_option maxRecDepth 20000 in
theorem gL_law_X11_critical : GoodIn wsL_law (wsV RL 80 RX11 yX11_critical wsX11_critical) := goodIn_app (goodIn_of _ (by decide +kernel)) ggL_law_X11_critical
set_option maxRecDepth 20000 in
theorem ggL_law_X12_critical : GoodIn wsL_law wsX12_critical := goodIn_r _ (575 :: 343 :: 344 :: 345 :: 5 :: 346 :: 309 :: 310 :: 311 :: 312 :: 166 :: 305 :: 306 :: 307 :: 308 :: 136 :: 135 :: 134 :: 313 :: 314 :: 315 :: 316 :: 317 :: 318 :: 576 :: 577 :: 578 :: 579 :: 298 :: 299 :: 300 :: 1197 :: 1198 :: 1199 :: 1200 :: 1201 :: 1202 :: 1203 :: 1204 :: 1205 :: 1206 :: 1207 :: 1208 :: 1209 :: 1210 :: 1211 :: 1212 :: 1213 :: 1214 :: 1215 :: 1216 :: 1217 :: 1218 :: 1219 :: 1220 :: []) (by decide +kernel) (by decide +kernel)
set_option maxRecDepth 20000 in
theorem gL_law_X12_critical : GoodIn wsL_law (wsV RL 83 RX12 yX12_critical wsX12_critical) := goodIn_app (goodIn_of _ (by decide +kernel)) ggL_law_X12_critical
theorem dL_law_642 : decode cL_law 642 = .ok (.aload_n 1, 1) := by decide +kernel
theorem dL_law_643 : decode cL_law 643 = .ok (.aload_n 0, 1) := by decide +kernel
theorem dL_law_644 : decode cL_law 644 = .ok (.iload_n 3, 1) := by decide +kernel
theorem dL_law_645 : decode cL_law 645 = .ok (.iconst 1, 1) := by decide +kernel
theorem dL_law_646 : decode cL_law 646 = .ok (.iadd, 1) := by decide +kernel
theorem dL_law_647 : decode cL_law 647 = .ok (.iaload, 1) := by decide +kernel
theorem dL_law_648 : decode cL_law 648 = .ok (.invokevirtual 80, 3) := by decide +kernel
theorem dL_law_651 : decode cL_law 651 = .ok (.aload_n 2, 1) := by decide +kernel
theorem dL_law_652 : decode cL_law 652 = .ok (.aload_n 0, 1) := by decide +kernel
theorem dL_law_653 : decode cL_law 653 = .ok (.iload_n 3, 1) := by decide +kernel
theorem dL_law_654 : decode cL_law 654 = .ok (.iconst 1, 1) := by decide +kernel
theorem dL_law_655 : decode cL_law 655 = .ok (.iadd, 1) := by decide +kernel
theorem dL_law_656 : decode cL_law 656 = .ok (.iaload, 1) := by decide +kernel
theorem dL_law_657 : decode cL_law 657 = .ok (.invokevirtual 83, 3) := by decide +kernel
theorem dL_law_660 : decode cL_law 660 = .ok (.if_icmp .eq 826, 3) := by decide +kernel
set_option maxRecDepth 20000 in
theorem ggL_law_X11_ear : GoodIn wsL_law wsX11_ear := goodIn_r _ (583 :: 15 :: 27 :: 335 :: 336 :: 337 :: 14 :: 338 :: 279 :: 236 :: 237 :: 238 :: 157 :: 567 :: 568 :: 569 :: 26 :: 570 :: 93 :: 94 :: 537 :: 229 :: 230 :: 231 :: 232 :: 233 :: 234 :: 571 :: 240 :: 241 :: 18 :: 242 :: 243 :: 244 :: 245 :: 246 :: 247 :: 70 :: 68 :: 69 :: 248 :: 249 :: 250 :: 67 :: 251 :: 75 :: 80 :: 252 :: 253 :: 254 :: 255 :: 256 :: 257 :: 258 :: 259 :: 260 :: 261 :: 262 :: 263 :: 264 :: 265 :: 266 :: 267 :: 268 :: 269 :: 584 :: 585 :: 586 :: 587 :: 588 :: 91 :: 589 :: 284 :: 285 :: 590 :: 591 :: 592 :: 593 :: 594 :: 595 :: 596 :: 597 :: 274 :: 598 :: 599 :: 600 :: 601 :: 602 :: 1181 :: 1182 :: 1183 :: 1184 :: 1185 :: 1186 :: 1187 :: 1188 :: 1189 :: 1190 :: 1191 :: 1192 :: 1193 :: 1194 :: 1195 :: 1196 :: 1230 :: 1231 :: 1232 :: 1233 :: 1234 :: 1235 :: 1236 :: 1237 :: 1221 :: 1222 :: 1223 :: 1224 :: 1225 :: 1226 :: 1227 :: 1260 :: 1261 :: []) (by decide +kernel) (by decide +kernel)
set_option maxRecDepth 20000 in
theorem gL_law_X11_ear : GoodIn wsL_law (wsV RL 84 RX11 yX11_ear wsX11_ear) := goodIn_app (goodIn_of _ (by decide +kernel)) ggL_law_X11_ear
set_option maxRecDepth 20000 in
theorem ggL_law_X12_ear : GoodIn wsL_law wsX12_ear := goodIn_r _ (606 :: 343 :: 344 :: 345 :: 5 :: 346 :: 309 :: 310 :: 311 :: 312 :: 166 :: 305 :: 306 :: 307 :: 308 :: 136 :: 135 :: 134 :: 313 :: 314 :: 315 :: 316 :: 317 :: 318 :: 576 :: 577 :: 578 :: 579 :: 298 :: 299 :: 300 :: 607 :: 608 :: 609 :: 610 :: 1197 :: 1198 :: 1199 :: 1200 :: 1201 :: 1202 :: 1203 :: 1204 :: 1205 :: 1206 :: 1207 :: 1208 :: 1209 :: 1210 :: 1211 :: 1212 :: 1213 :: 1214 :: 1215 :: 1216 :: 1217 :: 1218 :: 1219 :: 1220 :: []) (by decide +kernel) (by decide +kernel)
set_option maxRecDepth 20000 in
theorem gL_law_X12_ear : GoodIn wsL_law (wsV RL 87 RX12 yX12_ear wsX12_ear) := goodIn_app (goodIn_of _ (by decide +kernel)) ggL_law_X12_ear
theorem dL_law_665 : decode cL_law 665 = .ok (.aload_n 1, 1) := by decide +kernel
theorem dL_law_666 : decode cL_law 666 = .ok (.aload_n 0, 1) := by decide +kernel
theorem dL_law_667 : decode cL_law 667 = .ok (.iload_n 3, 1) := by decide +kernel
theorem dL_law_668 : decode cL_law 668 = .ok (.iconst 1, 1) := by decide +kernel
theorem dL_law_669 : decode cL_law 669 = .ok (.iadd, 1) := by decide +kernel
theorem dL_law_670 : decode cL_law 670 = .ok (.iaload, 1) := by decide +kernel
theorem dL_law_671 : decode cL_law 671 = .ok (.aload_n 0, 1) := by decide +kernel
theorem dL_law_672 : decode cL_law 672 = .ok (.iload_n 3, 1) := by decide +kernel
theorem dL_law_673 : decode cL_law 673 = .ok (.iconst 2, 1) := by decide +kernel
theorem dL_law_674 : decode cL_law 674 = .ok (.iadd, 1) := by decide +kernel
theorem dL_law_675 : decode cL_law 675 = .ok (.iaload, 1) := by decide +kernel
theorem dL_law_676 : decode cL_law 676 = .ok (.invokevirtual 84, 3) := by decide +kernel
theorem dL_law_679 : decode cL_law 679 = .ok (.aload_n 2, 1) := by decide +kernel
theorem dL_law_680 : decode cL_law 680 = .ok (.aload_n 0, 1) := by decide +kernel
theorem dL_law_681 : decode cL_law 681 = .ok (.iload_n 3, 1) := by decide +kernel
theorem dL_law_682 : decode cL_law 682 = .ok (.iconst 1, 1) := by decide +kernel
theorem dL_law_683 : decode cL_law 683 = .ok (.iadd, 1) := by decide +kernel
theorem dL_law_684 : decode cL_law 684 = .ok (.iaload, 1) := by decide +kernel
theorem dL_law_685 : decode cL_law 685 = .ok (.aload_n 0, 1) := by decide +kernel
theorem dL_law_686 : decode cL_law 686 = .ok (.iload_n 3, 1) := by decide +kernel
theorem dL_law_687 : decode cL_law 687 = .ok (.iconst 2, 1) := by decide +kernel
theorem dL_law_688 : decode cL_law 688 = .ok (.iadd, 1) := by decide +kernel
theorem dL_law_689 : decode cL_law 689 = .ok (.iaload, 1) := by decide +kernel
theorem dL_law_690 : decode cL_law 690 = .ok (.invokevirtual 87, 3) := by decide +kernel
theorem dL_law_693 : decode cL_law 693 = .ok (.if_icmp .eq 793, 3) := by decide +kernel
set_option maxRecDepth 20000 in
theorem ggL_law_X11_verdict : GoodIn wsL_law wsX11_verdict := goodIn_r _ (614 :: 15 :: 19 :: 174 :: 175 :: 176 :: 14 :: 177 :: 178 :: 179 :: 180 :: 181 :: 157 :: 182 :: 183 :: 184 :: 185 :: 60 :: 186 :: 615 :: 616 :: 617 :: 18 :: 618 :: 70 :: 619 :: 620 :: 621 :: 622 :: 364 :: 213 :: 214 :: 215 :: 359 :: 236 :: 237 :: 238 :: 274 :: 240 :: 241 :: 242 :: 243 :: 244 :: 245 :: 246 :: 247 :: 68 :: 69 :: 248 :: 249 :: 250 :: 67 :: 251 :: 75 :: 80 :: 252 :: 253 :: 254 :: 255 :: 256 :: 257 :: 230 :: 258 :: 259 :: 260 :: 261 :: 262 :: 263 :: 264 :: 265 :: 229 :: 231 :: 232 :: 233 :: 234 :: 266 :: 267 :: 268 :: 269 :: 1181 :: 1182 :: 1183 :: 1184 :: 1185 :: 1186 :: 1187 :: 1188 :: 1189 :: 1190 :: 1191 :: 1192 :: 1193 :: 1194 :: 1195 :: 1196 :: 1221 :: 1222 :: 1223 :: 1224 :: 1225 :: 1226 :: 1227 :: 1260 :: 1261 :: []) (by decide +kernel) (by decide +kernel)
set_option maxRecDepth 20000 in
theorem gL_law_X11_verdict : GoodIn wsL_law (wsV RL 88 RX11 yX11_verdict wsX11_verdict) := goodIn_app (goodIn_of _ (by decide +kernel)) ggL_law_X11_verdict
set_option maxRecDepth 20000 in
theorem ggL_law_X12_verdict : GoodIn wsL_law wsX12_verdict := goodIn_r _ (626 :: 134 :: 195 :: 196 :: 197 :: 5 :: 198 :: 199 :: 200 :: 201 :: 202 :: 166 :: 167 :: 168 :: 169 :: 305 :: 306 :: 307 :: 308 :: 136 :: 135 :: 309 :: 310 :: 311 :: 312 :: 313 :: 314 :: 315 :: 316 :: 317 :: 318 :: 627 :: 628 :: 629 :: 630 :: 1197 :: 1198 :: 1199 :: 1200 :: 1201 :: 1202 :: 1203 :: 1204 :: 1205 :: 1206 :: 1207 :: 1208 :: 1209 :: 1210 :: 1211 :: 1212 :: 1213 :: 1214 :: 1215 :: 1216 :: 1217 :: 1218 :: 1219 :: 1220 :: []) (by decide +kernel) (by decide +kernel)
set_option maxRecDepth 20000 in
theorem gL_law_X12_verdict : GoodIn wsL_law (wsV RL 91 RX12 yX12_verdict wsX12_verdict) := goodIn_app (goodIn_of _ (by decide +kernel)) ggL_law_X12_verdict
theorem dL_law_698 : decode cL_law 698 = .ok (.aload_n 1, 1) := by decide +kernel
theorem dL_law_699 : decode cL_law 699 = .ok (.aload_n 0, 1) := by decide +kernel
theorem dL_law_700 : decode cL_law 700 = .ok (.iload_n 3, 1) := by decide +kernel
theorem dL_law_701 : decode cL_law 701 = .ok (.iconst 1, 1) := by decide +kernel
theorem dL_law_702 : decode cL_law 702 = .ok (.iadd, 1) := by decide +kernel
theorem dL_law_703 : decode cL_law 703 = .ok (.iaload, 1) := by decide +kernel
theorem dL_law_704 : decode cL_law 704 = .ok (.aload_n 0, 1) := by decide +kernel
theorem dL_law_705 : decode cL_law 705 = .ok (.iload_n 3, 1) := by decide +kernel
theorem dL_law_706 : decode cL_law 706 = .ok (.iconst 2, 1) := by decide +kernel
theorem dL_law_707 : decode cL_law 707 = .ok (.iadd, 1) := by decide +kernel
theorem dL_law_708 : decode cL_law 708 = .ok (.iaload, 1) := by decide +kernel
theorem dL_law_709 : decode cL_law 709 = .ok (.invokevirtual 88, 3) := by decide +kernel
theorem dL_law_712 : decode cL_law 712 = .ok (.aload_n 2, 1) := by decide +kernel
theorem dL_law_713 : decode cL_law 713 = .ok (.aload_n 0, 1) := by decide +kernel
theorem dL_law_714 : decode cL_law 714 = .ok (.iload_n 3, 1) := by decide +kernel
theorem dL_law_715 : decode cL_law 715 = .ok (.iconst 1, 1) := by decide +kernel
theorem dL_law_716 : decode cL_law 716 = .ok (.iadd, 1) := by decide +kernel
theorem dL_law_717 : decode cL_law 717 = .ok (.iaload, 1) := by decide +kernel
theorem dL_law_718 : decode cL_law 718 = .ok (.aload_n 0, 1) := by decide +kernel
theorem dL_law_719 : decode cL_law 719 = .ok (.iload_n 3, 1) := by decide +kernel
theorem dL_law_720 : decode cL_law 720 = .ok (.iconst 2, 1) := by decide +kernel
theorem dL_law_721 : decode cL_law 721 = .ok (.iadd, 1) := by decide +kernel
theorem dL_law_722 : decode cL_law 722 = .ok (.iaload, 1) := by decide +kernel
theorem dL_law_723 : decode cL_law 723 = .ok (.invokevirtual 91, 3) := by decide +kernel
theorem dL_law_726 : decode cL_law 726 = .ok (.if_icmp .eq 760, 3) := by decide +kernel
set_option maxRecDepth 20000 in
theorem ggL_law_X11_verdicts : GoodIn wsL_law wsX11_verdicts := goodIn_r _ (634 :: 15 :: 19 :: 182 :: 183 :: 184 :: 14 :: 185 :: 60 :: 186 :: 175 :: 176 :: 177 :: 178 :: 179 :: 180 :: 181 :: 157 :: 615 :: 616 :: 617 :: 18 :: 618 :: 70 :: 619 :: 620 :: 621 :: 622 :: 364 :: 213 :: 214 :: 215 :: 359 :: 236 :: 237 :: 238 :: 274 :: 240 :: 241 :: 242 :: 243 :: 244 :: 245 :: 246 :: 247 :: 68 :: 69 :: 248 :: 249 :: 250 :: 67 :: 251 :: 75 :: 80 :: 252 :: 253 :: 254 :: 255 :: 256 :: 257 :: 230 :: 258 :: 259 :: 260 :: 261 :: 262 :: 263 :: 264 :: 265 :: 229 :: 231 :: 232 :: 233 :: 234 :: 266 :: 267 :: 268 :: 269 :: 1181 :: 1182 :: 1183 :: 1184 :: 1185 :: 1186 :: 1187 :: 1188 :: 1189 :: 1190 :: 1191 :: 1192 :: 1193 :: 1194 :: 1195 :: 1196 :: 1221 :: 1222 :: 1223 :: 1224 :: 1225 :: 1226 :: 1227 :: 1260 :: 1261 :: []) (by decide +kernel) (by decide +kernel)
set_option maxRecDepth 20000 in
theorem gL_law_X11_verdicts : GoodIn wsL_law (wsV RL 92 RX11 yX11_verdicts wsX11_verdicts) := goodIn_app (goodIn_of _ (by decide +kernel)) ggL_law_X11_verdicts
