theorem dX12_in_0 : decode cX12_in 0 = .ok (.iload_n 0, 1) := by decide +kernel
theorem dX12_in_1 : decode cX12_in 1 = .ok (.iload_n 1, 1) := by decide +kernel
theorem dX12_in_10 : decode cX12_in 10 = .ok (.iconst 1, 1) := by decide +kernel
theorem dX12_in_11 : decode cX12_in 11 = .ok (.goto 4, 3) := by decide +kernel
theorem dX12_in_14 : decode cX12_in 14 = .ok (.iconst 0, 1) := by decide +kernel
theorem dX12_in_15 : decode cX12_in 15 = .ok (.ireturn, 1) := by decide +kernel
theorem dX12_in_2 : decode cX12_in 2 = .ok (.if_icmp .lt 12, 3) := by decide +kernel
theorem dX12_in_5 : decode cX12_in 5 = .ok (.iload_n 0, 1) := by decide +kernel
theorem dX12_in_6 : decode cX12_in 6 = .ok (.iload_n 2, 1) := by decide +kernel
theorem dX12_in_7 : decode cX12_in 7 = .ok (.if_icmp .gt 7, 3) := by decide +kernel
set_option maxRecDepth 20000 in
theorem ggX12_isPoint_X12_in : GoodIn wsX12_isPoint wsX12_in := goodIn_r _ [5] (by decide +kernel) (by decide +kernel)
set_option maxRecDepth 20000 in
theorem gX12_isPoint_X12_in : GoodIn wsX12_isPoint (va_wsS RX12 66 yX12_in wsX12_in) := goodIn_app (goodIn_of _ (by decide +kernel)) ggX12_isPoint_X12_in
theorem dX12_isPoint_0 : decode cX12_isPoint 0 = .ok (.iload_n 1, 1) := by decide +kernel
theorem dX12_isPoint_1 : decode cX12_isPoint 1 = .ok (.iconst 0, 1) := by decide +kernel
theorem dX12_isPoint_11 : decode cX12_isPoint 11 = .ok (.ireturn, 1) := by decide +kernel
theorem dX12_isPoint_2 : decode cX12_isPoint 2 = .ok (.aload_n 0, 1) := by decide +kernel
theorem dX12_isPoint_3 : decode cX12_isPoint 3 = .ok (.getfield 63, 3) := by decide +kernel
theorem dX12_isPoint_6 : decode cX12_isPoint 6 = .ok (.iconst 1, 1) := by decide +kernel
theorem dX12_isPoint_7 : decode cX12_isPoint 7 = .ok (.isub, 1) := by decide +kernel
theorem dX12_isPoint_8 : decode cX12_isPoint 8 = .ok (.invokestatic 66, 3) := by decide +kernel
set_option maxRecDepth 20000 in
theorem ggX12_areTwo_X12_isPoint : GoodIn wsX12_areTwo wsX12_isPoint := goodIn_r _ [5, 6, 7, 8, 4, 9, 10, 11, 12, 13, 14, 15, 16, 17, 18, 19, 20, 21, 22, 23, 24, 25, 26, 27, 28, 29, 30, 31, 32, 33] (by decide +kernel) (by decide +kernel)
set_option maxRecDepth 20000 in
theorem gX12_areTwo_X12_isPoint : GoodIn wsX12_areTwo (wsV RX12 74 RX12 yX12_isPoint wsX12_isPoint) := goodIn_app (goodIn_of _ (by decide +kernel)) ggX12_areTwo_X12_isPoint
theorem dX12_areTwo_0 : decode cX12_areTwo 0 = .ok (.aload_n 0, 1) := by decide +kernel
theorem dX12_areTwo_1 : decode cX12_areTwo 1 = .ok (.iload_n 1, 1) := by decide +kernel
theorem dX12_areTwo_2 : decode cX12_areTwo 2 = .ok (.invokevirtual 74, 3) := by decide +kernel
theorem dX12_areTwo_25 : decode cX12_areTwo 25 = .ok (.iconst 0, 1) := by decide +kernel
theorem dX12_areTwo_26 : decode cX12_areTwo 26 = .ok (.ireturn, 1) := by decide +kernel
theorem dX12_areTwo_5 : decode cX12_areTwo 5 = .ok (.ifCond .eq 20, 3) := by decide +kernel
set_option maxRecDepth 20000 in
theorem ggX12_line_X12_areTwo : GoodIn wsX12_line wsX12_areTwo := goodIn_r _ [6, 7, 8, 9, 5, 10, 11, 12, 13, 14, 19, 20, 21, 22, 23, 24, 25, 26, 27, 28, 29, 30, 31, 32, 33, 34, 35, 36, 37, 38, 39, 40, 41, 42] (by decide +kernel) (by decide +kernel)
set_option maxRecDepth 20000 in
theorem gX12_line_X12_areTwo : GoodIn wsX12_line (wsV RX12 78 RX12 yX12_areTwo wsX12_areTwo) := goodIn_app (goodIn_of _ (by decide +kernel)) ggX12_line_X12_areTwo
theorem dX12_line_0 : decode cX12_line 0 = .ok (.aload_n 0, 1) := by decide +kernel
theorem dX12_line_1 : decode cX12_line 1 = .ok (.iload_n 1, 1) := by decide +kernel
theorem dX12_line_18 : decode cX12_line 18 = .ok (.bipush (-2), 2) := by decide +kernel
theorem dX12_line_2 : decode cX12_line 2 = .ok (.iload_n 2, 1) := by decide +kernel
theorem dX12_line_20 : decode cX12_line 20 = .ok (.ireturn, 1) := by decide +kernel
theorem dX12_line_3 : decode cX12_line 3 = .ok (.invokevirtual 78, 3) := by decide +kernel
theorem dX12_line_6 : decode cX12_line 6 = .ok (.ifCond .eq 12, 3) := by decide +kernel
set_option maxRecDepth 20000 in
theorem ggX12_next_X12_isPoint : GoodIn wsX12_next wsX12_isPoint := goodIn_r _ [6, 7, 8, 9, 5, 10, 11, 12, 13, 14, 15, 16, 17, 18, 19, 20, 21, 22, 23, 24, 25, 26, 27, 28, 29, 30, 31, 32, 33, 34] (by decide +kernel) (by decide +kernel)
set_option maxRecDepth 20000 in
theorem gX12_next_X12_isPoint : GoodIn wsX12_next (wsV RX12 74 RX12 yX12_isPoint wsX12_isPoint) := goodIn_app (goodIn_of _ (by decide +kernel)) ggX12_next_X12_isPoint
theorem dX12_next_0 : decode cX12_next 0 = .ok (.aload_n 0, 1) := by decide +kernel
theorem dX12_next_1 : decode cX12_next 1 = .ok (.iload_n 1, 1) := by decide +kernel
theorem dX12_next_17 : decode cX12_next 17 = .ok (.bipush (-2), 2) := by decide +kernel
theorem dX12_next_19 : decode cX12_next 19 = .ok (.ireturn, 1) := by decide +kernel
theorem dX12_next_2 : decode cX12_next 2 = .ok (.invokevirtual 74, 3) := by decide +kernel
theorem dX12_next_5 : decode cX12_next 5 = .ok (.ifCond .eq 12, 3) := by decide +kernel
theorem dX12_lines_0 : decode cX12_lines 0 = .ok (.iconst 0, 1) := by decide +kernel
theorem dX12_lines_1 : decode cX12_lines 1 = .ok (.istore_n 1, 1) := by decide +kernel
theorem dX12_lines_2 : decode cX12_lines 2 = .ok (.iconst 0, 1) := by decide +kernel
theorem dX12_lines_3 : decode cX12_lines 3 = .ok (.istore_n 2, 1) := by decide +kernel
theorem dX12_lines_30 : decode cX12_lines 30 = .ok (.iload_n 1, 1) := by decide +kernel
theorem dX12_lines_31 : decode cX12_lines 31 = .ok (.iconst 2, 1) := by decide +kernel
theorem dX12_lines_32 : decode cX12_lines 32 = .ok (.idiv, 1) := by decide +kernel
theorem dX12_lines_33 : decode cX12_lines 33 = .ok (.ireturn, 1) := by decide +kernel
theorem dX12_lines_4 : decode cX12_lines 4 = .ok (.iload_n 2, 1) := by decide +kernel
theorem dX12_lines_5 : decode cX12_lines 5 = .ok (.aload_n 0, 1) := by decide +kernel
theorem dX12_lines_6 : decode cX12_lines 6 = .ok (.getfield 63, 3) := by decide +kernel
theorem dX12_lines_9 : decode cX12_lines 9 = .ok (.if_icmp .ge 21, 3) := by decide +kernel
theorem dX12_all_0 : decode cX12_all 0 = .ok (.iconst 1, 1) := by decide +kernel
theorem dX12_all_1 : decode cX12_all 1 = .ok (.aload_n 0, 1) := by decide +kernel
theorem dX12_all_2 : decode cX12_all 2 = .ok (.getfield 63, 3) := by decide +kernel
theorem dX12_all_5 : decode cX12_all 5 = .ok (.ishl, 1) := by decide +kernel
theorem dX12_all_6 : decode cX12_all 6 = .ok (.iconst 1, 1) := by decide +kernel
theorem dX12_all_7 : decode cX12_all 7 = .ok (.isub, 1) := by decide +kernel
theorem dX12_all_8 : decode cX12_all 8 = .ok (.ireturn, 1) := by decide +kernel
set_option maxRecDepth 20000 in
theorem ggX12_reckons_X12_all : GoodIn wsX12_reckons wsX12_all := goodIn_r _ [9, 3, 16, 17, 18, 19, 20, 21, 22, 23, 24, 25, 26, 27, 28, 29, 30, 31, 32, 33, 34, 35, 36, 37, 38, 39] (by decide +kernel) (by decide +kernel)
set_option maxRecDepth 20000 in
theorem gX12_reckons_X12_all : GoodIn wsX12_reckons (wsV RX12 70 RX12 yX12_all wsX12_all) := goodIn_app (goodIn_of _ (by decide +kernel)) ggX12_reckons_X12_all
theorem dX12_reckons_0 : decode cX12_reckons 0 = .ok (.aload_n 0, 1) := by decide +kernel
theorem dX12_reckons_1 : decode cX12_reckons 1 = .ok (.getfield 20, 3) := by decide +kernel
theorem dX12_reckons_10 : decode cX12_reckons 10 = .ok (.aload_n 0, 1) := by decide +kernel
theorem dX12_reckons_11 : decode cX12_reckons 11 = .ok (.invokevirtual 70, 3) := by decide +kernel
theorem dX12_reckons_14 : decode cX12_reckons 14 = .ok (.if_icmp .gt 224, 3) := by decide +kernel
theorem dX12_reckons_238 : decode cX12_reckons 238 = .ok (.return_, 1) := by decide +kernel
theorem dX12_reckons_4 : decode cX12_reckons 4 = .ok (.iconst 0, 1) := by decide +kernel
theorem dX12_reckons_5 : decode cX12_reckons 5 = .ok (.iconst 1, 1) := by decide +kernel
theorem dX12_reckons_6 : decode cX12_reckons 6 = .ok (.iastore, 1) := by decide +kernel
theorem dX12_reckons_7 : decode cX12_reckons 7 = .ok (.iconst 1, 1) := by decide +kernel
theorem dX12_reckons_8 : decode cX12_reckons 8 = .ok (.istore_n 1, 1) := by decide +kernel
theorem dX12_reckons_9 : decode cX12_reckons 9 = .ok (.iload_n 1, 1) := by decide +kernel
set_option maxRecDepth 20000 in
theorem ggX12_greatest_X12_all : GoodIn wsX12_greatest wsX12_all := goodIn_r _ [13, 8, 20, 21, 22, 23, 24, 25, 26, 27, 28, 29, 30, 31, 32, 33, 34, 35, 36, 37, 38, 39, 40, 41, 42, 43] (by decide +kernel) (by decide +kernel)
set_option maxRecDepth 20000 in
theorem gX12_greatest_X12_all : GoodIn wsX12_greatest (wsV RX12 70 RX12 yX12_all wsX12_all) := goodIn_app (goodIn_of _ (by decide +kernel)) ggX12_greatest_X12_all
set_option maxRecDepth 20000 in
theorem ggX12_greatest_X12_reckons : GoodIn wsX12_greatest wsX12_reckons := goodIn_r _ [6, 7, 1, 8, 9, 10, 11, 12, 5, 13, 14, 15, 16, 17, 18, 19, 20, 21, 22, 23, 24, 25, 26, 27, 28, 29, 30, 31, 32, 33, 34, 35, 36, 37, 38, 39, 40, 41, 42, 43] (by decide +kernel) (by decide +kernel)
set_option maxRecDepth 20000 in
theorem gX12_greatest_X12_reckons : GoodIn wsX12_greatest (wsV RX12 107 RX12 yX12_reckons wsX12_reckons) := goodIn_app (goodIn_of _ (by decide +kernel)) ggX12_greatest_X12_reckons
theorem dX12_greatest_0 : decode cX12_greatest 0 = .ok (.aload_n 0, 1) := by decide +kernel
theorem dX12_greatest_1 : decode cX12_greatest 1 = .ok (.invokevirtual 107, 3) := by decide +kernel
theorem dX12_greatest_12 : decode cX12_greatest 12 = .ok (.iaload, 1) := by decide +kernel
theorem dX12_greatest_13 : decode cX12_greatest 13 = .ok (.ireturn, 1) := by decide +kernel
theorem dX12_greatest_4 : decode cX12_greatest 4 = .ok (.aload_n 0, 1) := by decide +kernel
theorem dX12_greatest_5 : decode cX12_greatest 5 = .ok (.getfield 17, 3) := by decide +kernel
theorem dX12_greatest_8 : decode cX12_greatest 8 = .ok (.aload_n 0, 1) := by decide +kernel
theorem dX12_greatest_9 : decode cX12_greatest 9 = .ok (.invokevirtual 70, 3) := by decide +kernel
set_option maxRecDepth 20000 in
theorem ggX12_lack_X12_greatest : GoodIn wsX12_lack wsX12_greatest := goodIn_r _ [6, 7, 8, 9, 10, 5, 11, 12, 1, 13, 14, 15, 16, 17, 18, 19, 20, 21, 22, 23, 24, 25, 26, 27, 28, 29, 30, 31, 32, 33, 34, 35, 36, 37, 38, 39, 40, 41, 42, 43, 44, 45, 46, 47] (by decide +kernel) (by decide +kernel)
set_option maxRecDepth 20000 in
theorem gX12_lack_X12_greatest : GoodIn wsX12_lack (wsV RX12 92 RX12 yX12_greatest wsX12_greatest) := goodIn_app (goodIn_of _ (by decide +kernel)) ggX12_lack_X12_greatest
theorem dX12_lack_0 : decode cX12_lack 0 = .ok (.aload_n 0, 1) := by decide +kernel
theorem dX12_lack_1 : decode cX12_lack 1 = .ok (.getfield 63, 3) := by decide +kernel
theorem dX12_lack_10 : decode cX12_lack 10 = .ok (.isub, 1) := by decide +kernel
theorem dX12_lack_11 : decode cX12_lack 11 = .ok (.ireturn, 1) := by decide +kernel
theorem dX12_lack_4 : decode cX12_lack 4 = .ok (.iconst 2, 1) := by decide +kernel
theorem dX12_lack_5 : decode cX12_lack 5 = .ok (.aload_n 0, 1) := by decide +kernel
theorem dX12_lack_6 : decode cX12_lack 6 = .ok (.invokevirtual 92, 3) := by decide +kernel
theorem dX12_lack_9 : decode cX12_lack 9 = .ok (.imul, 1) := by decide +kernel
theorem dX12_piecesOf_0 : decode cX12_piecesOf 0 = .ok (.iconst 0, 1) := by decide +kernel
theorem dX12_piecesOf_1 : decode cX12_piecesOf 1 = .ok (.istore_n 2, 1) := by decide +kernel
theorem dX12_piecesOf_2 : decode cX12_piecesOf 2 = .ok (.iload_n 1, 1) := by decide +kernel
theorem dX12_piecesOf_24 : decode cX12_piecesOf 24 = .ok (.iload_n 2, 1) := by decide +kernel
theorem dX12_piecesOf_25 : decode cX12_piecesOf 25 = .ok (.ireturn, 1) := by decide +kernel
theorem dX12_piecesOf_3 : decode cX12_piecesOf 3 = .ok (.istore_n 3, 1) := by decide +kernel
theorem dX12_piecesOf_4 : decode cX12_piecesOf 4 = .ok (.iload_n 3, 1) := by decide +kernel
theorem dX12_piecesOf_5 : decode cX12_piecesOf 5 = .ok (.ifCond .eq 19, 3) := by decide +kernel
set_option maxRecDepth 20000 in
theorem ggX12_count_X12_all : GoodIn wsX12_count wsX12_all := goodIn_r _ [26, 1, 45, 46, 47, 48, 49, 50, 51, 52, 53, 54, 55, 56, 57, 58, 59, 60, 61, 62, 63, 64, 65, 66, 67, 68] (by decide +kernel) (by decide +kernel)
set_option maxRecDepth 20000 in
theorem gX12_count_X12_all : GoodIn wsX12_count (wsV RX12 70 RX12 yX12_all wsX12_all) := goodIn_app (goodIn_of _ (by decide +kernel)) ggX12_count_X12_all
set_option maxRecDepth 20000 in
theorem ggX12_count_X12_greatest : GoodIn wsX12_count wsX12_greatest := goodIn_r _ [16, 17, 18, 19, 20, 7, 21, 22, 1, 9, 23, 24, 25, 26, 27, 28, 29, 30, 31, 32, 45, 46, 47, 48, 49, 50, 51, 52, 53, 54, 55, 56, 57, 58, 59, 60, 61, 62, 63, 64, 65, 66, 67, 68] (by decide +kernel) (by decide +kernel)
set_option maxRecDepth 20000 in
theorem gX12_count_X12_greatest : GoodIn wsX12_count (wsV RX12 92 RX12 yX12_greatest wsX12_greatest) := goodIn_app (goodIn_of _ (by decide +kernel)) ggX12_count_X12_greatest
set_option maxRecDepth 20000 in
theorem ggX12_count_X12_lack : GoodIn wsX12_count wsX12_lack := goodIn_r _ [36, 1, 13, 14, 15, 7, 16, 17, 18, 19, 20, 21, 22, 9, 23, 24, 25, 26, 27, 28, 29, 30, 31, 32, 45, 46, 47, 48, 49, 50, 51, 52, 53, 54, 55, 56, 57, 58, 59, 60, 61, 62, 63, 64, 65, 66, 67, 68] (by decide +kernel) (by decide +kernel)
set_option maxRecDepth 20000 in
theorem gX12_count_X12_lack : GoodIn wsX12_count (wsV RX12 95 RX12 yX12_lack wsX12_lack) := goodIn_app (goodIn_of _ (by decide +kernel)) ggX12_count_X12_lack
set_option maxRecDepth 20000 in
theorem ggX12_count_X12_lines : GoodIn wsX12_count wsX12_lines := goodIn_r _ [8, 1, 9, 10, 11, 7, 12, 45, 46, 47, 48, 49, 50, 51, 52, 53, 54, 55, 56, 57, 58, 59, 60, 61, 62, 63, 64, 65, 66, 67, 68] (by decide +kernel) (by decide +kernel)
set_option maxRecDepth 20000 in
theorem gX12_count_X12_lines : GoodIn wsX12_count (wsV RX12 89 RX12 yX12_lines wsX12_lines) := goodIn_app (goodIn_of _ (by decide +kernel)) ggX12_count_X12_lines
set_option maxRecDepth 20000 in
theorem ggX12_count_X12_piecesOf : GoodIn wsX12_count wsX12_piecesOf := goodIn_r _ [40, 41, 42, 43, 7, 44, 1, 9, 30, 31, 32, 45, 46, 47, 48, 49, 50, 51, 52, 53, 54, 55, 56, 57, 58, 59, 60, 61, 62, 63, 64, 65, 66, 67, 68] (by decide +kernel) (by decide +kernel)
set_option maxRecDepth 20000 in
theorem gX12_count_X12_piecesOf : GoodIn wsX12_count (wsV RX12 98 RX12 yX12_piecesOf wsX12_piecesOf) := goodIn_app (goodIn_of _ (by decide +kernel)) ggX12_count_X12_piecesOf
theorem dX12_count_0 : decode cX12_count 0 = .ok (.iload_n 1, 1) := by decide +kernel
theorem dX12_count_1 : decode cX12_count 1 = .ok (.tableswitch 82 0 6 #[43, 48, 53, 58, 63, 72, 77], 43) := by decide +kernel
theorem dX12_count_44 : decode cX12_count 44 = .ok (.aload_n 0, 1) := by decide +kernel
theorem dX12_count_45 : decode cX12_count 45 = .ok (.getfield 63, 3) := by decide +kernel
theorem dX12_count_48 : decode cX12_count 48 = .ok (.ireturn, 1) := by decide +kernel
theorem dX12_count_49 : decode cX12_count 49 = .ok (.aload_n 0, 1) := by decide +kernel
theorem dX12_count_50 : decode cX12_count 50 = .ok (.invokevirtual 89, 3) := by decide +kernel
theorem dX12_count_53 : decode cX12_count 53 = .ok (.ireturn, 1) := by decide +kernel
theorem dX12_count_54 : decode cX12_count 54 = .ok (.aload_n 0, 1) := by decide +kernel
theorem dX12_count_55 : decode cX12_count 55 = .ok (.invokevirtual 92, 3) := by decide +kernel
theorem dX12_count_58 : decode cX12_count 58 = .ok (.ireturn, 1) := by decide +kernel
theorem dX12_count_59 : decode cX12_count 59 = .ok (.aload_n 0, 1) := by decide +kernel
theorem dX12_count_60 : decode cX12_count 60 = .ok (.invokevirtual 95, 3) := by decide +kernel
theorem dX12_count_63 : decode cX12_count 63 = .ok (.ireturn, 1) := by decide +kernel
theorem dX12_count_64 : decode cX12_count 64 = .ok (.aload_n 0, 1) := by decide +kernel
theorem dX12_count_65 : decode cX12_count 65 = .ok (.aload_n 0, 1) := by decide +kernel
theorem dX12_count_66 : decode cX12_count 66 = .ok (.invokevirtual 70, 3) := by decide +kernel
theorem dX12_count_69 : decode cX12_count 69 = .ok (.invokevirtual 98, 3) := by decide +kernel
theorem dX12_count_72 : decode cX12_count 72 = .ok (.ireturn, 1) := by decide +kernel
theorem dX12_count_73 : decode cX12_count 73 = .ok (.aload_n 0, 1) := by decide +kernel
theorem dX12_count_74 : decode cX12_count 74 = .ok (.getfield 101, 3) := by decide +kernel
theorem dX12_count_77 : decode cX12_count 77 = .ok (.ireturn, 1) := by decide +kernel
theorem dX12_count_78 : decode cX12_count 78 = .ok (.aload_n 0, 1) := by decide +kernel
theorem dX12_count_79 : decode cX12_count 79 = .ok (.getfield 7, 3) := by decide +kernel
theorem dX12_count_82 : decode cX12_count 82 = .ok (.ireturn, 1) := by decide +kernel
theorem dX12_count_83 : decode cX12_count 83 = .ok (.bipush (-2), 2) := by decide +kernel
theorem dX12_count_85 : decode cX12_count 85 = .ok (.ireturn, 1) := by decide +kernel
set_option maxRecDepth 20000 in
theorem ggX12_isSet_X12_all : GoodIn wsX12_isSet wsX12_all := goodIn_r _ [5, 6, 7, 8, 9, 10, 11, 12, 13, 14, 15, 16, 17, 18, 19, 20, 21, 22, 23, 24, 25, 26, 27, 28, 29, 30] (by decide +kernel) (by decide +kernel)
set_option maxRecDepth 20000 in
theorem gX12_isSet_X12_all : GoodIn wsX12_isSet (wsV RX12 70 RX12 yX12_all wsX12_all) := goodIn_app (goodIn_of _ (by decide +kernel)) ggX12_isSet_X12_all
theorem dX12_isSet_0 : decode cX12_isSet 0 = .ok (.iload_n 1, 1) := by decide +kernel
theorem dX12_isSet_1 : decode cX12_isSet 1 = .ok (.aload_n 0, 1) := by decide +kernel
theorem dX12_isSet_11 : decode cX12_isSet 11 = .ok (.iconst 1, 1) := by decide +kernel
theorem dX12_isSet_12 : decode cX12_isSet 12 = .ok (.goto 4, 3) := by decide +kernel
theorem dX12_isSet_15 : decode cX12_isSet 15 = .ok (.iconst 0, 1) := by decide +kernel
theorem dX12_isSet_16 : decode cX12_isSet 16 = .ok (.ireturn, 1) := by decide +kernel
theorem dX12_isSet_2 : decode cX12_isSet 2 = .ok (.invokevirtual 70, 3) := by decide +kernel
theorem dX12_isSet_5 : decode cX12_isSet 5 = .ok (.iconst (-1), 1) := by decide +kernel
theorem dX12_isSet_6 : decode cX12_isSet 6 = .ok (.ixor, 1) := by decide +kernel
theorem dX12_isSet_7 : decode cX12_isSet 7 = .ok (.iand, 1) := by decide +kernel
theorem dX12_isSet_8 : decode cX12_isSet 8 = .ok (.ifCond .ne 7, 3) := by decide +kernel
set_option maxRecDepth 20000 in
theorem ggX12_most_X12_isSet : GoodIn wsX12_most wsX12_isSet := goodIn_r _ [6, 7, 8, 9, 5, 10, 11, 24, 25, 26, 27, 28, 29, 30, 31, 32, 33, 34, 35, 36, 37, 38, 39, 40, 41, 42, 43, 44, 45, 46, 47] (by decide +kernel) (by decide +kernel)
set_option maxRecDepth 20000 in
theorem gX12_most_X12_isSet : GoodIn wsX12_most (wsV RX12 110 RX12 yX12_isSet wsX12_isSet) := goodIn_app (goodIn_of _ (by decide +kernel)) ggX12_most_X12_isSet
set_option maxRecDepth 20000 in
theorem ggX12_most_X12_reckons : GoodIn wsX12_most wsX12_reckons := goodIn_r _ [15, 16, 1, 11, 17, 7, 8, 9, 5, 10, 18, 19, 20, 21, 22, 23, 24, 25, 26, 27, 28, 29, 30, 31, 32, 33, 34, 35, 36, 37, 38, 39, 40, 41, 42, 43, 44, 45, 46, 47] (by decide +kernel) (by decide +kernel)
set_option maxRecDepth 20000 in
theorem gX12_most_X12_reckons : GoodIn wsX12_most (wsV RX12 107 RX12 yX12_reckons wsX12_reckons) := goodIn_app (goodIn_of _ (by decide +kernel)) ggX12_most_X12_reckons
theorem dX12_most_0 : decode cX12_most 0 = .ok (.aload_n 0, 1) := by decide +kernel
theorem dX12_most_1 : decode cX12_most 1 = .ok (.iload_n 1, 1) := by decide +kernel
theorem dX12_most_10 : decode cX12_most 10 = .ok (.ireturn, 1) := by decide +kernel
theorem dX12_most_11 : decode cX12_most 11 = .ok (.aload_n 0, 1) := by decide +kernel
theorem dX12_most_12 : decode cX12_most 12 = .ok (.invokevirtual 107, 3) := by decide +kernel
theorem dX12_most_15 : decode cX12_most 15 = .ok (.aload_n 0, 1) := by decide +kernel
theorem dX12_most_16 : decode cX12_most 16 = .ok (.getfield 17, 3) := by decide +kernel
theorem dX12_most_19 : decode cX12_most 19 = .ok (.iload_n 1, 1) := by decide +kernel
theorem dX12_most_2 : decode cX12_most 2 = .ok (.invokevirtual 110, 3) := by decide +kernel
theorem dX12_most_20 : decode cX12_most 20 = .ok (.iaload, 1) := by decide +kernel
theorem dX12_most_21 : decode cX12_most 21 = .ok (.ireturn, 1) := by decide +kernel
theorem dX12_most_5 : decode cX12_most 5 = .ok (.ifCond .ne 6, 3) := by decide +kernel
theorem dX12_most_8 : decode cX12_most 8 = .ok (.bipush (-2), 2) := by decide +kernel
set_option maxRecDepth 20000 in
theorem ggX12_mate_X12_isPoint : GoodIn wsX12_mate wsX12_isPoint := goodIn_r _ [6, 7, 8, 9, 5, 10, 36, 37, 38, 39, 40, 41, 42, 43, 44, 45, 46, 47, 48, 49, 50, 51, 52, 53, 54, 55, 56, 57, 58, 59] (by decide +kernel) (by decide +kernel)
set_option maxRecDepth 20000 in
theorem gX12_mate_X12_isPoint : GoodIn wsX12_mate (wsV RX12 74 RX12 yX12_isPoint wsX12_isPoint) := goodIn_app (goodIn_of _ (by decide +kernel)) ggX12_mate_X12_isPoint
theorem dX12_mate_0 : decode cX12_mate 0 = .ok (.aload_n 0, 1) := by decide +kernel
theorem dX12_mate_1 : decode cX12_mate 1 = .ok (.iload_n 1, 1) := by decide +kernel
theorem dX12_mate_10 : decode cX12_mate 10 = .ok (.ireturn, 1) := by decide +kernel
theorem dX12_mate_2 : decode cX12_mate 2 = .ok (.invokevirtual 74, 3) := by decide +kernel
theorem dX12_mate_5 : decode cX12_mate 5 = .ok (.ifCond .ne 6, 3) := by decide +kernel
theorem dX12_mate_8 : decode cX12_mate 8 = .ok (.bipush (-2), 2) := by decide +kernel
set_option maxRecDepth 20000 in
theorem ggX12_ways_X12_all : GoodIn wsX12_ways wsX12_all := goodIn_r _ [11, 2, 18, 19, 20, 21, 22, 23, 24, 25, 26, 27, 28, 29, 30, 31, 32, 33, 34, 35, 36, 37, 38, 39, 40, 41] (by decide +kernel) (by decide +kernel)
set_option maxRecDepth 20000 in
theorem gX12_ways_X12_all : GoodIn wsX12_ways (wsV RX12 70 RX12 yX12_all wsX12_all) := goodIn_app (goodIn_of _ (by decide +kernel)) ggX12_ways_X12_all
set_option maxRecDepth 20000 in
theorem ggX12_ways_X12_in : GoodIn wsX12_ways wsX12_in := goodIn_r _ [7] (by decide +kernel) (by decide +kernel)
set_option maxRecDepth 20000 in
theorem gX12_ways_X12_in : GoodIn wsX12_ways (va_wsS RX12 66 yX12_in wsX12_in) := goodIn_app (goodIn_of _ (by decide +kernel)) ggX12_ways_X12_in
theorem dX12_ways_0 : decode cX12_ways 0 = .ok (.iload_n 1, 1) := by decide +kernel
theorem dX12_ways_1 : decode cX12_ways 1 = .ok (.iconst 0, 1) := by decide +kernel
theorem dX12_ways_10 : decode cX12_ways 10 = .ok (.bipush (-2), 2) := by decide +kernel
theorem dX12_ways_12 : decode cX12_ways 12 = .ok (.ireturn, 1) := by decide +kernel
theorem dX12_ways_13 : decode cX12_ways 13 = .ok (.iconst 0, 1) := by decide +kernel
theorem dX12_ways_14 : decode cX12_ways 14 = .ok (.istore_n 2, 1) := by decide +kernel
theorem dX12_ways_15 : decode cX12_ways 15 = .ok (.iload_n 2, 1) := by decide +kernel
theorem dX12_ways_16 : decode cX12_ways 16 = .ok (.bipush 7, 2) := by decide +kernel
theorem dX12_ways_18 : decode cX12_ways 18 = .ok (.if_icmp .ge 24, 3) := by decide +kernel
theorem dX12_ways_2 : decode cX12_ways 2 = .ok (.bipush 6, 2) := by decide +kernel
theorem dX12_ways_204 : decode cX12_ways 204 = .ok (.aload_n 0, 1) := by decide +kernel
theorem dX12_ways_205 : decode cX12_ways 205 = .ok (.getfield 23, 3) := by decide +kernel
theorem dX12_ways_208 : decode cX12_ways 208 = .ok (.bipush 7, 2) := by decide +kernel
theorem dX12_ways_21 : decode cX12_ways 21 = .ok (.aload_n 0, 1) := by decide +kernel
theorem dX12_ways_210 : decode cX12_ways 210 = .ok (.aload_n 0, 1) := by decide +kernel
theorem dX12_ways_211 : decode cX12_ways 211 = .ok (.invokevirtual 70, 3) := by decide +kernel
theorem dX12_ways_214 : decode cX12_ways 214 = .ok (.imul, 1) := by decide +kernel
theorem dX12_ways_215 : decode cX12_ways 215 = .ok (.iload_n 1, 1) := by decide +kernel
theorem dX12_ways_216 : decode cX12_ways 216 = .ok (.iadd, 1) := by decide +kernel
theorem dX12_ways_217 : decode cX12_ways 217 = .ok (.iaload, 1) := by decide +kernel
theorem dX12_ways_218 : decode cX12_ways 218 = .ok (.ireturn, 1) := by decide +kernel
theorem dX12_ways_22 : decode cX12_ways 22 = .ok (.getfield 23, 3) := by decide +kernel
theorem dX12_ways_25 : decode cX12_ways 25 = .ok (.iload_n 2, 1) := by decide +kernel
theorem dX12_ways_26 : decode cX12_ways 26 = .ok (.iload_n 2, 1) := by decide +kernel
theorem dX12_ways_27 : decode cX12_ways 27 = .ok (.ifCond .ne 7, 3) := by decide +kernel
theorem dX12_ways_30 : decode cX12_ways 30 = .ok (.iconst 1, 1) := by decide +kernel
theorem dX12_ways_31 : decode cX12_ways 31 = .ok (.goto 4, 3) := by decide +kernel
theorem dX12_ways_34 : decode cX12_ways 34 = .ok (.iconst 0, 1) := by decide +kernel
theorem dX12_ways_35 : decode cX12_ways 35 = .ok (.iastore, 1) := by decide +kernel
theorem dX12_ways_36 : decode cX12_ways 36 = .ok (.iinc 2 1, 3) := by decide +kernel
theorem dX12_ways_39 : decode cX12_ways 39 = .ok (.goto (-24), 3) := by decide +kernel
theorem dX12_ways_4 : decode cX12_ways 4 = .ok (.invokestatic 66, 3) := by decide +kernel
theorem dX12_ways_42 : decode cX12_ways 42 = .ok (.iconst 1, 1) := by decide +kernel
theorem dX12_ways_43 : decode cX12_ways 43 = .ok (.istore_n 2, 1) := by decide +kernel
theorem dX12_ways_44 : decode cX12_ways 44 = .ok (.iload_n 2, 1) := by decide +kernel
theorem dX12_ways_45 : decode cX12_ways 45 = .ok (.aload_n 0, 1) := by decide +kernel
theorem dX12_ways_46 : decode cX12_ways 46 = .ok (.invokevirtual 70, 3) := by decide +kernel
theorem dX12_ways_49 : decode cX12_ways 49 = .ok (.if_icmp .gt 155, 3) := by decide +kernel
theorem dX12_ways_7 : decode cX12_ways 7 = .ok (.ifCond .ne 6, 3) := by decide +kernel
set_option maxRecDepth 20000 in
theorem ggX12_mark_X12_isPoint : GoodIn wsX12_mark wsX12_isPoint := goodIn_r _ [5, 6, 7, 8, 4, 9, 35, 36, 37, 38, 39, 40, 41, 42, 43, 44, 45, 46, 47, 48, 49, 50, 51, 52, 53, 54, 55, 56, 57, 58] (by decide +kernel) (by decide +kernel)
set_option maxRecDepth 20000 in
theorem gX12_mark_X12_isPoint : GoodIn wsX12_mark (wsV RX12 74 RX12 yX12_isPoint wsX12_isPoint) := goodIn_app (goodIn_of _ (by decide +kernel)) ggX12_mark_X12_isPoint
theorem dX12_mark_0 : decode cX12_mark 0 = .ok (.aload_n 0, 1) := by decide +kernel
theorem dX12_mark_1 : decode cX12_mark 1 = .ok (.iload_n 1, 1) := by decide +kernel
theorem dX12_mark_10 : decode cX12_mark 10 = .ok (.ireturn, 1) := by decide +kernel
theorem dX12_mark_2 : decode cX12_mark 2 = .ok (.invokevirtual 74, 3) := by decide +kernel
theorem dX12_mark_5 : decode cX12_mark 5 = .ok (.ifCond .ne 6, 3) := by decide +kernel
theorem dX12_mark_8 : decode cX12_mark 8 = .ok (.bipush (-2), 2) := by decide +kernel
set_option maxRecDepth 20000 in
theorem ggX12_markedSet_X12_all : GoodIn wsX12_markedSet wsX12_all := goodIn_r _ [12, 1, 13, 14, 15, 16, 17, 18, 19, 20, 21, 22, 23, 24, 25, 26, 27, 28, 29, 30, 31, 32, 33, 34, 35, 36] (by decide +kernel) (by decide +kernel)
set_option maxRecDepth 20000 in
theorem gX12_markedSet_X12_all : GoodIn wsX12_markedSet (wsV RX12 70 RX12 yX12_all wsX12_all) := goodIn_app (goodIn_of _ (by decide +kernel)) ggX12_markedSet_X12_all
theorem dX12_markedSet_0 : decode cX12_markedSet 0 = .ok (.iconst 0, 1) := by decide +kernel
theorem dX12_markedSet_1 : decode cX12_markedSet 1 = .ok (.istore_n 2, 1) := by decide +kernel
theorem dX12_markedSet_10 : decode cX12_markedSet 10 = .ok (.getfield 63, 3) := by decide +kernel
theorem dX12_markedSet_100 : decode cX12_markedSet 100 = .ok (.iconst (-1), 1) := by decide +kernel
theorem dX12_markedSet_101 : decode cX12_markedSet 101 = .ok (.ixor, 1) := by decide +kernel
theorem dX12_markedSet_102 : decode cX12_markedSet 102 = .ok (.iand, 1) := by decide +kernel
theorem dX12_markedSet_103 : decode cX12_markedSet 103 = .ok (.ireturn, 1) := by decide +kernel
theorem dX12_markedSet_13 : decode cX12_markedSet 13 = .ok (.if_icmp .ge 52, 3) := by decide +kernel
theorem dX12_markedSet_2 : decode cX12_markedSet 2 = .ok (.iconst 0, 1) := by decide +kernel
theorem dX12_markedSet_3 : decode cX12_markedSet 3 = .ok (.istore_n 3, 1) := by decide +kernel
theorem dX12_markedSet_4 : decode cX12_markedSet 4 = .ok (.iconst 0, 1) := by decide +kernel
theorem dX12_markedSet_5 : decode cX12_markedSet 5 = .ok (.istore 4, 2) := by decide +kernel
theorem dX12_markedSet_65 : decode cX12_markedSet 65 = .ok (.iload_n 3, 1) := by decide +kernel
theorem dX12_markedSet_66 : decode cX12_markedSet 66 = .ok (.iload_n 2, 1) := by decide +kernel
theorem dX12_markedSet_67 : decode cX12_markedSet 67 = .ok (.iconst (-1), 1) := by decide +kernel
theorem dX12_markedSet_68 : decode cX12_markedSet 68 = .ok (.ixor, 1) := by decide +kernel
theorem dX12_markedSet_69 : decode cX12_markedSet 69 = .ok (.iand, 1) := by decide +kernel
theorem dX12_markedSet_7 : decode cX12_markedSet 7 = .ok (.iload 4, 2) := by decide +kernel
theorem dX12_markedSet_70 : decode cX12_markedSet 70 = .ok (.istore 4, 2) := by decide +kernel
theorem dX12_markedSet_72 : decode cX12_markedSet 72 = .ok (.iload_n 1, 1) := by decide +kernel
theorem dX12_markedSet_73 : decode cX12_markedSet 73 = .ok (.ifCond .ne 7, 3) := by decide +kernel
theorem dX12_markedSet_76 : decode cX12_markedSet 76 = .ok (.iload_n 2, 1) := by decide +kernel
theorem dX12_markedSet_77 : decode cX12_markedSet 77 = .ok (.goto 26, 3) := by decide +kernel
theorem dX12_markedSet_80 : decode cX12_markedSet 80 = .ok (.iload_n 1, 1) := by decide +kernel
theorem dX12_markedSet_81 : decode cX12_markedSet 81 = .ok (.iconst 1, 1) := by decide +kernel
theorem dX12_markedSet_82 : decode cX12_markedSet 82 = .ok (.if_icmp .ne 8, 3) := by decide +kernel
theorem dX12_markedSet_85 : decode cX12_markedSet 85 = .ok (.iload 4, 2) := by decide +kernel
theorem dX12_markedSet_87 : decode cX12_markedSet 87 = .ok (.goto 16, 3) := by decide +kernel
theorem dX12_markedSet_9 : decode cX12_markedSet 9 = .ok (.aload_n 0, 1) := by decide +kernel
theorem dX12_markedSet_90 : decode cX12_markedSet 90 = .ok (.aload_n 0, 1) := by decide +kernel
theorem dX12_markedSet_91 : decode cX12_markedSet 91 = .ok (.invokevirtual 70, 3) := by decide +kernel
theorem dX12_markedSet_94 : decode cX12_markedSet 94 = .ok (.iload_n 2, 1) := by decide +kernel
theorem dX12_markedSet_95 : decode cX12_markedSet 95 = .ok (.iconst (-1), 1) := by decide +kernel
theorem dX12_markedSet_96 : decode cX12_markedSet 96 = .ok (.ixor, 1) := by decide +kernel
theorem dX12_markedSet_97 : decode cX12_markedSet 97 = .ok (.iand, 1) := by decide +kernel
theorem dX12_markedSet_98 : decode cX12_markedSet 98 = .ok (.iload 4, 2) := by decide +kernel
set_option maxRecDepth 20000 in
theorem ggX12_marked_X12_in : GoodIn wsX12_marked wsX12_in := goodIn_r _ [4] (by decide +kernel) (by decide +kernel)
set_option maxRecDepth 20000 in
theorem gX12_marked_X12_in : GoodIn wsX12_marked (va_wsS RX12 66 yX12_in wsX12_in) := goodIn_app (goodIn_of _ (by decide +kernel)) ggX12_marked_X12_in
set_option maxRecDepth 20000 in
theorem ggX12_marked_X12_markedSet : GoodIn wsX12_marked wsX12_markedSet := goodIn_r _ [26, 11, 12, 27, 28, 29, 3, 30, 10, 13, 14, 15, 16, 31, 32, 33, 34, 35, 36, 37, 38, 39, 40, 41, 42, 43, 44, 45, 46, 47, 48, 49, 50, 51, 52, 53, 54] (by decide +kernel) (by decide +kernel)
set_option maxRecDepth 20000 in
theorem gX12_marked_X12_markedSet : GoodIn wsX12_marked (wsV RX12 126 RX12 yX12_markedSet wsX12_markedSet) := goodIn_app (goodIn_of _ (by decide +kernel)) ggX12_marked_X12_markedSet
set_option maxRecDepth 20000 in
theorem ggX12_marked_X12_reckons : GoodIn wsX12_marked wsX12_reckons := goodIn_r _ [8, 9, 10, 11, 12, 13, 14, 15, 3, 16, 17, 18, 19, 20, 21, 22, 31, 32, 33, 34, 35, 36, 37, 38, 39, 40, 41, 42, 43, 44, 45, 46, 47, 48, 49, 50, 51, 52, 53, 54] (by decide +kernel) (by decide +kernel)
set_option maxRecDepth 20000 in
theorem gX12_marked_X12_reckons : GoodIn wsX12_marked (wsV RX12 107 RX12 yX12_reckons wsX12_reckons) := goodIn_app (goodIn_of _ (by decide +kernel)) ggX12_marked_X12_reckons
theorem dX12_marked_0 : decode cX12_marked 0 = .ok (.iload_n 1, 1) := by decide +kernel
theorem dX12_marked_1 : decode cX12_marked 1 = .ok (.iconst 0, 1) := by decide +kernel
theorem dX12_marked_11 : decode cX12_marked 11 = .ok (.ireturn, 1) := by decide +kernel
theorem dX12_marked_12 : decode cX12_marked 12 = .ok (.aload_n 0, 1) := by decide +kernel
theorem dX12_marked_13 : decode cX12_marked 13 = .ok (.invokevirtual 107, 3) := by decide +kernel
theorem dX12_marked_16 : decode cX12_marked 16 = .ok (.aload_n 0, 1) := by decide +kernel
theorem dX12_marked_17 : decode cX12_marked 17 = .ok (.iload_n 1, 1) := by decide +kernel
theorem dX12_marked_18 : decode cX12_marked 18 = .ok (.invokevirtual 126, 3) := by decide +kernel
theorem dX12_marked_2 : decode cX12_marked 2 = .ok (.iconst 2, 1) := by decide +kernel
theorem dX12_marked_21 : decode cX12_marked 21 = .ok (.ireturn, 1) := by decide +kernel
theorem dX12_marked_3 : decode cX12_marked 3 = .ok (.invokestatic 66, 3) := by decide +kernel
theorem dX12_marked_6 : decode cX12_marked 6 = .ok (.ifCond .ne 6, 3) := by decide +kernel
theorem dX12_marked_9 : decode cX12_marked 9 = .ok (.bipush (-2), 2) := by decide +kernel
set_option maxRecDepth 20000 in
theorem ggX12_setOf_X12_markedSet : GoodIn wsX12_setOf wsX12_markedSet := goodIn_r _ [23, 8, 9, 24, 25, 26, 4, 27, 7, 10, 11, 12, 13, 28, 29, 30, 31, 32, 33, 34, 35, 36, 37, 38, 39, 40, 41, 42, 43, 44, 45, 46, 47, 48, 49, 50, 51] (by decide +kernel) (by decide +kernel)
set_option maxRecDepth 20000 in
theorem gX12_setOf_X12_markedSet : GoodIn wsX12_setOf (wsV RX12 126 RX12 yX12_markedSet wsX12_markedSet) := goodIn_app (goodIn_of _ (by decide +kernel)) ggX12_setOf_X12_markedSet
set_option maxRecDepth 20000 in
theorem ggX12_setOf_X12_reckons : GoodIn wsX12_setOf wsX12_reckons := goodIn_r _ [5, 6, 7, 8, 9, 10, 11, 12, 4, 13, 14, 15, 16, 17, 18, 19, 28, 29, 30, 31, 32, 33, 34, 35, 36, 37, 38, 39, 40, 41, 42, 43, 44, 45, 46, 47, 48, 49, 50, 51] (by decide +kernel) (by decide +kernel)
set_option maxRecDepth 20000 in
theorem gX12_setOf_X12_reckons : GoodIn wsX12_setOf (wsV RX12 107 RX12 yX12_reckons wsX12_reckons) := goodIn_app (goodIn_of _ (by decide +kernel)) ggX12_setOf_X12_reckons
theorem dX12_setOf_0 : decode cX12_setOf 0 = .ok (.aload_n 0, 1) := by decide +kernel
theorem dX12_setOf_1 : decode cX12_setOf 1 = .ok (.invokevirtual 107, 3) := by decide +kernel
theorem dX12_setOf_10 : decode cX12_setOf 10 = .ok (.goto 4, 3) := by decide +kernel
theorem dX12_setOf_13 : decode cX12_setOf 13 = .ok (.iconst 2, 1) := by decide +kernel
theorem dX12_setOf_14 : decode cX12_setOf 14 = .ok (.invokevirtual 126, 3) := by decide +kernel
theorem dX12_setOf_17 : decode cX12_setOf 17 = .ok (.ireturn, 1) := by decide +kernel
theorem dX12_setOf_4 : decode cX12_setOf 4 = .ok (.aload_n 0, 1) := by decide +kernel
theorem dX12_setOf_5 : decode cX12_setOf 5 = .ok (.iload_n 1, 1) := by decide +kernel
theorem dX12_setOf_6 : decode cX12_setOf 6 = .ok (.ifCond .ne 7, 3) := by decide +kernel
theorem dX12_setOf_9 : decode cX12_setOf 9 = .ok (.iconst 0, 1) := by decide +kernel
set_option maxRecDepth 20000 in
theorem ggX12_pieces_X12_in : GoodIn wsX12_pieces wsX12_in := goodIn_r _ [4] (by decide +kernel) (by decide +kernel)
set_option maxRecDepth 20000 in
theorem gX12_pieces_X12_in : GoodIn wsX12_pieces (va_wsS RX12 66 yX12_in wsX12_in) := goodIn_app (goodIn_of _ (by decide +kernel)) ggX12_pieces_X12_in
set_option maxRecDepth 20000 in
theorem ggX12_pieces_X12_piecesOf : GoodIn wsX12_pieces wsX12_piecesOf := goodIn_r _ [38, 39, 40, 41, 3, 42, 15, 16, 24, 25, 26, 43, 44, 45, 46, 47, 48, 49, 50, 51, 52, 53, 54, 55, 56, 57, 58, 59, 60, 61, 62, 63, 64, 65, 66] (by decide +kernel) (by decide +kernel)
set_option maxRecDepth 20000 in
theorem gX12_pieces_X12_piecesOf : GoodIn wsX12_pieces (wsV RX12 98 RX12 yX12_piecesOf wsX12_piecesOf) := goodIn_app (goodIn_of _ (by decide +kernel)) ggX12_pieces_X12_piecesOf
set_option maxRecDepth 20000 in
theorem ggX12_pieces_X12_setOf : GoodIn wsX12_pieces wsX12_setOf := goodIn_r _ [8, 9, 10, 11, 3, 12, 13, 14, 15, 16, 17, 18, 19, 20, 21, 22, 23, 24, 25, 26, 27, 28, 29, 30, 31, 32, 33, 34, 43, 44, 45, 46, 47, 48, 49, 50, 51, 52, 53, 54, 55, 56, 57, 58, 59, 60, 61, 62, 63, 64, 65, 66] (by decide +kernel) (by decide +kernel)
set_option maxRecDepth 20000 in
theorem gX12_pieces_X12_setOf : GoodIn wsX12_pieces (wsV RX12 132 RX12 yX12_setOf wsX12_setOf) := goodIn_app (goodIn_of _ (by decide +kernel)) ggX12_pieces_X12_setOf
theorem dX12_pieces_0 : decode cX12_pieces 0 = .ok (.iload_n 1, 1) := by decide +kernel
theorem dX12_pieces_1 : decode cX12_pieces 1 = .ok (.iconst 0, 1) := by decide +kernel
theorem dX12_pieces_10 : decode cX12_pieces 10 = .ok (.aload_n 0, 1) := by decide +kernel
theorem dX12_pieces_11 : decode cX12_pieces 11 = .ok (.iload_n 1, 1) := by decide +kernel
theorem dX12_pieces_12 : decode cX12_pieces 12 = .ok (.invokevirtual 132, 3) := by decide +kernel
theorem dX12_pieces_15 : decode cX12_pieces 15 = .ok (.invokevirtual 98, 3) := by decide +kernel
theorem dX12_pieces_18 : decode cX12_pieces 18 = .ok (.goto 5, 3) := by decide +kernel
theorem dX12_pieces_2 : decode cX12_pieces 2 = .ok (.iconst 1, 1) := by decide +kernel
theorem dX12_pieces_21 : decode cX12_pieces 21 = .ok (.bipush (-2), 2) := by decide +kernel
theorem dX12_pieces_23 : decode cX12_pieces 23 = .ok (.ireturn, 1) := by decide +kernel
theorem dX12_pieces_3 : decode cX12_pieces 3 = .ok (.invokestatic 66, 3) := by decide +kernel
theorem dX12_pieces_6 : decode cX12_pieces 6 = .ok (.ifCond .eq 15, 3) := by decide +kernel
theorem dX12_pieces_9 : decode cX12_pieces 9 = .ok (.aload_n 0, 1) := by decide +kernel
set_option maxRecDepth 20000 in
theorem ggX12_pieceAt_X12_setOf : GoodIn wsX12_pieceAt wsX12_setOf := goodIn_r _ [5, 6, 7, 8, 4, 9, 10, 11, 12, 13, 14, 15, 16, 17, 18, 19, 20, 21, 22, 23, 24, 25, 26, 27, 28, 29, 30, 31, 36, 37, 38, 39, 40, 41, 42, 43, 44, 45, 46, 47, 48, 49, 50, 51, 52, 53, 54, 55, 56, 57, 58, 59] (by decide +kernel) (by decide +kernel)
set_option maxRecDepth 20000 in
theorem gX12_pieceAt_X12_setOf : GoodIn wsX12_pieceAt (wsV RX12 132 RX12 yX12_setOf wsX12_setOf) := goodIn_app (goodIn_of _ (by decide +kernel)) ggX12_pieceAt_X12_setOf
theorem dX12_pieceAt_0 : decode cX12_pieceAt 0 = .ok (.aload_n 0, 1) := by decide +kernel
theorem dX12_pieceAt_1 : decode cX12_pieceAt 1 = .ok (.iload_n 1, 1) := by decide +kernel
theorem dX12_pieceAt_11 : decode cX12_pieceAt 11 = .ok (.iload_n 2, 1) := by decide +kernel
theorem dX12_pieceAt_12 : decode cX12_pieceAt 12 = .ok (.if_icmp .ge 23, 3) := by decide +kernel
theorem dX12_pieceAt_15 : decode cX12_pieceAt 15 = .ok (.iload_n 3, 1) := by decide +kernel
theorem dX12_pieceAt_16 : decode cX12_pieceAt 16 = .ok (.ifCond .eq 19, 3) := by decide +kernel
theorem dX12_pieceAt_2 : decode cX12_pieceAt 2 = .ok (.invokevirtual 132, 3) := by decide +kernel
theorem dX12_pieceAt_35 : decode cX12_pieceAt 35 = .ok (.iload_n 2, 1) := by decide +kernel
theorem dX12_pieceAt_36 : decode cX12_pieceAt 36 = .ok (.ifCond .lt 7, 3) := by decide +kernel
theorem dX12_pieceAt_39 : decode cX12_pieceAt 39 = .ok (.iload_n 3, 1) := by decide +kernel
theorem dX12_pieceAt_40 : decode cX12_pieceAt 40 = .ok (.ifCond .ne 7, 3) := by decide +kernel
theorem dX12_pieceAt_43 : decode cX12_pieceAt 43 = .ok (.iconst 0, 1) := by decide +kernel
theorem dX12_pieceAt_44 : decode cX12_pieceAt 44 = .ok (.goto 8, 3) := by decide +kernel
theorem dX12_pieceAt_5 : decode cX12_pieceAt 5 = .ok (.istore_n 3, 1) := by decide +kernel
theorem dX12_pieceAt_52 : decode cX12_pieceAt 52 = .ok (.ireturn, 1) := by decide +kernel
theorem dX12_pieceAt_6 : decode cX12_pieceAt 6 = .ok (.iconst 0, 1) := by decide +kernel
theorem dX12_pieceAt_7 : decode cX12_pieceAt 7 = .ok (.istore 4, 2) := by decide +kernel
theorem dX12_pieceAt_9 : decode cX12_pieceAt 9 = .ok (.iload 4, 2) := by decide +kernel
set_option maxRecDepth 20000 in
theorem ggX12_piece_X12_in : GoodIn wsX12_piece wsX12_in := goodIn_r _ [4] (by decide +kernel) (by decide +kernel)
set_option maxRecDepth 20000 in
theorem gX12_piece_X12_in : GoodIn wsX12_piece (va_wsS RX12 66 yX12_in wsX12_in) := goodIn_app (goodIn_of _ (by decide +kernel)) ggX12_piece_X12_in
set_option maxRecDepth 20000 in
theorem ggX12_piece_X12_pieceAt : GoodIn wsX12_piece wsX12_pieceAt := goodIn_r _ [8, 9, 10, 11, 3, 12, 13, 14, 15, 16, 17, 18, 19, 20, 21, 22, 23, 24, 25, 26, 27, 28, 29, 30, 31, 32, 33, 34, 35, 36, 37, 38, 39, 40, 41, 42, 47, 48, 49, 50, 51, 52, 53, 54, 55, 56, 57, 58, 59, 60, 61, 62, 63, 64, 65, 66, 67, 68, 69, 70] (by decide +kernel) (by decide +kernel)
set_option maxRecDepth 20000 in
theorem gX12_piece_X12_pieceAt : GoodIn wsX12_piece (wsV RX12 135 RX12 yX12_pieceAt wsX12_pieceAt) := goodIn_app (goodIn_of _ (by decide +kernel)) ggX12_piece_X12_pieceAt
theorem dX12_piece_0 : decode cX12_piece 0 = .ok (.iload_n 1, 1) := by decide +kernel
theorem dX12_piece_1 : decode cX12_piece 1 = .ok (.iconst 0, 1) := by decide +kernel
theorem dX12_piece_10 : decode cX12_piece 10 = .ok (.iconst 0, 1) := by decide +kernel
theorem dX12_piece_11 : decode cX12_piece 11 = .ok (.iconst 1, 1) := by decide +kernel
theorem dX12_piece_12 : decode cX12_piece 12 = .ok (.invokestatic 66, 3) := by decide +kernel
theorem dX12_piece_15 : decode cX12_piece 15 = .ok (.ifCond .ne 6, 3) := by decide +kernel
theorem dX12_piece_18 : decode cX12_piece 18 = .ok (.bipush (-2), 2) := by decide +kernel
theorem dX12_piece_2 : decode cX12_piece 2 = .ok (.iconst 1, 1) := by decide +kernel
theorem dX12_piece_20 : decode cX12_piece 20 = .ok (.ireturn, 1) := by decide +kernel
theorem dX12_piece_21 : decode cX12_piece 21 = .ok (.aload_n 0, 1) := by decide +kernel
theorem dX12_piece_22 : decode cX12_piece 22 = .ok (.iload_n 1, 1) := by decide +kernel
theorem dX12_piece_23 : decode cX12_piece 23 = .ok (.iload_n 2, 1) := by decide +kernel
theorem dX12_piece_24 : decode cX12_piece 24 = .ok (.invokevirtual 135, 3) := by decide +kernel
theorem dX12_piece_27 : decode cX12_piece 27 = .ok (.istore 4, 2) := by decide +kernel
theorem dX12_piece_29 : decode cX12_piece 29 = .ok (.iload 4, 2) := by decide +kernel
theorem dX12_piece_3 : decode cX12_piece 3 = .ok (.invokestatic 66, 3) := by decide +kernel
theorem dX12_piece_31 : decode cX12_piece 31 = .ok (.ifCond .ne 7, 3) := by decide +kernel
theorem dX12_piece_34 : decode cX12_piece 34 = .ok (.iconst (-1), 1) := by decide +kernel
theorem dX12_piece_35 : decode cX12_piece 35 = .ok (.goto 24, 3) := by decide +kernel
theorem dX12_piece_59 : decode cX12_piece 59 = .ok (.ireturn, 1) := by decide +kernel
theorem dX12_piece_6 : decode cX12_piece 6 = .ok (.ifCond .eq 12, 3) := by decide +kernel
theorem dX12_piece_9 : decode cX12_piece 9 = .ok (.iload_n 3, 1) := by decide +kernel
theorem dX12_bits_0 : decode cX12_bits 0 = .ok (.iconst 0, 1) := by decide +kernel
theorem dX12_bits_1 : decode cX12_bits 1 = .ok (.istore_n 1, 1) := by decide +kernel
theorem dX12_bits_2 : decode cX12_bits 2 = .ok (.iload_n 0, 1) := by decide +kernel
theorem dX12_bits_20 : decode cX12_bits 20 = .ok (.iload_n 1, 1) := by decide +kernel
theorem dX12_bits_21 : decode cX12_bits 21 = .ok (.ireturn, 1) := by decide +kernel
theorem dX12_bits_3 : decode cX12_bits 3 = .ok (.istore_n 2, 1) := by decide +kernel
theorem dX12_bits_4 : decode cX12_bits 4 = .ok (.iload_n 2, 1) := by decide +kernel
theorem dX12_bits_5 : decode cX12_bits 5 = .ok (.ifCond .eq 15, 3) := by decide +kernel
set_option maxRecDepth 20000 in
theorem ggX12_surplus_X12_bits : GoodIn wsX12_surplus wsX12_bits := goodIn_r _ [34] (by decide +kernel) (by decide +kernel)
set_option maxRecDepth 20000 in
theorem gX12_surplus_X12_bits : GoodIn wsX12_surplus (va_wsS RX12 85 yX12_bits wsX12_bits) := goodIn_app (goodIn_of _ (by decide +kernel)) ggX12_surplus_X12_bits
set_option maxRecDepth 20000 in
theorem ggX12_surplus_X12_isSet : GoodIn wsX12_surplus wsX12_isSet := goodIn_r _ [23, 10, 11, 12, 4, 13, 8, 43, 44, 45, 46, 47, 48, 49, 50, 51, 52, 53, 54, 55, 56, 57, 58, 59, 60, 61, 62, 63, 64, 65, 66] (by decide +kernel) (by decide +kernel)
set_option maxRecDepth 20000 in
theorem gX12_surplus_X12_isSet : GoodIn wsX12_surplus (wsV RX12 110 RX12 yX12_isSet wsX12_isSet) := goodIn_app (goodIn_of _ (by decide +kernel)) ggX12_surplus_X12_isSet
set_option maxRecDepth 20000 in
theorem ggX12_surplus_X12_markedSet : GoodIn wsX12_surplus wsX12_markedSet := goodIn_r _ [27, 8, 9, 28, 29, 30, 4, 31, 7, 10, 11, 12, 13, 43, 44, 45, 46, 47, 48, 49, 50, 51, 52, 53, 54, 55, 56, 57, 58, 59, 60, 61, 62, 63, 64, 65, 66] (by decide +kernel) (by decide +kernel)
set_option maxRecDepth 20000 in
theorem gX12_surplus_X12_markedSet : GoodIn wsX12_surplus (wsV RX12 126 RX12 yX12_markedSet wsX12_markedSet) := goodIn_app (goodIn_of _ (by decide +kernel)) ggX12_surplus_X12_markedSet
set_option maxRecDepth 20000 in
theorem ggX12_surplus_X12_reckons : GoodIn wsX12_surplus wsX12_reckons := goodIn_r _ [5, 6, 7, 8, 9, 10, 11, 12, 4, 13, 14, 15, 16, 17, 18, 19, 43, 44, 45, 46, 47, 48, 49, 50, 51, 52, 53, 54, 55, 56, 57, 58, 59, 60, 61, 62, 63, 64, 65, 66] (by decide +kernel) (by decide +kernel)
set_option maxRecDepth 20000 in
theorem gX12_surplus_X12_reckons : GoodIn wsX12_surplus (wsV RX12 107 RX12 yX12_reckons wsX12_reckons) := goodIn_app (goodIn_of _ (by decide +kernel)) ggX12_surplus_X12_reckons
theorem dX12_surplus_0 : decode cX12_surplus 0 = .ok (.aload_n 0, 1) := by decide +kernel
theorem dX12_surplus_1 : decode cX12_surplus 1 = .ok (.invokevirtual 107, 3) := by decide +kernel
theorem dX12_surplus_12 : decode cX12_surplus 12 = .ok (.iload_n 1, 1) := by decide +kernel
theorem dX12_surplus_13 : decode cX12_surplus 13 = .ok (.aload_n 0, 1) := by decide +kernel
theorem dX12_surplus_14 : decode cX12_surplus 14 = .ok (.iconst 1, 1) := by decide +kernel
theorem dX12_surplus_15 : decode cX12_surplus 15 = .ok (.invokevirtual 126, 3) := by decide +kernel
theorem dX12_surplus_18 : decode cX12_surplus 18 = .ok (.iconst (-1), 1) := by decide +kernel
theorem dX12_surplus_19 : decode cX12_surplus 19 = .ok (.ixor, 1) := by decide +kernel
theorem dX12_surplus_20 : decode cX12_surplus 20 = .ok (.iand, 1) := by decide +kernel
theorem dX12_surplus_21 : decode cX12_surplus 21 = .ok (.ifCond .eq 6, 3) := by decide +kernel
theorem dX12_surplus_24 : decode cX12_surplus 24 = .ok (.bipush (-2), 2) := by decide +kernel
theorem dX12_surplus_26 : decode cX12_surplus 26 = .ok (.ireturn, 1) := by decide +kernel
theorem dX12_surplus_27 : decode cX12_surplus 27 = .ok (.iload_n 1, 1) := by decide +kernel
theorem dX12_surplus_28 : decode cX12_surplus 28 = .ok (.invokestatic 85, 3) := by decide +kernel
theorem dX12_surplus_31 : decode cX12_surplus 31 = .ok (.ineg, 1) := by decide +kernel
theorem dX12_surplus_32 : decode cX12_surplus 32 = .ok (.istore_n 2, 1) := by decide +kernel
theorem dX12_surplus_33 : decode cX12_surplus 33 = .ok (.aload_n 0, 1) := by decide +kernel
theorem dX12_surplus_34 : decode cX12_surplus 34 = .ok (.iconst 0, 1) := by decide +kernel
theorem dX12_surplus_35 : decode cX12_surplus 35 = .ok (.invokevirtual 126, 3) := by decide +kernel
theorem dX12_surplus_38 : decode cX12_surplus 38 = .ok (.istore_n 3, 1) := by decide +kernel
theorem dX12_surplus_39 : decode cX12_surplus 39 = .ok (.iload_n 3, 1) := by decide +kernel
theorem dX12_surplus_4 : decode cX12_surplus 4 = .ok (.aload_n 0, 1) := by decide +kernel
theorem dX12_surplus_40 : decode cX12_surplus 40 = .ok (.ifCond .eq 38, 3) := by decide +kernel
theorem dX12_surplus_5 : decode cX12_surplus 5 = .ok (.iload_n 1, 1) := by decide +kernel
theorem dX12_surplus_6 : decode cX12_surplus 6 = .ok (.invokevirtual 110, 3) := by decide +kernel
theorem dX12_surplus_78 : decode cX12_surplus 78 = .ok (.iload_n 2, 1) := by decide +kernel
theorem dX12_surplus_79 : decode cX12_surplus 79 = .ok (.ireturn, 1) := by decide +kernel
theorem dX12_surplus_9 : decode cX12_surplus 9 = .ok (.ifCond .eq 15, 3) := by decide +kernel
set_option maxRecDepth 20000 in
theorem ggX12_oddOf_X12_all : GoodIn wsX12_oddOf wsX12_all := goodIn_r _ [5, 6, 18, 19, 20, 21, 22, 23, 24, 25, 26, 27, 28, 29, 30, 31, 32, 33, 34, 35, 36, 37, 38, 39, 40, 41] (by decide +kernel) (by decide +kernel)
set_option maxRecDepth 20000 in
theorem gX12_oddOf_X12_all : GoodIn wsX12_oddOf (wsV RX12 70 RX12 yX12_all wsX12_all) := goodIn_app (goodIn_of _ (by decide +kernel)) ggX12_oddOf_X12_all
theorem dX12_oddOf_0 : decode cX12_oddOf 0 = .ok (.iconst 0, 1) := by decide +kernel
theorem dX12_oddOf_1 : decode cX12_oddOf 1 = .ok (.istore_n 2, 1) := by decide +kernel
theorem dX12_oddOf_10 : decode cX12_oddOf 10 = .ok (.istore_n 3, 1) := by decide +kernel
theorem dX12_oddOf_11 : decode cX12_oddOf 11 = .ok (.iload_n 3, 1) := by decide +kernel
theorem dX12_oddOf_12 : decode cX12_oddOf 12 = .ok (.ifCond .eq 29, 3) := by decide +kernel
theorem dX12_oddOf_2 : decode cX12_oddOf 2 = .ok (.aload_n 0, 1) := by decide +kernel
theorem dX12_oddOf_3 : decode cX12_oddOf 3 = .ok (.invokevirtual 70, 3) := by decide +kernel
theorem dX12_oddOf_41 : decode cX12_oddOf 41 = .ok (.iload_n 2, 1) := by decide +kernel
theorem dX12_oddOf_42 : decode cX12_oddOf 42 = .ok (.ireturn, 1) := by decide +kernel
theorem dX12_oddOf_6 : decode cX12_oddOf 6 = .ok (.iload_n 1, 1) := by decide +kernel
theorem dX12_oddOf_7 : decode cX12_oddOf 7 = .ok (.iconst (-1), 1) := by decide +kernel
theorem dX12_oddOf_8 : decode cX12_oddOf 8 = .ok (.ixor, 1) := by decide +kernel
theorem dX12_oddOf_9 : decode cX12_oddOf 9 = .ok (.iand, 1) := by decide +kernel
set_option maxRecDepth 20000 in
theorem ggX12_odd_X12_isSet : GoodIn wsX12_odd wsX12_isSet := goodIn_r _ [5, 6, 7, 8, 4, 9, 10, 26, 27, 28, 29, 30, 31, 32, 33, 34, 35, 36, 37, 38, 39, 40, 41, 42, 43, 44, 45, 46, 47, 48, 49] (by decide +kernel) (by decide +kernel)
set_option maxRecDepth 20000 in
theorem gX12_odd_X12_isSet : GoodIn wsX12_odd (wsV RX12 110 RX12 yX12_isSet wsX12_isSet) := goodIn_app (goodIn_of _ (by decide +kernel)) ggX12_odd_X12_isSet
set_option maxRecDepth 20000 in
theorem ggX12_odd_X12_oddOf : GoodIn wsX12_odd wsX12_oddOf := goodIn_r _ [14, 6, 7, 8, 4, 9, 10, 15, 16, 17, 18, 19, 20, 21, 22, 23, 24, 25, 26, 27, 28, 29, 30, 31, 32, 33, 34, 35, 36, 37, 38, 39, 40, 41, 42, 43, 44, 45, 46, 47, 48, 49] (by decide +kernel) (by decide +kernel)
set_option maxRecDepth 20000 in
theorem gX12_odd_X12_oddOf : GoodIn wsX12_odd (wsV RX12 141 RX12 yX12_oddOf wsX12_oddOf) := goodIn_app (goodIn_of _ (by decide +kernel)) ggX12_odd_X12_oddOf
theorem dX12_odd_0 : decode cX12_odd 0 = .ok (.aload_n 0, 1) := by decide +kernel
theorem dX12_odd_1 : decode cX12_odd 1 = .ok (.iload_n 1, 1) := by decide +kernel
theorem dX12_odd_10 : decode cX12_odd 10 = .ok (.invokevirtual 141, 3) := by decide +kernel
theorem dX12_odd_13 : decode cX12_odd 13 = .ok (.goto 5, 3) := by decide +kernel
theorem dX12_odd_16 : decode cX12_odd 16 = .ok (.bipush (-2), 2) := by decide +kernel
theorem dX12_odd_18 : decode cX12_odd 18 = .ok (.ireturn, 1) := by decide +kernel
theorem dX12_odd_2 : decode cX12_odd 2 = .ok (.invokevirtual 110, 3) := by decide +kernel
theorem dX12_odd_5 : decode cX12_odd 5 = .ok (.ifCond .eq 11, 3) := by decide +kernel
theorem dX12_odd_8 : decode cX12_odd 8 = .ok (.aload_n 0, 1) := by decide +kernel
theorem dX12_odd_9 : decode cX12_odd 9 = .ok (.iload_n 1, 1) := by decide +kernel
set_option maxRecDepth 20000 in
theorem ggX12_barrier_X12_bits : GoodIn wsX12_barrier wsX12_bits := goodIn_r _ [25] (by decide +kernel) (by decide +kernel)
set_option maxRecDepth 20000 in
theorem gX12_barrier_X12_bits : GoodIn wsX12_barrier (va_wsS RX12 85 yX12_bits wsX12_bits) := goodIn_app (goodIn_of _ (by decide +kernel)) ggX12_barrier_X12_bits
set_option maxRecDepth 20000 in
theorem ggX12_barrier_X12_isSet : GoodIn wsX12_barrier wsX12_isSet := goodIn_r _ [5, 6, 7, 8, 4, 9, 10, 43, 44, 45, 46, 47, 48, 49, 50, 51, 52, 53, 54, 55, 56, 57, 58, 59, 60, 61, 62, 63, 64, 65, 66] (by decide +kernel) (by decide +kernel)
set_option maxRecDepth 20000 in
theorem gX12_barrier_X12_isSet : GoodIn wsX12_barrier (wsV RX12 110 RX12 yX12_isSet wsX12_isSet) := goodIn_app (goodIn_of _ (by decide +kernel)) ggX12_barrier_X12_isSet
set_option maxRecDepth 20000 in
theorem ggX12_barrier_X12_lack : GoodIn wsX12_barrier wsX12_lack := goodIn_r _ [29, 10, 30, 31, 32, 4, 33, 34, 35, 36, 37, 38, 39, 19, 6, 7, 8, 9, 40, 41, 42, 20, 21, 22, 43, 44, 45, 46, 47, 48, 49, 50, 51, 52, 53, 54, 55, 56, 57, 58, 59, 60, 61, 62, 63, 64, 65, 66] (by decide +kernel) (by decide +kernel)
set_option maxRecDepth 20000 in
theorem gX12_barrier_X12_lack : GoodIn wsX12_barrier (wsV RX12 95 RX12 yX12_lack wsX12_lack) := goodIn_app (goodIn_of _ (by decide +kernel)) ggX12_barrier_X12_lack
set_option maxRecDepth 20000 in
theorem ggX12_barrier_X12_oddOf : GoodIn wsX12_barrier wsX12_oddOf := goodIn_r _ [14, 6, 7, 8, 4, 9, 10, 15, 16, 17, 18, 19, 20, 21, 22, 23, 24, 25, 43, 44, 45, 46, 47, 48, 49, 50, 51, 52, 53, 54, 55, 56, 57, 58, 59, 60, 61, 62, 63, 64, 65, 66] (by decide +kernel) (by decide +kernel)
set_option maxRecDepth 20000 in
theorem gX12_barrier_X12_oddOf : GoodIn wsX12_barrier (wsV RX12 141 RX12 yX12_oddOf wsX12_oddOf) := goodIn_app (goodIn_of _ (by decide +kernel)) ggX12_barrier_X12_oddOf
theorem dX12_barrier_0 : decode cX12_barrier 0 = .ok (.aload_n 0, 1) := by decide +kernel
theorem dX12_barrier_1 : decode cX12_barrier 1 = .ok (.iload_n 1, 1) := by decide +kernel
theorem dX12_barrier_10 : decode cX12_barrier 10 = .ok (.goto 25, 3) := by decide +kernel
theorem dX12_barrier_13 : decode cX12_barrier 13 = .ok (.aload_n 0, 1) := by decide +kernel
theorem dX12_barrier_14 : decode cX12_barrier 14 = .ok (.iload_n 1, 1) := by decide +kernel
theorem dX12_barrier_15 : decode cX12_barrier 15 = .ok (.invokevirtual 141, 3) := by decide +kernel
theorem dX12_barrier_18 : decode cX12_barrier 18 = .ok (.iload_n 1, 1) := by decide +kernel
theorem dX12_barrier_19 : decode cX12_barrier 19 = .ok (.invokestatic 85, 3) := by decide +kernel
theorem dX12_barrier_2 : decode cX12_barrier 2 = .ok (.invokevirtual 110, 3) := by decide +kernel
theorem dX12_barrier_22 : decode cX12_barrier 22 = .ok (.isub, 1) := by decide +kernel
theorem dX12_barrier_23 : decode cX12_barrier 23 = .ok (.aload_n 0, 1) := by decide +kernel
theorem dX12_barrier_24 : decode cX12_barrier 24 = .ok (.invokevirtual 95, 3) := by decide +kernel
theorem dX12_barrier_27 : decode cX12_barrier 27 = .ok (.if_icmp .ne 7, 3) := by decide +kernel
theorem dX12_barrier_30 : decode cX12_barrier 30 = .ok (.iconst 1, 1) := by decide +kernel
theorem dX12_barrier_31 : decode cX12_barrier 31 = .ok (.goto 4, 3) := by decide +kernel
theorem dX12_barrier_35 : decode cX12_barrier 35 = .ok (.ireturn, 1) := by decide +kernel
theorem dX12_barrier_5 : decode cX12_barrier 5 = .ok (.ifCond .ne 8, 3) := by decide +kernel
theorem dX12_barrier_8 : decode cX12_barrier 8 = .ok (.bipush (-2), 2) := by decide +kernel
set_option maxRecDepth 20000 in
theorem ggX12_barriers_X12_all : GoodIn wsX12_barriers wsX12_all := goodIn_r _ [24, 9, 42, 43, 44, 45, 46, 47, 48, 49, 50, 51, 52, 53, 54, 55, 56, 57, 58, 59, 60, 61, 62, 63, 64, 65] (by decide +kernel) (by decide +kernel)
set_option maxRecDepth 20000 in
theorem gX12_barriers_X12_all : GoodIn wsX12_barriers (wsV RX12 70 RX12 yX12_all wsX12_all) := goodIn_app (goodIn_of _ (by decide +kernel)) ggX12_barriers_X12_all
set_option maxRecDepth 20000 in
theorem ggX12_barriers_X12_bits : GoodIn wsX12_barriers wsX12_bits := goodIn_r _ [41] (by decide +kernel) (by decide +kernel)
set_option maxRecDepth 20000 in
theorem gX12_barriers_X12_bits : GoodIn wsX12_barriers (va_wsS RX12 85 yX12_bits wsX12_bits) := goodIn_app (goodIn_of _ (by decide +kernel)) ggX12_barriers_X12_bits
set_option maxRecDepth 20000 in
theorem ggX12_barriers_X12_in : GoodIn wsX12_barriers wsX12_in := goodIn_r _ [4] (by decide +kernel) (by decide +kernel)
set_option maxRecDepth 20000 in
theorem gX12_barriers_X12_in : GoodIn wsX12_barriers (va_wsS RX12 66 yX12_in wsX12_in) := goodIn_app (goodIn_of _ (by decide +kernel)) ggX12_barriers_X12_in
set_option maxRecDepth 20000 in
theorem ggX12_barriers_X12_lack : GoodIn wsX12_barriers wsX12_lack := goodIn_r _ [8, 9, 10, 11, 12, 3, 13, 14, 15, 16, 17, 18, 19, 20, 21, 22, 23, 24, 25, 26, 27, 28, 29, 30, 42, 43, 44, 45, 46, 47, 48, 49, 50, 51, 52, 53, 54, 55, 56, 57, 58, 59, 60, 61, 62, 63, 64, 65] (by decide +kernel) (by decide +kernel)
set_option maxRecDepth 20000 in
theorem gX12_barriers_X12_lack : GoodIn wsX12_barriers (wsV RX12 95 RX12 yX12_lack wsX12_lack) := goodIn_app (goodIn_of _ (by decide +kernel)) ggX12_barriers_X12_lack
set_option maxRecDepth 20000 in
theorem ggX12_barriers_X12_oddOf : GoodIn wsX12_barriers wsX12_oddOf := goodIn_r _ [34, 21, 22, 23, 3, 24, 9, 35, 36, 37, 38, 20, 28, 29, 30, 39, 40, 41, 42, 43, 44, 45, 46, 47, 48, 49, 50, 51, 52, 53, 54, 55, 56, 57, 58, 59, 60, 61, 62, 63, 64, 65] (by decide +kernel) (by decide +kernel)
set_option maxRecDepth 20000 in
theorem gX12_barriers_X12_oddOf : GoodIn wsX12_barriers (wsV RX12 141 RX12 yX12_oddOf wsX12_oddOf) := goodIn_app (goodIn_of _ (by decide +kernel)) ggX12_barriers_X12_oddOf
theorem dX12_barriers_0 : decode cX12_barriers 0 = .ok (.iload_n 1, 1) := by decide +kernel
theorem dX12_barriers_1 : decode cX12_barriers 1 = .ok (.iconst 0, 1) := by decide +kernel
theorem dX12_barriers_100 : decode cX12_barriers 100 = .ok (.goto (-69), 3) := by decide +kernel
theorem dX12_barriers_103 : decode cX12_barriers 103 = .ok (.iload_n 1, 1) := by decide +kernel
theorem dX12_barriers_104 : decode cX12_barriers 104 = .ok (.ifCond .ne 7, 3) := by decide +kernel
theorem dX12_barriers_107 : decode cX12_barriers 107 = .ok (.iload_n 3, 1) := by decide +kernel
theorem dX12_barriers_108 : decode cX12_barriers 108 = .ok (.goto 15, 3) := by decide +kernel
theorem dX12_barriers_11 : decode cX12_barriers 11 = .ok (.ireturn, 1) := by decide +kernel
theorem dX12_barriers_111 : decode cX12_barriers 111 = .ok (.iload_n 1, 1) := by decide +kernel
theorem dX12_barriers_112 : decode cX12_barriers 112 = .ok (.iconst 1, 1) := by decide +kernel
theorem dX12_barriers_113 : decode cX12_barriers 113 = .ok (.if_icmp .ne 8, 3) := by decide +kernel
theorem dX12_barriers_116 : decode cX12_barriers 116 = .ok (.iload 4, 2) := by decide +kernel
theorem dX12_barriers_118 : decode cX12_barriers 118 = .ok (.goto 5, 3) := by decide +kernel
theorem dX12_barriers_12 : decode cX12_barriers 12 = .ok (.aload_n 0, 1) := by decide +kernel
theorem dX12_barriers_121 : decode cX12_barriers 121 = .ok (.iload 5, 2) := by decide +kernel
theorem dX12_barriers_123 : decode cX12_barriers 123 = .ok (.ireturn, 1) := by decide +kernel
theorem dX12_barriers_13 : decode cX12_barriers 13 = .ok (.invokevirtual 95, 3) := by decide +kernel
theorem dX12_barriers_16 : decode cX12_barriers 16 = .ok (.istore_n 2, 1) := by decide +kernel
theorem dX12_barriers_17 : decode cX12_barriers 17 = .ok (.iconst 0, 1) := by decide +kernel
theorem dX12_barriers_18 : decode cX12_barriers 18 = .ok (.istore_n 3, 1) := by decide +kernel
theorem dX12_barriers_19 : decode cX12_barriers 19 = .ok (.iconst (-1), 1) := by decide +kernel
theorem dX12_barriers_2 : decode cX12_barriers 2 = .ok (.iconst 2, 1) := by decide +kernel
theorem dX12_barriers_20 : decode cX12_barriers 20 = .ok (.istore 4, 2) := by decide +kernel
theorem dX12_barriers_22 : decode cX12_barriers 22 = .ok (.aload_n 0, 1) := by decide +kernel
theorem dX12_barriers_23 : decode cX12_barriers 23 = .ok (.invokevirtual 70, 3) := by decide +kernel
theorem dX12_barriers_26 : decode cX12_barriers 26 = .ok (.istore 5, 2) := by decide +kernel
theorem dX12_barriers_28 : decode cX12_barriers 28 = .ok (.iconst 0, 1) := by decide +kernel
theorem dX12_barriers_29 : decode cX12_barriers 29 = .ok (.istore 6, 2) := by decide +kernel
theorem dX12_barriers_3 : decode cX12_barriers 3 = .ok (.invokestatic 66, 3) := by decide +kernel
theorem dX12_barriers_31 : decode cX12_barriers 31 = .ok (.iload 6, 2) := by decide +kernel
theorem dX12_barriers_33 : decode cX12_barriers 33 = .ok (.aload_n 0, 1) := by decide +kernel
theorem dX12_barriers_34 : decode cX12_barriers 34 = .ok (.invokevirtual 70, 3) := by decide +kernel
theorem dX12_barriers_37 : decode cX12_barriers 37 = .ok (.if_icmp .gt 66, 3) := by decide +kernel
theorem dX12_barriers_40 : decode cX12_barriers 40 = .ok (.aload_n 0, 1) := by decide +kernel
theorem dX12_barriers_41 : decode cX12_barriers 41 = .ok (.iload 6, 2) := by decide +kernel
theorem dX12_barriers_43 : decode cX12_barriers 43 = .ok (.invokevirtual 141, 3) := by decide +kernel
theorem dX12_barriers_46 : decode cX12_barriers 46 = .ok (.iload 6, 2) := by decide +kernel
theorem dX12_barriers_48 : decode cX12_barriers 48 = .ok (.invokestatic 85, 3) := by decide +kernel
theorem dX12_barriers_51 : decode cX12_barriers 51 = .ok (.isub, 1) := by decide +kernel
theorem dX12_barriers_52 : decode cX12_barriers 52 = .ok (.iload_n 2, 1) := by decide +kernel
theorem dX12_barriers_53 : decode cX12_barriers 53 = .ok (.if_icmp .eq 6, 3) := by decide +kernel
theorem dX12_barriers_59 : decode cX12_barriers 59 = .ok (.iinc 3 1, 3) := by decide +kernel
theorem dX12_barriers_6 : decode cX12_barriers 6 = .ok (.ifCond .ne 6, 3) := by decide +kernel
theorem dX12_barriers_62 : decode cX12_barriers 62 = .ok (.iload 4, 2) := by decide +kernel
theorem dX12_barriers_64 : decode cX12_barriers 64 = .ok (.iconst (-1), 1) := by decide +kernel
theorem dX12_barriers_65 : decode cX12_barriers 65 = .ok (.if_icmp .eq 16, 3) := by decide +kernel
theorem dX12_barriers_81 : decode cX12_barriers 81 = .ok (.iload 6, 2) := by decide +kernel
theorem dX12_barriers_83 : decode cX12_barriers 83 = .ok (.goto 5, 3) := by decide +kernel
theorem dX12_barriers_88 : decode cX12_barriers 88 = .ok (.istore 4, 2) := by decide +kernel
theorem dX12_barriers_9 : decode cX12_barriers 9 = .ok (.bipush (-2), 2) := by decide +kernel
theorem dX12_barriers_90 : decode cX12_barriers 90 = .ok (.iload 5, 2) := by decide +kernel
theorem dX12_barriers_92 : decode cX12_barriers 92 = .ok (.iload 6, 2) := by decide +kernel
theorem dX12_barriers_94 : decode cX12_barriers 94 = .ok (.iand, 1) := by decide +kernel
theorem dX12_barriers_95 : decode cX12_barriers 95 = .ok (.istore 5, 2) := by decide +kernel
theorem dX12_barriers_97 : decode cX12_barriers 97 = .ok (.iinc 6 1, 3) := by decide +kernel
set_option maxRecDepth 20000 in
theorem ggX12_isCritical_X12_bits : GoodIn wsX12_isCritical wsX12_bits := goodIn_r _ [6] (by decide +kernel) (by decide +kernel)
set_option maxRecDepth 20000 in
theorem gX12_isCritical_X12_bits : GoodIn wsX12_isCritical (va_wsS RX12 85 yX12_bits wsX12_bits) := goodIn_app (goodIn_of _ (by decide +kernel)) ggX12_isCritical_X12_bits
theorem dX12_isCritical_0 : decode cX12_isCritical 0 = .ok (.iload_n 1, 1) := by decide +kernel
theorem dX12_isCritical_1 : decode cX12_isCritical 1 = .ok (.invokestatic 85, 3) := by decide +kernel
theorem dX12_isCritical_14 : decode cX12_isCritical 14 = .ok (.iconst 0, 1) := by decide +kernel
theorem dX12_isCritical_15 : decode cX12_isCritical 15 = .ok (.istore_n 2, 1) := by decide +kernel
theorem dX12_isCritical_16 : decode cX12_isCritical 16 = .ok (.iconst 0, 1) := by decide +kernel
theorem dX12_isCritical_17 : decode cX12_isCritical 17 = .ok (.istore_n 3, 1) := by decide +kernel
theorem dX12_isCritical_18 : decode cX12_isCritical 18 = .ok (.iload_n 3, 1) := by decide +kernel
theorem dX12_isCritical_19 : decode cX12_isCritical 19 = .ok (.aload_n 0, 1) := by decide +kernel
theorem dX12_isCritical_20 : decode cX12_isCritical 20 = .ok (.getfield 63, 3) := by decide +kernel
theorem dX12_isCritical_23 : decode cX12_isCritical 23 = .ok (.if_icmp .ge 50, 3) := by decide +kernel
theorem dX12_isCritical_4 : decode cX12_isCritical 4 = .ok (.iconst 2, 1) := by decide +kernel
theorem dX12_isCritical_5 : decode cX12_isCritical 5 = .ok (.irem, 1) := by decide +kernel
theorem dX12_isCritical_6 : decode cX12_isCritical 6 = .ok (.iconst 1, 1) := by decide +kernel
theorem dX12_isCritical_7 : decode cX12_isCritical 7 = .ok (.if_icmp .ne 7, 3) := by decide +kernel
theorem dX12_isCritical_73 : decode cX12_isCritical 73 = .ok (.iload_n 2, 1) := by decide +kernel
theorem dX12_isCritical_74 : decode cX12_isCritical 74 = .ok (.ireturn, 1) := by decide +kernel
set_option maxRecDepth 20000 in
theorem ggX12_critical_X12_isCritical : GoodIn wsX12_critical wsX12_isCritical := goodIn_r _ [27, 10, 16, 28, 29, 4, 30, 21, 22, 23, 31, 32, 33, 34, 35, 36, 37, 38, 39, 40, 41, 42, 43, 44, 45, 46, 47, 48, 49, 50, 51, 52, 53, 54] (by decide +kernel) (by decide +kernel)
set_option maxRecDepth 20000 in
theorem gX12_critical_X12_isCritical : GoodIn wsX12_critical (wsV RX12 144 RX12 yX12_isCritical wsX12_isCritical) := goodIn_app (goodIn_of _ (by decide +kernel)) ggX12_critical_X12_isCritical
set_option maxRecDepth 20000 in
theorem ggX12_critical_X12_isSet : GoodIn wsX12_critical wsX12_isSet := goodIn_r _ [5, 6, 7, 8, 4, 9, 10, 31, 32, 33, 34, 35, 36, 37, 38, 39, 40, 41, 42, 43, 44, 45, 46, 47, 48, 49, 50, 51, 52, 53, 54] (by decide +kernel) (by decide +kernel)
set_option maxRecDepth 20000 in
theorem gX12_critical_X12_isSet : GoodIn wsX12_critical (wsV RX12 110 RX12 yX12_isSet wsX12_isSet) := goodIn_app (goodIn_of _ (by decide +kernel)) ggX12_critical_X12_isSet
set_option maxRecDepth 20000 in
theorem ggX12_critical_X12_reckons : GoodIn wsX12_critical wsX12_reckons := goodIn_r _ [14, 15, 16, 10, 17, 6, 7, 8, 4, 9, 18, 19, 20, 21, 22, 23, 31, 32, 33, 34, 35, 36, 37, 38, 39, 40, 41, 42, 43, 44, 45, 46, 47, 48, 49, 50, 51, 52, 53, 54] (by decide +kernel) (by decide +kernel)
set_option maxRecDepth 20000 in
theorem gX12_critical_X12_reckons : GoodIn wsX12_critical (wsV RX12 107 RX12 yX12_reckons wsX12_reckons) := goodIn_app (goodIn_of _ (by decide +kernel)) ggX12_critical_X12_reckons
theorem dX12_critical_0 : decode cX12_critical 0 = .ok (.aload_n 0, 1) := by decide +kernel
theorem dX12_critical_1 : decode cX12_critical 1 = .ok (.iload_n 1, 1) := by decide +kernel
theorem dX12_critical_10 : decode cX12_critical 10 = .ok (.ireturn, 1) := by decide +kernel
theorem dX12_critical_11 : decode cX12_critical 11 = .ok (.aload_n 0, 1) := by decide +kernel
theorem dX12_critical_12 : decode cX12_critical 12 = .ok (.invokevirtual 107, 3) := by decide +kernel
theorem dX12_critical_15 : decode cX12_critical 15 = .ok (.aload_n 0, 1) := by decide +kernel
theorem dX12_critical_16 : decode cX12_critical 16 = .ok (.iload_n 1, 1) := by decide +kernel
theorem dX12_critical_17 : decode cX12_critical 17 = .ok (.invokevirtual 144, 3) := by decide +kernel
theorem dX12_critical_2 : decode cX12_critical 2 = .ok (.invokevirtual 110, 3) := by decide +kernel
theorem dX12_critical_20 : decode cX12_critical 20 = .ok (.ifCond .eq 7, 3) := by decide +kernel
theorem dX12_critical_27 : decode cX12_critical 27 = .ok (.iconst 0, 1) := by decide +kernel
theorem dX12_critical_28 : decode cX12_critical 28 = .ok (.ireturn, 1) := by decide +kernel
theorem dX12_critical_5 : decode cX12_critical 5 = .ok (.ifCond .ne 6, 3) := by decide +kernel
theorem dX12_critical_8 : decode cX12_critical 8 = .ok (.bipush (-2), 2) := by decide +kernel
set_option maxRecDepth 20000 in
theorem ggX12_verdict_X12_areTwo : GoodIn wsX12_verdict wsX12_areTwo := goodIn_r _ [6, 7, 8, 9, 5, 10, 11, 12, 13, 14, 35, 36, 37, 38, 39, 40, 41, 42, 43, 44, 45, 46, 47, 48, 49, 50, 51, 52, 53, 54, 55, 56, 57, 58] (by decide +kernel) (by decide +kernel)
set_option maxRecDepth 20000 in
theorem gX12_verdict_X12_areTwo : GoodIn wsX12_verdict (wsV RX12 78 RX12 yX12_areTwo wsX12_areTwo) := goodIn_app (goodIn_of _ (by decide +kernel)) ggX12_verdict_X12_areTwo
theorem dX12_verdict_0 : decode cX12_verdict 0 = .ok (.aload_n 0, 1) := by decide +kernel
theorem dX12_verdict_1 : decode cX12_verdict 1 = .ok (.iload_n 1, 1) := by decide +kernel
theorem dX12_verdict_11 : decode cX12_verdict 11 = .ok (.ireturn, 1) := by decide +kernel
theorem dX12_verdict_2 : decode cX12_verdict 2 = .ok (.iload_n 2, 1) := by decide +kernel
theorem dX12_verdict_3 : decode cX12_verdict 3 = .ok (.invokevirtual 78, 3) := by decide +kernel
theorem dX12_verdict_6 : decode cX12_verdict 6 = .ok (.ifCond .ne 6, 3) := by decide +kernel
theorem dX12_verdict_9 : decode cX12_verdict 9 = .ok (.bipush (-2), 2) := by decide +kernel
set_option maxRecDepth 20000 in
theorem ggX12_twos_X12_reckons : GoodIn wsX12_twos wsX12_reckons := goodIn_r _ [8, 9, 3, 1, 2, 10, 11, 12, 7, 13, 14, 15, 16, 17, 18, 19, 24, 25, 26, 27, 28, 29, 30, 31, 32, 33, 34, 35, 36, 37, 38, 39, 40, 41, 42, 43, 44, 45, 46, 47] (by decide +kernel) (by decide +kernel)
set_option maxRecDepth 20000 in
theorem gX12_twos_X12_reckons : GoodIn wsX12_twos (wsV RX12 107 RX12 yX12_reckons wsX12_reckons) := goodIn_app (goodIn_of _ (by decide +kernel)) ggX12_twos_X12_reckons
theorem dX12_twos_0 : decode cX12_twos 0 = .ok (.aload_n 0, 1) := by decide +kernel
theorem dX12_twos_1 : decode cX12_twos 1 = .ok (.invokevirtual 107, 3) := by decide +kernel
theorem dX12_twos_10 : decode cX12_twos 10 = .ok (.iconst 0, 1) := by decide +kernel
theorem dX12_twos_11 : decode cX12_twos 11 = .ok (.istore 6, 2) := by decide +kernel
theorem dX12_twos_13 : decode cX12_twos 13 = .ok (.iload 6, 2) := by decide +kernel
theorem dX12_twos_145 : decode cX12_twos 145 = .ok (.iload_n 3, 1) := by decide +kernel
theorem dX12_twos_146 : decode cX12_twos 146 = .ok (.ifCond .ne 8, 3) := by decide +kernel
theorem dX12_twos_15 : decode cX12_twos 15 = .ok (.aload_n 0, 1) := by decide +kernel
theorem dX12_twos_154 : decode cX12_twos 154 = .ok (.iload 5, 2) := by decide +kernel
theorem dX12_twos_156 : decode cX12_twos 156 = .ok (.ireturn, 1) := by decide +kernel
theorem dX12_twos_16 : decode cX12_twos 16 = .ok (.getfield 63, 3) := by decide +kernel
theorem dX12_twos_19 : decode cX12_twos 19 = .ok (.if_icmp .ge 126, 3) := by decide +kernel
theorem dX12_twos_4 : decode cX12_twos 4 = .ok (.iconst (-1), 1) := by decide +kernel
theorem dX12_twos_5 : decode cX12_twos 5 = .ok (.istore 4, 2) := by decide +kernel
theorem dX12_twos_7 : decode cX12_twos 7 = .ok (.iconst 0, 1) := by decide +kernel
theorem dX12_twos_8 : decode cX12_twos 8 = .ok (.istore 5, 2) := by decide +kernel
set_option maxRecDepth 20000 in
theorem ggX12_verdicts_X12_in : GoodIn wsX12_verdicts wsX12_in := goodIn_r _ [4] (by decide +kernel) (by decide +kernel)
set_option maxRecDepth 20000 in
theorem gX12_verdicts_X12_in : GoodIn wsX12_verdicts (va_wsS RX12 66 yX12_in wsX12_in) := goodIn_app (goodIn_of _ (by decide +kernel)) ggX12_verdicts_X12_in
set_option maxRecDepth 20000 in
theorem ggX12_verdicts_X12_twos : GoodIn wsX12_verdicts wsX12_twos := goodIn_r _ [8, 9, 10, 11, 12, 13, 14, 3, 15, 16, 17, 18, 19, 20, 21, 22, 23, 24, 25, 26, 27, 28, 29, 30, 31, 32, 33, 34, 35, 36, 37, 38, 39, 40, 41, 42, 43, 44, 45, 46, 47, 48, 49, 50, 51, 52, 53, 54] (by decide +kernel) (by decide +kernel)
set_option maxRecDepth 20000 in
theorem gX12_verdicts_X12_twos : GoodIn wsX12_verdicts (wsV RX12 153 RX12 yX12_twos wsX12_twos) := goodIn_app (goodIn_of _ (by decide +kernel)) ggX12_verdicts_X12_twos
theorem dX12_verdicts_0 : decode cX12_verdicts 0 = .ok (.iload_n 1, 1) := by decide +kernel
theorem dX12_verdicts_1 : decode cX12_verdicts 1 = .ok (.iconst 0, 1) := by decide +kernel
theorem dX12_verdicts_10 : decode cX12_verdicts 10 = .ok (.iconst 1, 1) := by decide +kernel
theorem dX12_verdicts_11 : decode cX12_verdicts 11 = .ok (.iload_n 1, 1) := by decide +kernel
theorem dX12_verdicts_12 : decode cX12_verdicts 12 = .ok (.iconst 1, 1) := by decide +kernel
theorem dX12_verdicts_13 : decode cX12_verdicts 13 = .ok (.invokevirtual 153, 3) := by decide +kernel
theorem dX12_verdicts_16 : decode cX12_verdicts 16 = .ok (.goto 5, 3) := by decide +kernel
theorem dX12_verdicts_19 : decode cX12_verdicts 19 = .ok (.bipush (-2), 2) := by decide +kernel
theorem dX12_verdicts_2 : decode cX12_verdicts 2 = .ok (.iconst 2, 1) := by decide +kernel
theorem dX12_verdicts_21 : decode cX12_verdicts 21 = .ok (.ireturn, 1) := by decide +kernel
theorem dX12_verdicts_3 : decode cX12_verdicts 3 = .ok (.invokestatic 66, 3) := by decide +kernel
theorem dX12_verdicts_6 : decode cX12_verdicts 6 = .ok (.ifCond .eq 13, 3) := by decide +kernel
theorem dX12_verdicts_9 : decode cX12_verdicts 9 = .ok (.aload_n 0, 1) := by decide +kernel
set_option maxRecDepth 20000 in
theorem ggX12_without_X12_isPoint : GoodIn wsX12_without wsX12_isPoint := goodIn_r _ [7, 1, 8, 9, 6, 10, 27, 28, 29, 30, 31, 32, 33, 34, 35, 36, 37, 38, 39, 40, 41, 42, 43, 44, 45, 46, 47, 48, 49, 50] (by decide +kernel) (by decide +kernel)
set_option maxRecDepth 20000 in
theorem gX12_without_X12_isPoint : GoodIn wsX12_without (wsV RX12 74 RX12 yX12_isPoint wsX12_isPoint) := goodIn_app (goodIn_of _ (by decide +kernel)) ggX12_without_X12_isPoint
theorem dX12_without_0 : decode cX12_without 0 = .ok (.aload_n 0, 1) := by decide +kernel
theorem dX12_without_1 : decode cX12_without 1 = .ok (.iload_n 1, 1) := by decide +kernel
theorem dX12_without_10 : decode cX12_without 10 = .ok (.ireturn, 1) := by decide +kernel
theorem dX12_without_2 : decode cX12_without 2 = .ok (.invokevirtual 74, 3) := by decide +kernel
theorem dX12_without_5 : decode cX12_without 5 = .ok (.ifCond .ne 6, 3) := by decide +kernel
theorem dX12_without_8 : decode cX12_without 8 = .ok (.bipush (-2), 2) := by decide +kernel
theorem dX12_twos_149 : decode cX12_twos 149 = .ok (.iload 4, 2) := by decide +kernel
theorem dX12_twos_151 : decode cX12_twos 151 = .ok (.goto 5, 3) := by decide +kernel
set_option maxRecDepth 20000 in
theorem ggX12_mends_X12_in : GoodIn wsX12_mends wsX12_in := goodIn_r _ [4] (by decide +kernel) (by decide +kernel)
set_option maxRecDepth 20000 in
theorem gX12_mends_X12_in : GoodIn wsX12_mends (va_wsS RX12 66 yX12_in wsX12_in) := goodIn_app (goodIn_of _ (by decide +kernel)) ggX12_mends_X12_in
set_option maxRecDepth 20000 in
theorem ggX12_mends_X12_twos : GoodIn wsX12_mends wsX12_twos := goodIn_r _ [8, 9, 10, 11, 12, 13, 14, 3, 15, 16, 17, 18, 19, 20, 21, 22, 23, 24, 25, 26, 27, 28, 29, 30, 31, 32, 33, 34, 35, 36, 37, 38, 39, 40, 41, 42, 43, 44, 45, 46, 47, 48, 49, 50, 51, 52, 53, 54] (by decide +kernel) (by decide +kernel)
set_option maxRecDepth 20000 in
theorem gX12_mends_X12_twos : GoodIn wsX12_mends (wsV RX12 153 RX12 yX12_twos wsX12_twos) := goodIn_app (goodIn_of _ (by decide +kernel)) ggX12_mends_X12_twos
theorem dX12_mends_0 : decode cX12_mends 0 = .ok (.iload_n 1, 1) := by decide +kernel
theorem dX12_mends_1 : decode cX12_mends 1 = .ok (.iconst 0, 1) := by decide +kernel
theorem dX12_mends_10 : decode cX12_mends 10 = .ok (.iconst 0, 1) := by decide +kernel
theorem dX12_mends_11 : decode cX12_mends 11 = .ok (.iconst 0, 1) := by decide +kernel
theorem dX12_mends_12 : decode cX12_mends 12 = .ok (.iload_n 1, 1) := by decide +kernel
theorem dX12_mends_13 : decode cX12_mends 13 = .ok (.invokevirtual 153, 3) := by decide +kernel
theorem dX12_mends_16 : decode cX12_mends 16 = .ok (.goto 5, 3) := by decide +kernel
theorem dX12_mends_19 : decode cX12_mends 19 = .ok (.bipush (-2), 2) := by decide +kernel
theorem dX12_mends_2 : decode cX12_mends 2 = .ok (.iconst 1, 1) := by decide +kernel
theorem dX12_mends_21 : decode cX12_mends 21 = .ok (.ireturn, 1) := by decide +kernel
theorem dX12_mends_3 : decode cX12_mends 3 = .ok (.invokestatic 66, 3) := by decide +kernel
theorem dX12_mends_6 : decode cX12_mends 6 = .ok (.ifCond .eq 13, 3) := by decide +kernel
theorem dX12_mends_9 : decode cX12_mends 9 = .ok (.aload_n 0, 1) := by decide +kernel
set_option maxRecDepth 20000 in
theorem ggX12_breaks_X12_in : GoodIn wsX12_breaks wsX12_in := goodIn_r _ [4] (by decide +kernel) (by decide +kernel)
set_option maxRecDepth 20000 in
theorem gX12_breaks_X12_in : GoodIn wsX12_breaks (va_wsS RX12 66 yX12_in wsX12_in) := goodIn_app (goodIn_of _ (by decide +kernel)) ggX12_breaks_X12_in
set_option maxRecDepth 20000 in
theorem ggX12_breaks_X12_twos : GoodIn wsX12_breaks wsX12_twos := goodIn_r _ [8, 9, 10, 11, 12, 13, 14, 3, 15, 16, 17, 18, 19, 20, 21, 22, 23, 24, 25, 26, 27, 28, 29, 30, 31, 32, 33, 34, 35, 36, 37, 38, 39, 40, 41, 42, 43, 44, 45, 46, 47, 48, 49, 50, 51, 52, 53, 54] (by decide +kernel) (by decide +kernel)
set_option maxRecDepth 20000 in
theorem gX12_breaks_X12_twos : GoodIn wsX12_breaks (wsV RX12 153 RX12 yX12_twos wsX12_twos) := goodIn_app (goodIn_of _ (by decide +kernel)) ggX12_breaks_X12_twos
theorem dX12_breaks_0 : decode cX12_breaks 0 = .ok (.iload_n 1, 1) := by decide +kernel
theorem dX12_breaks_1 : decode cX12_breaks 1 = .ok (.iconst 0, 1) := by decide +kernel
theorem dX12_breaks_10 : decode cX12_breaks 10 = .ok (.iconst 1, 1) := by decide +kernel
theorem dX12_breaks_11 : decode cX12_breaks 11 = .ok (.iconst 2, 1) := by decide +kernel
theorem dX12_breaks_12 : decode cX12_breaks 12 = .ok (.iload_n 1, 1) := by decide +kernel
theorem dX12_breaks_13 : decode cX12_breaks 13 = .ok (.invokevirtual 153, 3) := by decide +kernel
theorem dX12_breaks_16 : decode cX12_breaks 16 = .ok (.goto 5, 3) := by decide +kernel
theorem dX12_breaks_19 : decode cX12_breaks 19 = .ok (.bipush (-2), 2) := by decide +kernel
theorem dX12_breaks_2 : decode cX12_breaks 2 = .ok (.iconst 1, 1) := by decide +kernel
theorem dX12_breaks_21 : decode cX12_breaks 21 = .ok (.ireturn, 1) := by decide +kernel
theorem dX12_breaks_3 : decode cX12_breaks 3 = .ok (.invokestatic 66, 3) := by decide +kernel
theorem dX12_breaks_6 : decode cX12_breaks 6 = .ok (.ifCond .eq 13, 3) := by decide +kernel
theorem dX12_breaks_9 : decode cX12_breaks 9 = .ok (.aload_n 0, 1) := by decide +kernel
set_option maxRecDepth 20000 in
theorem ggX12_isSheet_X12_in : GoodIn wsX12_isSheet wsX12_in := goodIn_r _ [4] (by decide +kernel) (by decide +kernel)
set_option maxRecDepth 20000 in
theorem gX12_isSheet_X12_in : GoodIn wsX12_isSheet (va_wsS RX12 66 yX12_in wsX12_in) := goodIn_app (goodIn_of _ (by decide +kernel)) ggX12_isSheet_X12_in
theorem dX12_isSheet_0 : decode cX12_isSheet 0 = .ok (.iload_n 0, 1) := by decide +kernel
theorem dX12_isSheet_1 : decode cX12_isSheet 1 = .ok (.iconst 0, 1) := by decide +kernel
theorem dX12_isSheet_2 : decode cX12_isSheet 2 = .ok (.iconst 3, 1) := by decide +kernel
theorem dX12_isSheet_3 : decode cX12_isSheet 3 = .ok (.invokestatic 66, 3) := by decide +kernel
theorem dX12_isSheet_6 : decode cX12_isSheet 6 = .ok (.ireturn, 1) := by decide +kernel
set_option maxRecDepth 20000 in
theorem ggX12_wrongPairing_X12_isSheet : GoodIn wsX12_wrongPairing wsX12_isSheet := goodIn_r _ [10, 11, 12, 9, 13] (by decide +kernel) (by decide +kernel)
set_option maxRecDepth 20000 in
theorem gX12_wrongPairing_X12_isSheet : GoodIn wsX12_wrongPairing (va_wsS RX12 157 yX12_isSheet wsX12_isSheet) := goodIn_app (goodIn_of _ (by decide +kernel)) ggX12_wrongPairing_X12_isSheet
theorem dX12_wrongPairing_0 : decode cX12_wrongPairing 0 = .ok (.iload_n 1, 1) := by decide +kernel
theorem dX12_wrongPairing_1 : decode cX12_wrongPairing 1 = .ok (.invokestatic 157, 3) := by decide +kernel
theorem dX12_wrongPairing_10 : decode cX12_wrongPairing 10 = .ok (.aload_n 0, 1) := by decide +kernel
theorem dX12_wrongPairing_11 : decode cX12_wrongPairing 11 = .ok (.getfield 38, 3) := by decide +kernel
theorem dX12_wrongPairing_14 : decode cX12_wrongPairing 14 = .ok (.iload_n 1, 1) := by decide +kernel
theorem dX12_wrongPairing_15 : decode cX12_wrongPairing 15 = .ok (.iaload, 1) := by decide +kernel
theorem dX12_wrongPairing_16 : decode cX12_wrongPairing 16 = .ok (.iconst (-1), 1) := by decide +kernel
theorem dX12_wrongPairing_17 : decode cX12_wrongPairing 17 = .ok (.if_icmp .ne 6, 3) := by decide +kernel
theorem dX12_wrongPairing_20 : decode cX12_wrongPairing 20 = .ok (.bipush (-11), 2) := by decide +kernel
theorem dX12_wrongPairing_22 : decode cX12_wrongPairing 22 = .ok (.ireturn, 1) := by decide +kernel
theorem dX12_wrongPairing_4 : decode cX12_wrongPairing 4 = .ok (.ifCond .ne 6, 3) := by decide +kernel
theorem dX12_wrongPairing_7 : decode cX12_wrongPairing 7 = .ok (.bipush (-2), 2) := by decide +kernel
theorem dX12_wrongPairing_9 : decode cX12_wrongPairing 9 = .ok (.ireturn, 1) := by decide +kernel
set_option maxRecDepth 20000 in
theorem ggX12_isTold_X12_wrongPairing : GoodIn wsX12_isTold wsX12_wrongPairing := goodIn_r _ [5, 6, 7, 8, 9, 10, 11, 12, 13, 4, 14, 15, 16, 17, 18, 19, 20, 21, 22, 23, 24, 25, 26, 27, 28, 29, 30, 31, 32, 33, 34, 35, 36, 37, 38, 39, 40, 41, 42, 43, 44, 45, 46, 47, 48] (by decide +kernel) (by decide +kernel)
set_option maxRecDepth 20000 in
theorem gX12_isTold_X12_wrongPairing : GoodIn wsX12_isTold (wsV RX12 160 RX12 yX12_wrongPairing wsX12_wrongPairing) := goodIn_app (goodIn_of _ (by decide +kernel)) ggX12_isTold_X12_wrongPairing
theorem dX12_isTold_0 : decode cX12_isTold 0 = .ok (.aload_n 0, 1) := by decide +kernel
theorem dX12_isTold_1 : decode cX12_isTold 1 = .ok (.iload_n 1, 1) := by decide +kernel
theorem dX12_isTold_14 : decode cX12_isTold 14 = .ok (.iload_n 2, 1) := by decide +kernel
theorem dX12_isTold_15 : decode cX12_isTold 15 = .ok (.bipush (-3), 2) := by decide +kernel
theorem dX12_isTold_17 : decode cX12_isTold 17 = .ok (.if_icmp .ne 7, 3) := by decide +kernel
theorem dX12_isTold_2 : decode cX12_isTold 2 = .ok (.invokevirtual 160, 3) := by decide +kernel
theorem dX12_isTold_24 : decode cX12_isTold 24 = .ok (.iload_n 2, 1) := by decide +kernel
theorem dX12_isTold_25 : decode cX12_isTold 25 = .ok (.ireturn, 1) := by decide +kernel
theorem dX12_isTold_5 : decode cX12_isTold 5 = .ok (.istore_n 2, 1) := by decide +kernel
theorem dX12_isTold_6 : decode cX12_isTold 6 = .ok (.iload_n 2, 1) := by decide +kernel
theorem dX12_isTold_7 : decode cX12_isTold 7 = .ok (.ifCond .ne 7, 3) := by decide +kernel
set_option maxRecDepth 20000 in
theorem ggX12_misses_X12_wrongPairing : GoodIn wsX12_misses wsX12_wrongPairing := goodIn_r _ [7, 8, 9, 1, 10, 11, 2, 12, 13, 6, 14, 15, 16, 17, 18, 19, 20, 21, 22, 23, 24, 25, 26, 27, 28, 29, 30, 31, 32, 33, 34, 35, 36, 37, 38, 39, 40, 41, 42, 43, 44, 45, 46, 47, 48] (by decide +kernel) (by decide +kernel)
set_option maxRecDepth 20000 in
theorem gX12_misses_X12_wrongPairing : GoodIn wsX12_misses (wsV RX12 160 RX12 yX12_wrongPairing wsX12_wrongPairing) := goodIn_app (goodIn_of _ (by decide +kernel)) ggX12_misses_X12_wrongPairing
theorem dX12_misses_0 : decode cX12_misses 0 = .ok (.aload_n 0, 1) := by decide +kernel
theorem dX12_misses_1 : decode cX12_misses 1 = .ok (.iload_n 1, 1) := by decide +kernel
theorem dX12_misses_10 : decode cX12_misses 10 = .ok (.iload_n 2, 1) := by decide +kernel
theorem dX12_misses_11 : decode cX12_misses 11 = .ok (.ireturn, 1) := by decide +kernel
theorem dX12_misses_2 : decode cX12_misses 2 = .ok (.invokevirtual 160, 3) := by decide +kernel
theorem dX12_misses_5 : decode cX12_misses 5 = .ok (.istore_n 2, 1) := by decide +kernel
theorem dX12_misses_6 : decode cX12_misses 6 = .ok (.iload_n 2, 1) := by decide +kernel
theorem dX12_misses_7 : decode cX12_misses 7 = .ok (.ifCond .eq 5, 3) := by decide +kernel
set_option maxRecDepth 20000 in
theorem ggX12_chains_X12_in : GoodIn wsX12_chains wsX12_in := goodIn_r _ [11] (by decide +kernel) (by decide +kernel)
set_option maxRecDepth 20000 in
theorem gX12_chains_X12_in : GoodIn wsX12_chains (va_wsS RX12 66 yX12_in wsX12_in) := goodIn_app (goodIn_of _ (by decide +kernel)) ggX12_chains_X12_in
set_option maxRecDepth 20000 in
theorem ggX12_chains_X12_isSheet : GoodIn wsX12_chains wsX12_isSheet := goodIn_r _ [8, 9, 10, 7, 11] (by decide +kernel) (by decide +kernel)
set_option maxRecDepth 20000 in
theorem gX12_chains_X12_isSheet : GoodIn wsX12_chains (va_wsS RX12 157 yX12_isSheet wsX12_isSheet) := goodIn_app (goodIn_of _ (by decide +kernel)) ggX12_chains_X12_isSheet
theorem dX12_chains_0 : decode cX12_chains 0 = .ok (.iload_n 1, 1) := by decide +kernel
theorem dX12_chains_1 : decode cX12_chains 1 = .ok (.invokestatic 157, 3) := by decide +kernel
theorem dX12_chains_11 : decode cX12_chains 11 = .ok (.ifCond .eq 12, 3) := by decide +kernel
theorem dX12_chains_14 : decode cX12_chains 14 = .ok (.iload_n 3, 1) := by decide +kernel
theorem dX12_chains_15 : decode cX12_chains 15 = .ok (.iconst 0, 1) := by decide +kernel
theorem dX12_chains_16 : decode cX12_chains 16 = .ok (.iconst 2, 1) := by decide +kernel
theorem dX12_chains_17 : decode cX12_chains 17 = .ok (.invokestatic 66, 3) := by decide +kernel
theorem dX12_chains_20 : decode cX12_chains 20 = .ok (.ifCond .ne 6, 3) := by decide +kernel
theorem dX12_chains_23 : decode cX12_chains 23 = .ok (.bipush (-2), 2) := by decide +kernel
theorem dX12_chains_25 : decode cX12_chains 25 = .ok (.ireturn, 1) := by decide +kernel
theorem dX12_chains_26 : decode cX12_chains 26 = .ok (.aload_n 0, 1) := by decide +kernel
theorem dX12_chains_27 : decode cX12_chains 27 = .ok (.getfield 38, 3) := by decide +kernel
theorem dX12_chains_30 : decode cX12_chains 30 = .ok (.iload_n 1, 1) := by decide +kernel
theorem dX12_chains_31 : decode cX12_chains 31 = .ok (.iaload, 1) := by decide +kernel
theorem dX12_chains_32 : decode cX12_chains 32 = .ok (.iconst (-1), 1) := by decide +kernel
theorem dX12_chains_33 : decode cX12_chains 33 = .ok (.if_icmp .eq 13, 3) := by decide +kernel
theorem dX12_chains_4 : decode cX12_chains 4 = .ok (.ifCond .eq 19, 3) := by decide +kernel
theorem dX12_chains_46 : decode cX12_chains 46 = .ok (.bipush (-11), 2) := by decide +kernel
theorem dX12_chains_48 : decode cX12_chains 48 = .ok (.ireturn, 1) := by decide +kernel
theorem dX12_chains_7 : decode cX12_chains 7 = .ok (.iload_n 2, 1) := by decide +kernel
theorem dX12_chains_8 : decode cX12_chains 8 = .ok (.invokestatic 157, 3) := by decide +kernel
set_option maxRecDepth 20000 in
theorem ggX12_laysMates_X12_all : GoodIn wsX12_laysMates wsX12_all := goodIn_r _ [14, 9, 25, 26, 27, 28, 29, 30, 31, 32, 33, 34, 35, 36, 37, 38, 39, 40, 41, 42, 43, 44, 45, 46, 47, 48] (by decide +kernel) (by decide +kernel)
set_option maxRecDepth 20000 in
theorem gX12_laysMates_X12_all : GoodIn wsX12_laysMates (wsV RX12 70 RX12 yX12_all wsX12_all) := goodIn_app (goodIn_of _ (by decide +kernel)) ggX12_laysMates_X12_all
set_option maxRecDepth 20000 in
theorem ggX12_laysMates_X12_reckons : GoodIn wsX12_laysMates wsX12_reckons := goodIn_r _ [6, 7, 8, 9, 10, 11, 12, 13, 5, 14, 15, 16, 17, 18, 19, 20, 25, 26, 27, 28, 29, 30, 31, 32, 33, 34, 35, 36, 37, 38, 39, 40, 41, 42, 43, 44, 45, 46, 47, 48] (by decide +kernel) (by decide +kernel)
set_option maxRecDepth 20000 in
theorem gX12_laysMates_X12_reckons : GoodIn wsX12_laysMates (wsV RX12 107 RX12 yX12_reckons wsX12_reckons) := goodIn_app (goodIn_of _ (by decide +kernel)) ggX12_laysMates_X12_reckons
theorem dX12_laysMates_0 : decode cX12_laysMates 0 = .ok (.aload_n 0, 1) := by decide +kernel
theorem dX12_laysMates_1 : decode cX12_laysMates 1 = .ok (.invokevirtual 107, 3) := by decide +kernel
theorem dX12_laysMates_10 : decode cX12_laysMates 10 = .ok (.ifCond .eq 53, 3) := by decide +kernel
theorem dX12_laysMates_4 : decode cX12_laysMates 4 = .ok (.aload_n 0, 1) := by decide +kernel
theorem dX12_laysMates_5 : decode cX12_laysMates 5 = .ok (.invokevirtual 70, 3) := by decide +kernel
theorem dX12_laysMates_63 : decode cX12_laysMates 63 = .ok (.return_, 1) := by decide +kernel
theorem dX12_laysMates_8 : decode cX12_laysMates 8 = .ok (.istore_n 1, 1) := by decide +kernel
theorem dX12_laysMates_9 : decode cX12_laysMates 9 = .ok (.iload_n 1, 1) := by decide +kernel
theorem dX12_isAt_0 : decode cX12_isAt 0 = .ok (.aload_n 0, 1) := by decide +kernel
theorem dX12_isAt_1 : decode cX12_isAt 1 = .ok (.getfield 169, 3) := by decide +kernel
theorem dX12_isAt_32 : decode cX12_isAt 32 = .ok (.iconst 0, 1) := by decide +kernel
theorem dX12_isAt_33 : decode cX12_isAt 33 = .ok (.ireturn, 1) := by decide +kernel
theorem dX12_isAt_4 : decode cX12_isAt 4 = .ok (.aload_n 0, 1) := by decide +kernel
theorem dX12_isAt_5 : decode cX12_isAt 5 = .ok (.getfield 101, 3) := by decide +kernel
theorem dX12_isAt_8 : decode cX12_isAt 8 = .ok (.if_icmp .ge 24, 3) := by decide +kernel
set_option maxRecDepth 20000 in
theorem ggX12_isShelf_X12_in : GoodIn wsX12_isShelf wsX12_in := goodIn_r _ [4] (by decide +kernel) (by decide +kernel)
set_option maxRecDepth 20000 in
theorem gX12_isShelf_X12_in : GoodIn wsX12_isShelf (va_wsS RX12 66 yX12_in wsX12_in) := goodIn_app (goodIn_of _ (by decide +kernel)) ggX12_isShelf_X12_in
theorem dX12_isShelf_0 : decode cX12_isShelf 0 = .ok (.iload_n 0, 1) := by decide +kernel
theorem dX12_isShelf_1 : decode cX12_isShelf 1 = .ok (.iconst 0, 1) := by decide +kernel
theorem dX12_isShelf_2 : decode cX12_isShelf 2 = .ok (.iconst 3, 1) := by decide +kernel
theorem dX12_isShelf_3 : decode cX12_isShelf 3 = .ok (.invokestatic 66, 3) := by decide +kernel
theorem dX12_isShelf_6 : decode cX12_isShelf 6 = .ok (.ireturn, 1) := by decide +kernel
set_option maxRecDepth 20000 in
theorem ggX12_shelf_X12_in : GoodIn wsX12_shelf wsX12_in := goodIn_r _ [12] (by decide +kernel) (by decide +kernel)
set_option maxRecDepth 20000 in
theorem gX12_shelf_X12_in : GoodIn wsX12_shelf (va_wsS RX12 66 yX12_in wsX12_in) := goodIn_app (goodIn_of _ (by decide +kernel)) ggX12_shelf_X12_in
set_option maxRecDepth 20000 in
theorem ggX12_shelf_X12_isPoint : GoodIn wsX12_shelf wsX12_isPoint := goodIn_r _ [16, 17, 10, 11, 8, 12, 66, 67, 68, 69, 70, 71, 72, 73, 74, 75, 76, 77, 78, 79, 80, 81, 82, 83, 84, 85, 86, 87, 88, 89] (by decide +kernel) (by decide +kernel)
set_option maxRecDepth 20000 in
theorem gX12_shelf_X12_isPoint : GoodIn wsX12_shelf (wsV RX12 74 RX12 yX12_isPoint wsX12_isPoint) := goodIn_app (goodIn_of _ (by decide +kernel)) ggX12_shelf_X12_isPoint
set_option maxRecDepth 20000 in
theorem ggX12_shelf_X12_isSet : GoodIn wsX12_shelf wsX12_isSet := goodIn_r _ [21, 22, 23, 24, 8, 25, 17, 66, 67, 68, 69, 70, 71, 72, 73, 74, 75, 76, 77, 78, 79, 80, 81, 82, 83, 84, 85, 86, 87, 88, 89] (by decide +kernel) (by decide +kernel)
set_option maxRecDepth 20000 in
theorem gX12_shelf_X12_isSet : GoodIn wsX12_shelf (wsV RX12 110 RX12 yX12_isSet wsX12_isSet) := goodIn_app (goodIn_of _ (by decide +kernel)) ggX12_shelf_X12_isSet
set_option maxRecDepth 20000 in
theorem ggX12_shelf_X12_isSheet : GoodIn wsX12_shelf wsX12_isSheet := goodIn_r _ [28, 10, 11, 8, 12] (by decide +kernel) (by decide +kernel)
set_option maxRecDepth 20000 in
theorem gX12_shelf_X12_isSheet : GoodIn wsX12_shelf (va_wsS RX12 157 yX12_isSheet wsX12_isSheet) := goodIn_app (goodIn_of _ (by decide +kernel)) ggX12_shelf_X12_isSheet
set_option maxRecDepth 20000 in
theorem ggX12_shelf_X12_isShelf : GoodIn wsX12_shelf wsX12_isShelf := goodIn_r _ [9, 10, 11, 8, 12] (by decide +kernel) (by decide +kernel)
set_option maxRecDepth 20000 in
theorem gX12_shelf_X12_isShelf : GoodIn wsX12_shelf (va_wsS RX12 222 yX12_isShelf wsX12_isShelf) := goodIn_app (goodIn_of _ (by decide +kernel)) ggX12_shelf_X12_isShelf
set_option maxRecDepth 20000 in
theorem ggX12_shelf_X12_pieceAt : GoodIn wsX12_shelf wsX12_pieceAt := goodIn_r _ [32, 33, 34, 35, 8, 36, 37, 38, 39, 40, 41, 42, 17, 43, 22, 23, 24, 25, 44, 45, 46, 47, 48, 49, 50, 51, 52, 53, 54, 55, 56, 57, 58, 59, 60, 61, 66, 67, 68, 69, 70, 71, 72, 73, 74, 75, 76, 77, 78, 79, 80, 81, 82, 83, 84, 85, 86, 87, 88, 89] (by decide +kernel) (by decide +kernel)
set_option maxRecDepth 20000 in
theorem gX12_shelf_X12_pieceAt : GoodIn wsX12_shelf (wsV RX12 135 RX12 yX12_pieceAt wsX12_pieceAt) := goodIn_app (goodIn_of _ (by decide +kernel)) ggX12_shelf_X12_pieceAt
theorem dX12_shelf_0 : decode cX12_shelf 0 = .ok (.iload_n 1, 1) := by decide +kernel
theorem dX12_shelf_1 : decode cX12_shelf 1 = .ok (.invokestatic 222, 3) := by decide +kernel
theorem dX12_shelf_10 : decode cX12_shelf 10 = .ok (.invokestatic 66, 3) := by decide +kernel
theorem dX12_shelf_102 : decode cX12_shelf 102 = .ok (.bipush (-11), 2) := by decide +kernel
theorem dX12_shelf_104 : decode cX12_shelf 104 = .ok (.ireturn, 1) := by decide +kernel
theorem dX12_shelf_105 : decode cX12_shelf 105 = .ok (.iload_n 2, 1) := by decide +kernel
theorem dX12_shelf_106 : decode cX12_shelf 106 = .ok (.ifCond .ne 20, 3) := by decide +kernel
theorem dX12_shelf_126 : decode cX12_shelf 126 = .ok (.iload_n 2, 1) := by decide +kernel
theorem dX12_shelf_127 : decode cX12_shelf 127 = .ok (.iconst 1, 1) := by decide +kernel
theorem dX12_shelf_128 : decode cX12_shelf 128 = .ok (.if_icmp .ne 7, 3) := by decide +kernel
theorem dX12_shelf_13 : decode cX12_shelf 13 = .ok (.ifCond .eq 40, 3) := by decide +kernel
theorem dX12_shelf_135 : decode cX12_shelf 135 = .ok (.iload_n 2, 1) := by decide +kernel
theorem dX12_shelf_136 : decode cX12_shelf 136 = .ok (.iconst 2, 1) := by decide +kernel
theorem dX12_shelf_137 : decode cX12_shelf 137 = .ok (.if_icmp .ne 7, 3) := by decide +kernel
theorem dX12_shelf_144 : decode cX12_shelf 144 = .ok (.iload_n 2, 1) := by decide +kernel
theorem dX12_shelf_145 : decode cX12_shelf 145 = .ok (.iconst 3, 1) := by decide +kernel
theorem dX12_shelf_146 : decode cX12_shelf 146 = .ok (.if_icmp .ne 7, 3) := by decide +kernel
theorem dX12_shelf_149 : decode cX12_shelf 149 = .ok (.iconst 2, 1) := by decide +kernel
theorem dX12_shelf_150 : decode cX12_shelf 150 = .ok (.goto 14, 3) := by decide +kernel
theorem dX12_shelf_153 : decode cX12_shelf 153 = .ok (.iload_n 2, 1) := by decide +kernel
theorem dX12_shelf_154 : decode cX12_shelf 154 = .ok (.iconst 4, 1) := by decide +kernel
theorem dX12_shelf_155 : decode cX12_shelf 155 = .ok (.if_icmp .ne 8, 3) := by decide +kernel
theorem dX12_shelf_16 : decode cX12_shelf 16 = .ok (.iload_n 2, 1) := by decide +kernel
theorem dX12_shelf_163 : decode cX12_shelf 163 = .ok (.iconst (-1), 1) := by decide +kernel
theorem dX12_shelf_164 : decode cX12_shelf 164 = .ok (.istore 5, 2) := by decide +kernel
theorem dX12_shelf_166 : decode cX12_shelf 166 = .ok (.aload_n 0, 1) := by decide +kernel
theorem dX12_shelf_167 : decode cX12_shelf 167 = .ok (.getfield 47, 3) := by decide +kernel
theorem dX12_shelf_17 : decode cX12_shelf 17 = .ok (.ifCond .ne 11, 3) := by decide +kernel
theorem dX12_shelf_170 : decode cX12_shelf 170 = .ok (.iload_n 1, 1) := by decide +kernel
theorem dX12_shelf_171 : decode cX12_shelf 171 = .ok (.iload 5, 2) := by decide +kernel
theorem dX12_shelf_173 : decode cX12_shelf 173 = .ok (.iastore, 1) := by decide +kernel
theorem dX12_shelf_174 : decode cX12_shelf 174 = .ok (.aload_n 0, 1) := by decide +kernel
theorem dX12_shelf_175 : decode cX12_shelf 175 = .ok (.getfield 50, 3) := by decide +kernel
theorem dX12_shelf_178 : decode cX12_shelf 178 = .ok (.iload_n 1, 1) := by decide +kernel
theorem dX12_shelf_179 : decode cX12_shelf 179 = .ok (.iload_n 2, 1) := by decide +kernel
theorem dX12_shelf_180 : decode cX12_shelf 180 = .ok (.ifCond .ne 9, 3) := by decide +kernel
theorem dX12_shelf_189 : decode cX12_shelf 189 = .ok (.iload_n 2, 1) := by decide +kernel
theorem dX12_shelf_190 : decode cX12_shelf 190 = .ok (.iconst 3, 1) := by decide +kernel
theorem dX12_shelf_191 : decode cX12_shelf 191 = .ok (.if_icmp .ge 8, 3) := by decide +kernel
theorem dX12_shelf_199 : decode cX12_shelf 199 = .ok (.iload_n 2, 1) := by decide +kernel
theorem dX12_shelf_20 : decode cX12_shelf 20 = .ok (.aload_n 0, 1) := by decide +kernel
theorem dX12_shelf_200 : decode cX12_shelf 200 = .ok (.iconst 3, 1) := by decide +kernel
theorem dX12_shelf_201 : decode cX12_shelf 201 = .ok (.if_icmp .ne 7, 3) := by decide +kernel
theorem dX12_shelf_204 : decode cX12_shelf 204 = .ok (.iload_n 3, 1) := by decide +kernel
theorem dX12_shelf_205 : decode cX12_shelf 205 = .ok (.goto 18, 3) := by decide +kernel
theorem dX12_shelf_208 : decode cX12_shelf 208 = .ok (.iload_n 2, 1) := by decide +kernel
theorem dX12_shelf_209 : decode cX12_shelf 209 = .ok (.iconst 4, 1) := by decide +kernel
theorem dX12_shelf_21 : decode cX12_shelf 21 = .ok (.iload_n 3, 1) := by decide +kernel
theorem dX12_shelf_210 : decode cX12_shelf 210 = .ok (.if_icmp .ne 12, 3) := by decide +kernel
theorem dX12_shelf_22 : decode cX12_shelf 22 = .ok (.invokevirtual 74, 3) := by decide +kernel
theorem dX12_shelf_222 : decode cX12_shelf 222 = .ok (.iconst 0, 1) := by decide +kernel
theorem dX12_shelf_223 : decode cX12_shelf 223 = .ok (.iastore, 1) := by decide +kernel
theorem dX12_shelf_224 : decode cX12_shelf 224 = .ok (.aload_n 0, 1) := by decide +kernel
theorem dX12_shelf_225 : decode cX12_shelf 225 = .ok (.getfield 53, 3) := by decide +kernel
theorem dX12_shelf_228 : decode cX12_shelf 228 = .ok (.iload_n 1, 1) := by decide +kernel
theorem dX12_shelf_229 : decode cX12_shelf 229 = .ok (.iload_n 2, 1) := by decide +kernel
theorem dX12_shelf_230 : decode cX12_shelf 230 = .ok (.iconst 4, 1) := by decide +kernel
theorem dX12_shelf_231 : decode cX12_shelf 231 = .ok (.if_icmp .ne 12, 3) := by decide +kernel
theorem dX12_shelf_243 : decode cX12_shelf 243 = .ok (.iconst 0, 1) := by decide +kernel
theorem dX12_shelf_244 : decode cX12_shelf 244 = .ok (.iastore, 1) := by decide +kernel
theorem dX12_shelf_245 : decode cX12_shelf 245 = .ok (.iconst 1, 1) := by decide +kernel
theorem dX12_shelf_246 : decode cX12_shelf 246 = .ok (.ireturn, 1) := by decide +kernel
theorem dX12_shelf_25 : decode cX12_shelf 25 = .ok (.ifCond .eq 28, 3) := by decide +kernel
theorem dX12_shelf_28 : decode cX12_shelf 28 = .ok (.iload_n 2, 1) := by decide +kernel
theorem dX12_shelf_29 : decode cX12_shelf 29 = .ok (.iconst 3, 1) := by decide +kernel
theorem dX12_shelf_30 : decode cX12_shelf 30 = .ok (.if_icmp .ne 11, 3) := by decide +kernel
theorem dX12_shelf_33 : decode cX12_shelf 33 = .ok (.aload_n 0, 1) := by decide +kernel
theorem dX12_shelf_34 : decode cX12_shelf 34 = .ok (.iload_n 3, 1) := by decide +kernel
theorem dX12_shelf_35 : decode cX12_shelf 35 = .ok (.invokevirtual 110, 3) := by decide +kernel
theorem dX12_shelf_38 : decode cX12_shelf 38 = .ok (.ifCond .eq 15, 3) := by decide +kernel
theorem dX12_shelf_4 : decode cX12_shelf 4 = .ok (.ifCond .eq 49, 3) := by decide +kernel
theorem dX12_shelf_41 : decode cX12_shelf 41 = .ok (.iload_n 2, 1) := by decide +kernel
theorem dX12_shelf_42 : decode cX12_shelf 42 = .ok (.iconst 4, 1) := by decide +kernel
theorem dX12_shelf_43 : decode cX12_shelf 43 = .ok (.if_icmp .ne 13, 3) := by decide +kernel
theorem dX12_shelf_46 : decode cX12_shelf 46 = .ok (.iload_n 3, 1) := by decide +kernel
theorem dX12_shelf_47 : decode cX12_shelf 47 = .ok (.invokestatic 157, 3) := by decide +kernel
theorem dX12_shelf_50 : decode cX12_shelf 50 = .ok (.ifCond .ne 6, 3) := by decide +kernel
theorem dX12_shelf_53 : decode cX12_shelf 53 = .ok (.bipush (-2), 2) := by decide +kernel
theorem dX12_shelf_55 : decode cX12_shelf 55 = .ok (.ireturn, 1) := by decide +kernel
theorem dX12_shelf_56 : decode cX12_shelf 56 = .ok (.iload_n 2, 1) := by decide +kernel
theorem dX12_shelf_57 : decode cX12_shelf 57 = .ok (.iconst 1, 1) := by decide +kernel
theorem dX12_shelf_58 : decode cX12_shelf 58 = .ok (.iconst 2, 1) := by decide +kernel
theorem dX12_shelf_59 : decode cX12_shelf 59 = .ok (.invokestatic 66, 3) := by decide +kernel
theorem dX12_shelf_62 : decode cX12_shelf 62 = .ok (.ifCond .eq 14, 3) := by decide +kernel
theorem dX12_shelf_65 : decode cX12_shelf 65 = .ok (.aload_n 0, 1) := by decide +kernel
theorem dX12_shelf_66 : decode cX12_shelf 66 = .ok (.iload_n 2, 1) := by decide +kernel
theorem dX12_shelf_67 : decode cX12_shelf 67 = .ok (.iconst 1, 1) := by decide +kernel
theorem dX12_shelf_68 : decode cX12_shelf 68 = .ok (.isub, 1) := by decide +kernel
theorem dX12_shelf_69 : decode cX12_shelf 69 = .ok (.iload_n 3, 1) := by decide +kernel
theorem dX12_shelf_7 : decode cX12_shelf 7 = .ok (.iload_n 2, 1) := by decide +kernel
theorem dX12_shelf_70 : decode cX12_shelf 70 = .ok (.invokevirtual 135, 3) := by decide +kernel
theorem dX12_shelf_73 : decode cX12_shelf 73 = .ok (.goto 4, 3) := by decide +kernel
theorem dX12_shelf_76 : decode cX12_shelf 76 = .ok (.iconst 1, 1) := by decide +kernel
theorem dX12_shelf_77 : decode cX12_shelf 77 = .ok (.istore 4, 2) := by decide +kernel
theorem dX12_shelf_79 : decode cX12_shelf 79 = .ok (.iload 4, 2) := by decide +kernel
theorem dX12_shelf_8 : decode cX12_shelf 8 = .ok (.iconst 0, 1) := by decide +kernel
theorem dX12_shelf_81 : decode cX12_shelf 81 = .ok (.ifCond .ne 6, 3) := by decide +kernel
theorem dX12_shelf_84 : decode cX12_shelf 84 = .ok (.bipush (-2), 2) := by decide +kernel
theorem dX12_shelf_86 : decode cX12_shelf 86 = .ok (.ireturn, 1) := by decide +kernel
theorem dX12_shelf_87 : decode cX12_shelf 87 = .ok (.iload_n 2, 1) := by decide +kernel
theorem dX12_shelf_88 : decode cX12_shelf 88 = .ok (.iconst 4, 1) := by decide +kernel
theorem dX12_shelf_89 : decode cX12_shelf 89 = .ok (.if_icmp .ne 16, 3) := by decide +kernel
theorem dX12_shelf_9 : decode cX12_shelf 9 = .ok (.iconst 5, 1) := by decide +kernel
theorem dX12_shelf_92 : decode cX12_shelf 92 = .ok (.aload_n 0, 1) := by decide +kernel
theorem dX12_shelf_93 : decode cX12_shelf 93 = .ok (.getfield 38, 3) := by decide +kernel
theorem dX12_shelf_96 : decode cX12_shelf 96 = .ok (.iload_n 3, 1) := by decide +kernel
theorem dX12_shelf_97 : decode cX12_shelf 97 = .ok (.iaload, 1) := by decide +kernel
theorem dX12_shelf_98 : decode cX12_shelf 98 = .ok (.iconst (-1), 1) := by decide +kernel
theorem dX12_shelf_99 : decode cX12_shelf 99 = .ok (.if_icmp .ne 6, 3) := by decide +kernel
set_option maxRecDepth 20000 in
theorem ggX12_taken_X12_in : GoodIn wsX12_taken wsX12_in := goodIn_r _ [10] (by decide +kernel) (by decide +kernel)
set_option maxRecDepth 20000 in
theorem gX12_taken_X12_in : GoodIn wsX12_taken (va_wsS RX12 66 yX12_in wsX12_in) := goodIn_app (goodIn_of _ (by decide +kernel)) ggX12_taken_X12_in
set_option maxRecDepth 20000 in
theorem ggX12_taken_X12_isShelf : GoodIn wsX12_taken wsX12_isShelf := goodIn_r _ [7, 8, 9, 6, 10] (by decide +kernel) (by decide +kernel)
set_option maxRecDepth 20000 in
theorem gX12_taken_X12_isShelf : GoodIn wsX12_taken (va_wsS RX12 222 yX12_isShelf wsX12_isShelf) := goodIn_app (goodIn_of _ (by decide +kernel)) ggX12_taken_X12_isShelf
theorem dX12_taken_0 : decode cX12_taken 0 = .ok (.iload_n 1, 1) := by decide +kernel
theorem dX12_taken_1 : decode cX12_taken 1 = .ok (.invokestatic 222, 3) := by decide +kernel
theorem dX12_taken_10 : decode cX12_taken 10 = .ok (.invokestatic 66, 3) := by decide +kernel
theorem dX12_taken_13 : decode cX12_taken 13 = .ok (.ifCond .ne 17, 3) := by decide +kernel
theorem dX12_taken_16 : decode cX12_taken 16 = .ok (.iload_n 2, 1) := by decide +kernel
theorem dX12_taken_17 : decode cX12_taken 17 = .ok (.bipush 10, 2) := by decide +kernel
theorem dX12_taken_19 : decode cX12_taken 19 = .ok (.bipush 11, 2) := by decide +kernel
theorem dX12_taken_21 : decode cX12_taken 21 = .ok (.invokestatic 66, 3) := by decide +kernel
theorem dX12_taken_24 : decode cX12_taken 24 = .ok (.ifCond .ne 6, 3) := by decide +kernel
theorem dX12_taken_27 : decode cX12_taken 27 = .ok (.bipush (-2), 2) := by decide +kernel
theorem dX12_taken_29 : decode cX12_taken 29 = .ok (.ireturn, 1) := by decide +kernel
theorem dX12_taken_30 : decode cX12_taken 30 = .ok (.aload_n 0, 1) := by decide +kernel
theorem dX12_taken_31 : decode cX12_taken 31 = .ok (.getfield 47, 3) := by decide +kernel
theorem dX12_taken_34 : decode cX12_taken 34 = .ok (.iload_n 1, 1) := by decide +kernel
theorem dX12_taken_35 : decode cX12_taken 35 = .ok (.iaload, 1) := by decide +kernel
theorem dX12_taken_36 : decode cX12_taken 36 = .ok (.iconst (-1), 1) := by decide +kernel
theorem dX12_taken_37 : decode cX12_taken 37 = .ok (.if_icmp .ne 6, 3) := by decide +kernel
theorem dX12_taken_4 : decode cX12_taken 4 = .ok (.ifCond .eq 23, 3) := by decide +kernel
theorem dX12_taken_40 : decode cX12_taken 40 = .ok (.bipush (-11), 2) := by decide +kernel
theorem dX12_taken_42 : decode cX12_taken 42 = .ok (.ireturn, 1) := by decide +kernel
theorem dX12_taken_7 : decode cX12_taken 7 = .ok (.iload_n 2, 1) := by decide +kernel
theorem dX12_taken_8 : decode cX12_taken 8 = .ok (.iconst 0, 1) := by decide +kernel
theorem dX12_taken_9 : decode cX12_taken 9 = .ok (.iconst 5, 1) := by decide +kernel
set_option maxRecDepth 20000 in
theorem ggX12_held_X12_in : GoodIn wsX12_held wsX12_in := goodIn_r _ [6] (by decide +kernel) (by decide +kernel)
set_option maxRecDepth 20000 in
theorem gX12_held_X12_in : GoodIn wsX12_held (va_wsS RX12 66 yX12_in wsX12_in) := goodIn_app (goodIn_of _ (by decide +kernel)) ggX12_held_X12_in
theorem dX12_held_0 : decode cX12_held 0 = .ok (.iload_n 1, 1) := by decide +kernel
theorem dX12_held_1 : decode cX12_held 1 = .ok (.iconst 0, 1) := by decide +kernel
theorem dX12_held_10 : decode cX12_held 10 = .ok (.iconst 0, 1) := by decide +kernel
theorem dX12_held_11 : decode cX12_held 11 = .ok (.iconst 2, 1) := by decide +kernel
theorem dX12_held_12 : decode cX12_held 12 = .ok (.invokestatic 66, 3) := by decide +kernel
theorem dX12_held_123 : decode cX12_held 123 = .ok (.iinc 6 1, 3) := by decide +kernel
theorem dX12_held_126 : decode cX12_held 126 = .ok (.goto (-94), 3) := by decide +kernel
theorem dX12_held_129 : decode cX12_held 129 = .ok (.iload_n 2, 1) := by decide +kernel
theorem dX12_held_130 : decode cX12_held 130 = .ok (.ifCond .ne 7, 3) := by decide +kernel
theorem dX12_held_133 : decode cX12_held 133 = .ok (.iload_n 3, 1) := by decide +kernel
theorem dX12_held_134 : decode cX12_held 134 = .ok (.goto 15, 3) := by decide +kernel
theorem dX12_held_137 : decode cX12_held 137 = .ok (.iload_n 2, 1) := by decide +kernel
theorem dX12_held_138 : decode cX12_held 138 = .ok (.iconst 1, 1) := by decide +kernel
theorem dX12_held_139 : decode cX12_held 139 = .ok (.if_icmp .ne 8, 3) := by decide +kernel
theorem dX12_held_142 : decode cX12_held 142 = .ok (.iload 4, 2) := by decide +kernel
theorem dX12_held_144 : decode cX12_held 144 = .ok (.goto 5, 3) := by decide +kernel
theorem dX12_held_147 : decode cX12_held 147 = .ok (.iload 5, 2) := by decide +kernel
theorem dX12_held_149 : decode cX12_held 149 = .ok (.ireturn, 1) := by decide +kernel
theorem dX12_held_15 : decode cX12_held 15 = .ok (.ifCond .ne 6, 3) := by decide +kernel
theorem dX12_held_18 : decode cX12_held 18 = .ok (.bipush (-2), 2) := by decide +kernel
theorem dX12_held_2 : decode cX12_held 2 = .ok (.iconst 5, 1) := by decide +kernel
theorem dX12_held_20 : decode cX12_held 20 = .ok (.ireturn, 1) := by decide +kernel
theorem dX12_held_21 : decode cX12_held 21 = .ok (.iconst 0, 1) := by decide +kernel
theorem dX12_held_22 : decode cX12_held 22 = .ok (.istore_n 3, 1) := by decide +kernel
theorem dX12_held_23 : decode cX12_held 23 = .ok (.iconst 0, 1) := by decide +kernel
theorem dX12_held_24 : decode cX12_held 24 = .ok (.istore 4, 2) := by decide +kernel
theorem dX12_held_26 : decode cX12_held 26 = .ok (.iconst (-1), 1) := by decide +kernel
theorem dX12_held_27 : decode cX12_held 27 = .ok (.istore 5, 2) := by decide +kernel
theorem dX12_held_29 : decode cX12_held 29 = .ok (.iconst 0, 1) := by decide +kernel
theorem dX12_held_3 : decode cX12_held 3 = .ok (.invokestatic 66, 3) := by decide +kernel
theorem dX12_held_30 : decode cX12_held 30 = .ok (.istore 6, 2) := by decide +kernel
theorem dX12_held_32 : decode cX12_held 32 = .ok (.iload 6, 2) := by decide +kernel
theorem dX12_held_34 : decode cX12_held 34 = .ok (.iconst 4, 1) := by decide +kernel
theorem dX12_held_35 : decode cX12_held 35 = .ok (.if_icmp .ge 94, 3) := by decide +kernel
theorem dX12_held_38 : decode cX12_held 38 = .ok (.aload_n 0, 1) := by decide +kernel
theorem dX12_held_39 : decode cX12_held 39 = .ok (.getfield 47, 3) := by decide +kernel
theorem dX12_held_42 : decode cX12_held 42 = .ok (.iload 6, 2) := by decide +kernel
theorem dX12_held_44 : decode cX12_held 44 = .ok (.iaload, 1) := by decide +kernel
theorem dX12_held_45 : decode cX12_held 45 = .ok (.iconst 0, 1) := by decide +kernel
theorem dX12_held_46 : decode cX12_held 46 = .ok (.iconst 5, 1) := by decide +kernel
theorem dX12_held_47 : decode cX12_held 47 = .ok (.invokestatic 66, 3) := by decide +kernel
theorem dX12_held_50 : decode cX12_held 50 = .ok (.ifCond .eq 73, 3) := by decide +kernel
theorem dX12_held_6 : decode cX12_held 6 = .ok (.ifCond .eq 12, 3) := by decide +kernel
theorem dX12_held_9 : decode cX12_held 9 = .ok (.iload_n 2, 1) := by decide +kernel
set_option maxRecDepth 20000 in
theorem ggX12_wrongAt_X12_isSheet : GoodIn wsX12_wrongAt wsX12_isSheet := goodIn_r _ [6, 7, 8, 5, 9] (by decide +kernel) (by decide +kernel)
set_option maxRecDepth 20000 in
theorem gX12_wrongAt_X12_isSheet : GoodIn wsX12_wrongAt (va_wsS RX12 157 yX12_isSheet wsX12_isSheet) := goodIn_app (goodIn_of _ (by decide +kernel)) ggX12_wrongAt_X12_isSheet
theorem dX12_wrongAt_0 : decode cX12_wrongAt 0 = .ok (.iload_n 1, 1) := by decide +kernel
theorem dX12_wrongAt_1 : decode cX12_wrongAt 1 = .ok (.invokestatic 157, 3) := by decide +kernel
theorem dX12_wrongAt_12 : decode cX12_wrongAt 12 = .ok (.aload_n 0, 1) := by decide +kernel
theorem dX12_wrongAt_13 : decode cX12_wrongAt 13 = .ok (.getfield 38, 3) := by decide +kernel
theorem dX12_wrongAt_16 : decode cX12_wrongAt 16 = .ok (.iload_n 1, 1) := by decide +kernel
theorem dX12_wrongAt_17 : decode cX12_wrongAt 17 = .ok (.iaload, 1) := by decide +kernel
theorem dX12_wrongAt_18 : decode cX12_wrongAt 18 = .ok (.iconst (-1), 1) := by decide +kernel
theorem dX12_wrongAt_19 : decode cX12_wrongAt 19 = .ok (.if_icmp .ne 8, 3) := by decide +kernel
theorem dX12_wrongAt_22 : decode cX12_wrongAt 22 = .ok (.bipush (-11), 2) := by decide +kernel
theorem dX12_wrongAt_24 : decode cX12_wrongAt 24 = .ok (.goto 25, 3) := by decide +kernel
theorem dX12_wrongAt_4 : decode cX12_wrongAt 4 = .ok (.ifCond .ne 8, 3) := by decide +kernel
theorem dX12_wrongAt_49 : decode cX12_wrongAt 49 = .ok (.ireturn, 1) := by decide +kernel
theorem dX12_wrongAt_7 : decode cX12_wrongAt 7 = .ok (.bipush (-2), 2) := by decide +kernel
theorem dX12_wrongAt_9 : decode cX12_wrongAt 9 = .ok (.goto 40, 3) := by decide +kernel
set_option maxRecDepth 20000 in
theorem ggX12_write_X12_wrongAt : GoodIn wsX12_write wsX12_wrongAt := goodIn_r _ [7, 2, 8, 9, 10, 6, 11, 12, 13, 14, 15, 16, 17, 18, 19, 20, 21, 22, 23, 24, 25, 26, 27, 28, 29, 30, 31, 32, 33, 34, 35, 36, 37, 38] (by decide +kernel) (by decide +kernel)
set_option maxRecDepth 20000 in
theorem gX12_write_X12_wrongAt : GoodIn wsX12_write (wsV RX12 234 RX12 yX12_wrongAt wsX12_wrongAt) := goodIn_app (goodIn_of _ (by decide +kernel)) ggX12_write_X12_wrongAt
theorem dX12_write_0 : decode cX12_write 0 = .ok (.aload_n 0, 1) := by decide +kernel
theorem dX12_write_1 : decode cX12_write 1 = .ok (.iload_n 1, 1) := by decide +kernel
theorem dX12_write_10 : decode cX12_write 10 = .ok (.ifCond .eq 6, 3) := by decide +kernel
theorem dX12_write_13 : decode cX12_write 13 = .ok (.iload 4, 2) := by decide +kernel
theorem dX12_write_15 : decode cX12_write 15 = .ok (.ireturn, 1) := by decide +kernel
theorem dX12_write_2 : decode cX12_write 2 = .ok (.iload_n 2, 1) := by decide +kernel
theorem dX12_write_3 : decode cX12_write 3 = .ok (.invokevirtual 234, 3) := by decide +kernel
theorem dX12_write_6 : decode cX12_write 6 = .ok (.istore 4, 2) := by decide +kernel
theorem dX12_write_8 : decode cX12_write 8 = .ok (.iload 4, 2) := by decide +kernel
set_option maxRecDepth 20000 in
theorem ggX12_item_X12_wrongAt : GoodIn wsX12_item wsX12_wrongAt := goodIn_r _ [6, 7, 8, 9, 10, 5, 11, 12, 13, 14, 15, 16, 17, 18, 19, 20, 21, 22, 23, 24, 25, 26, 27, 28, 29, 30, 31, 32, 33, 34, 35, 36, 37, 38] (by decide +kernel) (by decide +kernel)
set_option maxRecDepth 20000 in
theorem gX12_item_X12_wrongAt : GoodIn wsX12_item (wsV RX12 234 RX12 yX12_wrongAt wsX12_wrongAt) := goodIn_app (goodIn_of _ (by decide +kernel)) ggX12_item_X12_wrongAt
theorem dX12_item_0 : decode cX12_item 0 = .ok (.aload_n 0, 1) := by decide +kernel
theorem dX12_item_1 : decode cX12_item 1 = .ok (.iload_n 1, 1) := by decide +kernel
theorem dX12_item_11 : decode cX12_item 11 = .ok (.iload_n 3, 1) := by decide +kernel
theorem dX12_item_12 : decode cX12_item 12 = .ok (.goto 14, 3) := by decide +kernel
theorem dX12_item_2 : decode cX12_item 2 = .ok (.iload_n 2, 1) := by decide +kernel
theorem dX12_item_26 : decode cX12_item 26 = .ok (.ireturn, 1) := by decide +kernel
theorem dX12_item_3 : decode cX12_item 3 = .ok (.invokevirtual 234, 3) := by decide +kernel
theorem dX12_item_6 : decode cX12_item 6 = .ok (.istore_n 3, 1) := by decide +kernel
theorem dX12_item_7 : decode cX12_item 7 = .ok (.iload_n 3, 1) := by decide +kernel
theorem dX12_item_8 : decode cX12_item 8 = .ok (.ifCond .eq 7, 3) := by decide +kernel
set_option maxRecDepth 20000 in
theorem ggX12_copy_X12_isSheet : GoodIn wsX12_copy wsX12_isSheet := goodIn_r _ [7, 8, 9, 6, 10] (by decide +kernel) (by decide +kernel)
set_option maxRecDepth 20000 in
theorem gX12_copy_X12_isSheet : GoodIn wsX12_copy (va_wsS RX12 157 yX12_isSheet wsX12_isSheet) := goodIn_app (goodIn_of _ (by decide +kernel)) ggX12_copy_X12_isSheet
theorem dX12_copy_0 : decode cX12_copy 0 = .ok (.iload_n 1, 1) := by decide +kernel
theorem dX12_copy_1 : decode cX12_copy 1 = .ok (.invokestatic 157, 3) := by decide +kernel
theorem dX12_copy_11 : decode cX12_copy 11 = .ok (.ifCond .ne 6, 3) := by decide +kernel
theorem dX12_copy_14 : decode cX12_copy 14 = .ok (.bipush (-2), 2) := by decide +kernel
theorem dX12_copy_16 : decode cX12_copy 16 = .ok (.ireturn, 1) := by decide +kernel
theorem dX12_copy_17 : decode cX12_copy 17 = .ok (.aload_n 0, 1) := by decide +kernel
theorem dX12_copy_18 : decode cX12_copy 18 = .ok (.getfield 38, 3) := by decide +kernel
theorem dX12_copy_21 : decode cX12_copy 21 = .ok (.iload_n 1, 1) := by decide +kernel
theorem dX12_copy_22 : decode cX12_copy 22 = .ok (.iaload, 1) := by decide +kernel
theorem dX12_copy_23 : decode cX12_copy 23 = .ok (.iconst (-1), 1) := by decide +kernel
theorem dX12_copy_24 : decode cX12_copy 24 = .ok (.if_icmp .eq 13, 3) := by decide +kernel
theorem dX12_copy_37 : decode cX12_copy 37 = .ok (.bipush (-11), 2) := by decide +kernel
theorem dX12_copy_39 : decode cX12_copy 39 = .ok (.ireturn, 1) := by decide +kernel
theorem dX12_copy_4 : decode cX12_copy 4 = .ok (.ifCond .eq 10, 3) := by decide +kernel
theorem dX12_copy_7 : decode cX12_copy 7 = .ok (.iload_n 3, 1) := by decide +kernel
theorem dX12_copy_8 : decode cX12_copy 8 = .ok (.invokestatic 157, 3) := by decide +kernel
section LW2
variable {p : Program} {l : Launch} {e : Env} {R : Room} {s : State} {m : MethodId} {args : Array Value} {below : List Frame} {meth : Method} {c : Code} {H : Heap} {locs : List Loc} {cells slots : Nat} {Q : State → Prop}
variable {pc : Nat} {ls : Array Slot} {rest st0 : List Value} {cc bytes : ByteArray} {nL maxL index n mc ms : Nat} {own : String} {y : MethodName} {ret : Option FieldType} {rm : Room} {Ts ws : List Cond} {D : va_G} {cI cS : ClassId} {wc : va_W} {b : Addr} {As : List Value} {ci : Nat} {q : vw_C} {fs : List Value}
/-- a place that is a number below the length -/
theorem lz_ald {tys : List (ClassId × FieldType)} {W0 : va_W} {a : Nat} (hexec : p.tables.exec = Jvm.exec) (hb : c.code = cc) (hK : va_K D cls tys s) (hP : va_P D cls W0 H) (q0 t0 : Nat) {cA : ClassId} {k : Nat} {f : Nat → Int32} (ha : W0[q0]? = some (a, .inl (cA, k, .inl f))) (ht : tys[t0]? = some (cA, .int)) (i : Nat) (hi : i < k ∧ k < 2 ^ 31) (hdg : decode cc pc = .ok (.iaload, 1))
    (kk : W p l e R s m args below meth c H locs cells slots Q (F0 m (pc + 1) ls (.int (f i) :: rest))) : W p l e R s m args below meth c H locs cells slots Q (F0 m pc ls (.int (nI i) :: .ref a :: rest)) := by
  refine va_iald hexec hb hK hP q0 t0 ha ht (vp_in_nI hi.1 hi.2) hdg ?_
  rw [nI_clamp (by omega)]
  exact kk
theorem lz_ast {tys : List (ClassId × FieldType)} {W0 : va_W} {A1 : Nat → Prop} {H2 : Heap} {a : Nat} (hexec : p.tables.exec = Jvm.exec) (hb : c.code = cc) (hK : va_K D cls tys s) (hP : va_P D cls W0 H) (hD : va_D A1 W0) (hS : va_S A1 H2 H locs) (q0 t0 : Nat) {cA : ClassId} {k : Nat} {f : Nat → Int32} {x : Int32} (ha : W0[q0]? = some (a, .inl (cA, k, .inl f))) (ht : tys[t0]? = some (cA, .int)) (i : Nat) (hi : i < k ∧ k < 2 ^ 31) (hdg : decode cc pc = .ok (.iastore, 1))
    (kk : ∀ (H1 : Heap) (locs1 : List Loc), va_P D cls (W0.set q0 (a, .inl (cA, k, .inl (upd f i x)))) H1 → va_D A1 (W0.set q0 (a, .inl (cA, k, .inl (upd f i x)))) → va_S A1 H2 H1 locs1 → W p l e R s m args below meth c H1 locs1 cells slots Q (F0 m (pc + 1) ls rest)) : W p l e R s m args below meth c H locs cells slots Q (F0 m pc ls (.int x :: .int (nI i) :: .ref a :: rest)) := by
  refine va_iast hexec hb hK hP hD hS q0 t0 ha ht (vp_in_nI hi.1 hi.2) hdg (fun H1 locs1 h1 h2 h3 => ?_)
  rw [nI_clamp (by omega)] at h1 h2
  exact kk H1 locs1 h1 h2 h3
variable {S : Type} {A : Nat → Prop} {H0 : Heap} {W0 wr : va_W} {w1 : S → va_W} {isC isR : List Nat} {pv : S → Prop} {pi : Int32 → S → Prop}
/-- a method that writes; what it leaves is told by a word of its own kind -/
abbrev QE {S : Type} (D : va_G) (ws : va_W) (w' : S → va_W) (sz : Nat) (post : S → Prop) : Array Value → State → Outcome → State → Prop := va_Qv post (fun u t => va_P D cls (w' u) t.heap ∧ va_D (va_A ws sz) (w' u)) (va_A ws sz)
abbrev QF {S : Type} (D : va_G) (ws : va_W) (w' : S → va_W) (sz : Nat) (post : Int32 → S → Prop) : Array Value → State → Outcome → State → Prop := va_Qi post (fun u t => va_P D cls (w' u) t.heap ∧ va_D (va_A ws sz) (w' u)) (va_A ws sz)
theorem lz_qe (F : CallFix p m c cc nL s args Ts own) (hM : Met l y ws rm (PQ D cI cS wc H.size (.ref b :: As)) (QE D wc w1 H.size pv) mc ms (va_A wc H.size)) (hK : KK D cI cS s) (hP : va_P D cls W0 H) (hD : va_D A W0) (hS : va_S A H0 H locs) (hA : ∀ q, H0.size ≤ q → A q)
    (isC isR : List Nat) (hnC : va_nd isC = true) (hC : isC.map (fun i => W0[i]?) = wc.map some) (hR : isR.map (fun i => W0[i]?) = wr.map some) (hnR : va_nd isR = true) (hdis : ∀ i ∈ isR, i ∉ isC) (hPc : va_P D cls wc H) (hDc : va_D A wc) (hc : cls[ci]? = some q) (he : wc[0]? = some (b, .inr (ci, fs)))
    (cw : CallW R s args own q.1 index y bytes maxL ret ws rm mc ms n) (hn : As.length = n) (hsize : ls.size = nL) (hst : st0 = As.reverse ++ .ref b :: rest) (hW : (rest.map fun v => v.category).sum ≤ 8) (hdg : decode cc pc = .ok (.invokevirtual index, 3)) (hf : cells + mc ≤ R.cells ∧ slots + ms ≤ R.slots)
    (kk : ∀ (u : S) (H1 : Heap) (locs1 : List Loc), pv u → va_P D cls (wr ++ w1 u) H1 → va_D A (wr ++ w1 u) → va_S A H0 H1 locs1 → W p l e R s m args below meth c H1 locs1 (cells + mc) (slots + ms) Q (F0 m (pc + 3) ls rest)) : W p l e R s m args below meth c H locs cells slots Q (F0 m pc ls st0) := by
  have hFc := va_free hD hS hA isC hC
  refine va_callv (va_runV (As := As) (rest := rest) F hM cw ⟨lz_bQ, va_recv hK.1 hPc hc he, fun U hU hW => ⟨rfl, by rw [hU], by rw [hU]; exact hPc, hK.warm hW, hDc.weaken (fun _ _ _ _ => trivial)⟩⟩ rfl hn hsize hst (lv_room hW) hdg hf) hS (fun q _ h => hFc q h) hFc (fun u t H1 locs1 ht hvm hw hB hz1 hk1 hS1 => ?_)
  subst ht
  obtain ⟨hP2, hD2⟩ := va_join hP hD isC isR hC hR hnR hdis hk1 hFc hB.1 hB.2
  exact kk u _ locs1 hw hP2 hD2 hS1
theorem lz_qf (F : CallFix p m c cc nL s args Ts own) (hM : Met l y ws rm (PQ D cI cS wc H.size (.ref b :: As)) (QF D wc w1 H.size pi) mc ms (va_A wc H.size)) (hK : KK D cI cS s) (hP : va_P D cls W0 H) (hD : va_D A W0) (hS : va_S A H0 H locs) (hA : ∀ q, H0.size ≤ q → A q)
    (isC isR : List Nat) (hnC : va_nd isC = true) (hC : isC.map (fun i => W0[i]?) = wc.map some) (hR : isR.map (fun i => W0[i]?) = wr.map some) (hnR : va_nd isR = true) (hdis : ∀ i ∈ isR, i ∉ isC) (hPc : va_P D cls wc H) (hDc : va_D A wc) (hc : cls[ci]? = some q) (he : wc[0]? = some (b, .inr (ci, fs)))
    (cw : CallW R s args own q.1 index y bytes maxL ret ws rm mc ms n) (hn : As.length = n) (hsize : ls.size = nL) (hst : st0 = As.reverse ++ .ref b :: rest) (hW : (rest.map fun v => v.category).sum ≤ 8) (hdg : decode cc pc = .ok (.invokevirtual index, 3)) (hf : cells + mc ≤ R.cells ∧ slots + ms ≤ R.slots)
    (kk : ∀ (r : Int32) (u : S) (H1 : Heap) (locs1 : List Loc), pi r u → va_P D cls (wr ++ w1 u) H1 → va_D A (wr ++ w1 u) → va_S A H0 H1 locs1 → W p l e R s m args below meth c H1 locs1 (cells + mc) (slots + ms) Q (F0 m (pc + 3) ls (.int r :: rest))) : W p l e R s m args below meth c H locs cells slots Q (F0 m pc ls st0) := by
  have hFc := va_free hD hS hA isC hC
  refine va_calli (va_runV (As := As) (rest := rest) F hM cw ⟨lz_bQ, va_recv hK.1 hPc hc he, fun U hU hW => ⟨rfl, by rw [hU], by rw [hU]; exact hPc, hK.warm hW, hDc.weaken (fun _ _ _ _ => trivial)⟩⟩ rfl hn hsize hst (lv_room hW) hdg hf) hS (fun q _ h => hFc q h) hFc (fun r u t H1 locs1 ht hvm hw hB hz1 hk1 hS1 => ?_)
  subst ht
  obtain ⟨hP2, hD2⟩ := va_join hP hD isC isR hC hR hnR hdis hk1 hFc hB.1 hB.2
  exact kk r u _ locs1 hw hP2 hD2 hS1
end LW2
theorem dX12_lays_0 : decode cX12_lays 0 = .ok (.aload_n 0, 1) := by decide +kernel
theorem dX12_lays_1 : decode cX12_lays 1 = .ok (.getfield 13, 3) := by decide +kernel
theorem dX12_lays_10 : decode cX12_lays 10 = .ok (.iaload, 1) := by decide +kernel
theorem dX12_lays_11 : decode cX12_lays 11 = .ok (.iconst 1, 1) := by decide +kernel
theorem dX12_lays_12 : decode cX12_lays 12 = .ok (.iload_n 2, 1) := by decide +kernel
theorem dX12_lays_13 : decode cX12_lays 13 = .ok (.ishl, 1) := by decide +kernel
theorem dX12_lays_14 : decode cX12_lays 14 = .ok (.iconst (-1), 1) := by decide +kernel
theorem dX12_lays_15 : decode cX12_lays 15 = .ok (.ixor, 1) := by decide +kernel
theorem dX12_lays_16 : decode cX12_lays 16 = .ok (.iand, 1) := by decide +kernel
theorem dX12_lays_17 : decode cX12_lays 17 = .ok (.iload_n 3, 1) := by decide +kernel
theorem dX12_lays_18 : decode cX12_lays 18 = .ok (.iload_n 2, 1) := by decide +kernel
theorem dX12_lays_19 : decode cX12_lays 19 = .ok (.ishl, 1) := by decide +kernel
theorem dX12_lays_20 : decode cX12_lays 20 = .ok (.ior, 1) := by decide +kernel
theorem dX12_lays_21 : decode cX12_lays 21 = .ok (.iastore, 1) := by decide +kernel
theorem dX12_lays_22 : decode cX12_lays 22 = .ok (.aload_n 0, 1) := by decide +kernel
theorem dX12_lays_23 : decode cX12_lays 23 = .ok (.getfield 13, 3) := by decide +kernel
theorem dX12_lays_26 : decode cX12_lays 26 = .ok (.iload_n 2, 1) := by decide +kernel
theorem dX12_lays_27 : decode cX12_lays 27 = .ok (.aload_n 0, 1) := by decide +kernel
theorem dX12_lays_28 : decode cX12_lays 28 = .ok (.getfield 13, 3) := by decide +kernel
theorem dX12_lays_31 : decode cX12_lays 31 = .ok (.iload_n 2, 1) := by decide +kernel
theorem dX12_lays_32 : decode cX12_lays 32 = .ok (.iaload, 1) := by decide +kernel
theorem dX12_lays_33 : decode cX12_lays 33 = .ok (.iconst 1, 1) := by decide +kernel
theorem dX12_lays_34 : decode cX12_lays 34 = .ok (.iload_n 1, 1) := by decide +kernel
theorem dX12_lays_35 : decode cX12_lays 35 = .ok (.ishl, 1) := by decide +kernel
theorem dX12_lays_36 : decode cX12_lays 36 = .ok (.iconst (-1), 1) := by decide +kernel
theorem dX12_lays_37 : decode cX12_lays 37 = .ok (.ixor, 1) := by decide +kernel
theorem dX12_lays_38 : decode cX12_lays 38 = .ok (.iand, 1) := by decide +kernel
theorem dX12_lays_39 : decode cX12_lays 39 = .ok (.iload_n 3, 1) := by decide +kernel
theorem dX12_lays_4 : decode cX12_lays 4 = .ok (.iload_n 1, 1) := by decide +kernel
theorem dX12_lays_40 : decode cX12_lays 40 = .ok (.iload_n 1, 1) := by decide +kernel
theorem dX12_lays_41 : decode cX12_lays 41 = .ok (.ishl, 1) := by decide +kernel
theorem dX12_lays_42 : decode cX12_lays 42 = .ok (.ior, 1) := by decide +kernel
theorem dX12_lays_43 : decode cX12_lays 43 = .ok (.iastore, 1) := by decide +kernel
theorem dX12_lays_44 : decode cX12_lays 44 = .ok (.return_, 1) := by decide +kernel
theorem dX12_lays_5 : decode cX12_lays 5 = .ok (.aload_n 0, 1) := by decide +kernel
theorem dX12_lays_6 : decode cX12_lays 6 = .ok (.getfield 13, 3) := by decide +kernel
theorem dX12_lays_9 : decode cX12_lays 9 = .ok (.iload_n 1, 1) := by decide +kernel
theorem fa_and (a b : Nat) : nI a &&& nI b = nI (a &&& b) := by
  apply Int32.toBitVec_inj.1
  show BitVec.ofNat 32 a &&& BitVec.ofNat 32 b = BitVec.ofNat 32 (a &&& b)
  apply BitVec.eq_of_getLsbD_eq
  intro i hi
  simp [hi]
theorem dX12_bits_11 : decode cX12_bits 11 = .ok (.iload_n 2, 1) := by decide +kernel
theorem dX12_bits_12 : decode cX12_bits 12 = .ok (.iload_n 2, 1) := by decide +kernel
theorem dX12_bits_13 : decode cX12_bits 13 = .ok (.iconst 1, 1) := by decide +kernel
theorem dX12_bits_14 : decode cX12_bits 14 = .ok (.isub, 1) := by decide +kernel
theorem dX12_bits_15 : decode cX12_bits 15 = .ok (.iand, 1) := by decide +kernel
theorem dX12_bits_16 : decode cX12_bits 16 = .ok (.istore_n 2, 1) := by decide +kernel
theorem dX12_bits_17 : decode cX12_bits 17 = .ok (.goto (-13), 3) := by decide +kernel
theorem dX12_bits_8 : decode cX12_bits 8 = .ok (.iinc 1 1, 3) := by decide +kernel
set_option maxRecDepth 20000 in
theorem ggX12_lines_X12_bits : GoodIn wsX12_lines wsX12_bits := goodIn_r _ [6] (by decide +kernel) (by decide +kernel)
set_option maxRecDepth 20000 in
theorem gX12_lines_X12_bits : GoodIn wsX12_lines (va_wsS RX12 85 yX12_bits wsX12_bits) := goodIn_app (goodIn_of _ (by decide +kernel)) ggX12_lines_X12_bits
theorem dX12_lines_12 : decode cX12_lines 12 = .ok (.iload_n 1, 1) := by decide +kernel
theorem dX12_lines_13 : decode cX12_lines 13 = .ok (.aload_n 0, 1) := by decide +kernel
theorem dX12_lines_14 : decode cX12_lines 14 = .ok (.getfield 13, 3) := by decide +kernel
theorem dX12_lines_17 : decode cX12_lines 17 = .ok (.iload_n 2, 1) := by decide +kernel
theorem dX12_lines_18 : decode cX12_lines 18 = .ok (.iaload, 1) := by decide +kernel
theorem dX12_lines_19 : decode cX12_lines 19 = .ok (.invokestatic 85, 3) := by decide +kernel
theorem dX12_lines_22 : decode cX12_lines 22 = .ok (.iadd, 1) := by decide +kernel
theorem dX12_lines_23 : decode cX12_lines 23 = .ok (.istore_n 1, 1) := by decide +kernel
theorem dX12_lines_24 : decode cX12_lines 24 = .ok (.iinc 2 1, 3) := by decide +kernel
theorem dX12_lines_27 : decode cX12_lines 27 = .ok (.goto (-23), 3) := by decide +kernel
/-- a set without a point -/
def rmN (s q : Nat) : Nat := s &&& (4095 ^^^ 2 ^ q)
/-- a bit, as the machine asks for it -/
theorem bit_ask {v q : Nat} (hv : v < 4096) (hq : q < 12) : (nI v >>> (nI q &&& 31)) &&& 1 = if v.testBit q then 1 else 0 := by
  have e1 : nI v >>> (nI q &&& 31) = nI (v / 2 ^ q) := pk_shrN (by omega) _ q (by
    have : ∀ q, q < 12 → ((nI q &&& 31).toBitVec.smod 32).toNat = q := by decide
    exact this q hq)
  rw [e1, show (1 : Int32) = nI 1 from rfl, fa_and, Nat.and_one_is_mod]
  have e2 : v.testBit q = decide (v / 2 ^ q % 2 = 1) := Nat.testBit_eq_decide_div_mod_eq
  rw [e2]
  rcases Nat.mod_two_eq_zero_or_one (v / 2 ^ q) with h | h <;> simp [h] <;> rfl
/-- the least point of a set -/
def lo (s : Nat) : Nat := (List.range 12).findIdx (fun i => s.testBit i)
set_option maxRecDepth 1000000 in
theorem lo_all : (List.range 4096).all (fun s => decide (s = 0 ∨ (lo s < 12 ∧ s.testBit (lo s) = true ∧ s &&& (s - 1) = rmN s (lo s)))) = true := by decide +kernel
theorem lo_of {s : Nat} (h : s < 4096) (h0 : s ≠ 0) : lo s < 12 ∧ s.testBit (lo s) = true ∧ s &&& (s - 1) = rmN s (lo s) := (co_dec (P := fun s => s = 0 ∨ (lo s < 12 ∧ s.testBit (lo s) = true ∧ s &&& (s - 1) = rmN s (lo s))) lo_all h).resolve_left h0
theorem lo_least {s i : Nat} (h : i < lo s) : s.testBit i = false := by
  have h1 : i < (List.range 12).length := by
    have := List.findIdx_le_length (xs := List.range 12) (p := fun i => s.testBit i)
    unfold lo at h
    omega
  have h2 := List.not_of_lt_findIdx (xs := List.range 12) (p := fun i => s.testBit i) (i := i) h
  simpa using h2
theorem dX12_has_0 : decode cX12_has 0 = .ok (.iload_n 0, 1) := by decide +kernel
theorem dX12_has_1 : decode cX12_has 1 = .ok (.iload_n 1, 1) := by decide +kernel
theorem dX12_has_10 : decode cX12_has 10 = .ok (.goto 4, 3) := by decide +kernel
theorem dX12_has_14 : decode cX12_has 14 = .ok (.ireturn, 1) := by decide +kernel
theorem dX12_has_2 : decode cX12_has 2 = .ok (.ishr, 1) := by decide +kernel
theorem dX12_has_3 : decode cX12_has 3 = .ok (.iconst 1, 1) := by decide +kernel
theorem dX12_has_4 : decode cX12_has 4 = .ok (.iand, 1) := by decide +kernel
theorem dX12_has_5 : decode cX12_has 5 = .ok (.iconst 1, 1) := by decide +kernel
theorem dX12_has_6 : decode cX12_has 6 = .ok (.if_icmp .ne 7, 3) := by decide +kernel
theorem dX12_has_9 : decode cX12_has 9 = .ok (.iconst 1, 1) := by decide +kernel
theorem dX12_has_13 : decode cX12_has 13 = .ok (.iconst 0, 1) := by decide +kernel
set_option maxHeartbeats 4000000 in
set_option maxRecDepth 100000 in
theorem c_has1 (l : Launch) (D : va_G) (cI cS : ClassId) (v q : Nat) (hv : v < 4096) (hq : q < 12) (hbit : v.testBit q = true) : Met l yX12_has wsX12_has ({ frames := 0, cells := 0, slots := 0, locals := 0 }) (PS D cI cS [] [.int (nI v), .int (nI q)]) (vp_Si (fun r => r = 1)) 0 0 (fun _ => False) := by
  refine Met.ofW (cc := cX12_has) (maxL := 2) (ret := (some .boolean)) (by decide) rfl ?_
  intro p e s m args below meth c s₁ B hml hv
  obtain ⟨rfl, hP, hKK⟩ := hv
  have hx := B.exec
  have hb := B.bytes
  have hr := B.returns
  have hts := atoms_spec (ws := wsX12_has) B.pre
  have hown : s.vm.findClass RX12 = some m.cls := findClass_of_methodNamed B.named
  have hlocks := B.notSynchronized
  have hK := hKK.1
  have hN := hKK.2
  have hl := lv_entry ([.int (nI v), .int (nI q)]) (n := 2) (Nat.le_of_ble_eq_true rfl)
  rw [lg_entry_eq]
  generalize (lg_sl ([.int (nI v), .int (nI q)]) ++ List.replicate (2 - (lg_sl ([.int (nI v), .int (nI q)])).length) Slot.unset).toArray = ls at hl ⊢
  have hl : lv_has ls 2 [(0, .int (nI v)), (1, .int (nI q))] := hl
  refine lv_iload_n hx hb dX12_has_0 rfl (lv_at hl 0 rfl) ?_
  refine lv_iload_n hx hb dX12_has_1 rfl (lv_at hl 1 rfl) ?_
  refine lv_ishr hx hb dX12_has_2 ?_
  refine lv_iconst (v := 1) hx hb dX12_has_3 (by decide) ?_
  refine lv_iand hx hb dX12_has_4 ?_
  refine lz_top (y := 1) (by rw [bit_ask hv hq, hbit]; rfl) ?_
  refine lv_iconst (v := 1) hx hb dX12_has_5 (by decide) ?_
  refine lv_icmp_ne (tgt := 13) hx hb dX12_has_6 (by decide) (fun c5129 => ?_) (fun c5129 => ?_)
  · exact absurd c5129 (by decide)
  · refine lv_iconst (v := 1) hx hb dX12_has_9 (by decide) ?_
    refine lv_goto (tgt := 14) hx hb dX12_has_10 (by decide) ?_
    exact W.zret (v := 1) hx hb hr (by decide) (fun t ht hW => ⟨_, rfl, rfl, ht⟩) (fun q hq => absurd hq List.not_mem_nil) dX12_has_14
set_option maxHeartbeats 4000000 in
set_option maxRecDepth 100000 in
theorem c_has0 (l : Launch) (D : va_G) (cI cS : ClassId) (v q : Nat) (hv : v < 4096) (hq : q < 12) (hbit : v.testBit q = false) : Met l yX12_has wsX12_has ({ frames := 0, cells := 0, slots := 0, locals := 0 }) (PS D cI cS [] [.int (nI v), .int (nI q)]) (vp_Si (fun r => r = 0)) 0 0 (fun _ => False) := by
  refine Met.ofW (cc := cX12_has) (maxL := 2) (ret := (some .boolean)) (by decide) rfl ?_
  intro p e s m args below meth c s₁ B hml hv
  obtain ⟨rfl, hP, hKK⟩ := hv
  have hx := B.exec
  have hb := B.bytes
  have hr := B.returns
  have hts := atoms_spec (ws := wsX12_has) B.pre
  have hown : s.vm.findClass RX12 = some m.cls := findClass_of_methodNamed B.named
  have hlocks := B.notSynchronized
  have hK := hKK.1
  have hN := hKK.2
  have hl := lv_entry ([.int (nI v), .int (nI q)]) (n := 2) (Nat.le_of_ble_eq_true rfl)
  rw [lg_entry_eq]
  generalize (lg_sl ([.int (nI v), .int (nI q)]) ++ List.replicate (2 - (lg_sl ([.int (nI v), .int (nI q)])).length) Slot.unset).toArray = ls at hl ⊢
  have hl : lv_has ls 2 [(0, .int (nI v)), (1, .int (nI q))] := hl
  refine lv_iload_n hx hb dX12_has_0 rfl (lv_at hl 0 rfl) ?_
  refine lv_iload_n hx hb dX12_has_1 rfl (lv_at hl 1 rfl) ?_
  refine lv_ishr hx hb dX12_has_2 ?_
  refine lv_iconst (v := 1) hx hb dX12_has_3 (by decide) ?_
  refine lv_iand hx hb dX12_has_4 ?_
  refine lz_top (y := 0) (by rw [bit_ask hv hq, hbit]; rfl) ?_
  refine lv_iconst (v := 1) hx hb dX12_has_5 (by decide) ?_
  refine lv_icmp_ne (tgt := 13) hx hb dX12_has_6 (by decide) (fun c5130 => ?_) (fun c5130 => ?_)
  · refine lv_iconst (v := 0) hx hb dX12_has_13 (by decide) ?_
    exact W.zret (v := 0) hx hb hr (by decide) (fun t ht hW => ⟨_, rfl, rfl, ht⟩) (fun q hq => absurd hq List.not_mem_nil) dX12_has_14
  · exact absurd c5130 (by decide)
set_option maxRecDepth 20000 in
theorem ggX12_first_X12_has : GoodIn wsX12_first wsX12_has := goodIn_r _ [4] (by decide +kernel) (by decide +kernel)
set_option maxRecDepth 20000 in
theorem gX12_first_X12_has : GoodIn wsX12_first (va_wsS RX12 59 yX12_has wsX12_has) := goodIn_app (goodIn_of _ (by decide +kernel)) ggX12_first_X12_has
theorem dX12_first_16 : decode cX12_first 16 = .ok (.iload_n 1, 1) := by decide +kernel
theorem dX12_first_17 : decode cX12_first 17 = .ok (.ireturn, 1) := by decide +kernel
theorem dX12_first_2 : decode cX12_first 2 = .ok (.iload_n 0, 1) := by decide +kernel
theorem dX12_first_3 : decode cX12_first 3 = .ok (.iload_n 1, 1) := by decide +kernel
theorem dX12_first_4 : decode cX12_first 4 = .ok (.invokestatic 59, 3) := by decide +kernel
theorem dX12_first_7 : decode cX12_first 7 = .ok (.ifCond .ne 9, 3) := by decide +kernel
theorem dX12_first_10 : decode cX12_first 10 = .ok (.iinc 1 1, 3) := by decide +kernel
theorem dX12_first_13 : decode cX12_first 13 = .ok (.goto (-11), 3) := by decide +kernel
theorem dX12_first_0 : decode cX12_first 0 = .ok (.iconst 0, 1) := by decide +kernel
theorem dX12_first_1 : decode cX12_first 1 = .ok (.istore_n 1, 1) := by decide +kernel
set_option maxHeartbeats 4000000 in
set_option maxRecDepth 100000 in
theorem c_first (l : Launch) (D : va_G) (cI cS : ClassId) (n : Nat) (hn : n < 4096) (hn0 : n ≠ 0) : Met l yX12_first wsX12_first ({ frames := 1, cells := 0, slots := 0, locals := 40 }) (PS D cI cS [] [.int (nI n)]) (vp_Si (fun r => r = nI (lo n))) 0 0 (fun _ => False) := by
  refine Met.ofW (cc := cX12_first) (maxL := 2) (ret := (some .int)) (by decide) rfl ?_
  intro p e s m args below meth c s₁ B hml hv
  obtain ⟨rfl, hP, hKK⟩ := hv
  have hx := B.exec
  have hb := B.bytes
  have hr := B.returns
  have hts := atoms_spec (ws := wsX12_first) B.pre
  have hown : s.vm.findClass RX12 = some m.cls := findClass_of_methodNamed B.named
  have hlocks := B.notSynchronized
  have hK := hKK.1
  have hN := hKK.2
  have hl := lv_entry ([.int (nI n)]) (n := 2) (Nat.le_of_ble_eq_true rfl)
  rw [lg_entry_eq]
  generalize (lg_sl ([.int (nI n)]) ++ List.replicate (2 - (lg_sl ([.int (nI n)])).length) Slot.unset).toArray = ls at hl ⊢
  have hl : lv_has ls 2 [(0, .int (nI n))] := hl
  have hlo := lo_of hn hn0
  have lp : ∀ (r q : Nat), q + r = lo n → ∀ (ls : Array Slot), lv_has ls 2 [(1, .int (nI q)), (0, .int (nI n))] → W p l e (headSpec wsX12_first ({ frames := 1, cells := 0, slots := 0, locals := 40 })).room s m ([.int (nI n)]).toArray below meth c s.heap [] 0 0 (MQ below (vp_Si (fun r => r = nI (lo n))) ([.int (nI n)]).toArray s 0 0 (fun _ => False)) (F0 m 2 ls []) := by
    intro r
    induction r with
    | zero =>
      intro q hq ls hl
      refine lv_iload_n hx hb dX12_first_2 rfl (lv_at hl 1 rfl) ?_
      refine lv_iload_n hx hb dX12_first_3 rfl (lv_at hl 0 rfl) ?_
      have hPc := hP.sub (ws' := []) [] rfl
      refine lz_ss (As := [.int (nI n), .int (nI q)]) (rest := []) ⟨hx, hb, hml, hown, hts⟩ (c_has1 l D cI cS n q hn (by omega) (by rw [show q = lo n by omega]; exact hlo.2.1)) hKK hPc (va_cwS 2 hts gX12_first_X12_has rfl rfl rfl (by decide +kernel) ⟨Nat.le_of_ble_eq_true rfl, Nat.le_of_ble_eq_true rfl⟩) rfl hl.1 rfl (Nat.le_of_ble_eq_true rfl) dX12_first_4 ⟨Nat.le_of_ble_eq_true rfl, Nat.le_of_ble_eq_true rfl⟩ (fun r9 hw => ?_)
      subst hw
      refine lv_if_ne (tgt := 16) hx hb dX12_first_7 (by decide) (fun c5131 => ?_) (fun c5131 => ?_)
      · refine lv_iload_n hx hb dX12_first_16 rfl (lv_at hl 0 rfl) ?_
        exact W.iret (v := nI q) hx hb hr (fun t ht hW => ⟨_, rfl, by rw [show q = lo n by omega], ht⟩) (fun q hq => absurd hq List.not_mem_nil) dX12_first_17
      · exact absurd c5131 (by decide)
    | succ r ih =>
      intro q hq ls hl
      refine lv_iload_n hx hb dX12_first_2 rfl (lv_at hl 1 rfl) ?_
      refine lv_iload_n hx hb dX12_first_3 rfl (lv_at hl 0 rfl) ?_
      have hPc := hP.sub (ws' := []) [] rfl
      refine lz_ss (As := [.int (nI n), .int (nI q)]) (rest := []) ⟨hx, hb, hml, hown, hts⟩ (c_has0 l D cI cS n q hn (by omega) (lo_least (by omega))) hKK hPc (va_cwS 2 hts gX12_first_X12_has rfl rfl rfl (by decide +kernel) ⟨Nat.le_of_ble_eq_true rfl, Nat.le_of_ble_eq_true rfl⟩) rfl hl.1 rfl (Nat.le_of_ble_eq_true rfl) dX12_first_4 ⟨Nat.le_of_ble_eq_true rfl, Nat.le_of_ble_eq_true rfl⟩ (fun r9 hw => ?_)
      subst hw
      refine lv_if_ne (tgt := 16) hx hb dX12_first_7 (by decide) (fun c5132 => ?_) (fun c5132 => ?_)
      · exact absurd c5132 (by decide)
      · refine lv_iinc (v := (nI (q + 1))) (lv' := [(1, .int (nI (q + 1))), (0, .int (nI n))]) hx hb dX12_first_10 hl (k := 0) rfl (nI_1 _) (by decide) rfl (fun ls hl => ?_)
        refine lv_goto (tgt := 2) hx hb dX12_first_13 (by decide) ?_
        exact ih (q + 1) (by omega) ls hl
  refine lv_iconst (v := 0) hx hb dX12_first_0 (by decide) ?_
  refine lv_istore_n (lv' := [(1, .int 0), (0, .int (nI n))]) hx hb dX12_first_1 rfl hl (by decide) rfl (fun ls hl => ?_)
  exact lp (lo n) 0 (by omega) ls (by rw [nI_0]; exact hl)
theorem dX12_reckons_155 : decode cX12_reckons 155 = .ok (.iload 4, 2) := by decide +kernel
theorem dX12_reckons_157 : decode cX12_reckons 157 = .ok (.aload_n 0, 1) := by decide +kernel
theorem dX12_reckons_158 : decode cX12_reckons 158 = .ok (.getfield 63, 3) := by decide +kernel
theorem dX12_reckons_161 : decode cX12_reckons 161 = .ok (.if_icmp .ge 71, 3) := by decide +kernel
theorem dX12_reckons_232 : decode cX12_reckons 232 = .ok (.iinc 1 1, 3) := by decide +kernel
theorem dX12_reckons_235 : decode cX12_reckons 235 = .ok (.goto (-226), 3) := by decide +kernel
set_option maxRecDepth 20000 in
theorem ggX12_reckons_X12_has : GoodIn wsX12_reckons wsX12_has := goodIn_r _ [15] (by decide +kernel) (by decide +kernel)
set_option maxRecDepth 20000 in
theorem gX12_reckons_X12_has : GoodIn wsX12_reckons (va_wsS RX12 59 yX12_has wsX12_has) := goodIn_app (goodIn_of _ (by decide +kernel)) ggX12_reckons_X12_has
theorem dX12_reckons_164 : decode cX12_reckons 164 = .ok (.iload_n 3, 1) := by decide +kernel
theorem dX12_reckons_165 : decode cX12_reckons 165 = .ok (.aload_n 0, 1) := by decide +kernel
theorem dX12_reckons_166 : decode cX12_reckons 166 = .ok (.getfield 13, 3) := by decide +kernel
theorem dX12_reckons_169 : decode cX12_reckons 169 = .ok (.iload_n 2, 1) := by decide +kernel
theorem dX12_reckons_170 : decode cX12_reckons 170 = .ok (.iaload, 1) := by decide +kernel
theorem dX12_reckons_171 : decode cX12_reckons 171 = .ok (.iand, 1) := by decide +kernel
theorem dX12_reckons_172 : decode cX12_reckons 172 = .ok (.iload 4, 2) := by decide +kernel
theorem dX12_reckons_174 : decode cX12_reckons 174 = .ok (.invokestatic 59, 3) := by decide +kernel
theorem dX12_reckons_177 : decode cX12_reckons 177 = .ok (.ifCond .eq 49, 3) := by decide +kernel
theorem dX12_reckons_226 : decode cX12_reckons 226 = .ok (.iinc 4 1, 3) := by decide +kernel
theorem dX12_reckons_229 : decode cX12_reckons 229 = .ok (.goto (-74), 3) := by decide +kernel
theorem dX12_reckons_180 : decode cX12_reckons 180 = .ok (.aload_n 0, 1) := by decide +kernel
theorem dX12_reckons_181 : decode cX12_reckons 181 = .ok (.getfield 17, 3) := by decide +kernel
theorem dX12_reckons_184 : decode cX12_reckons 184 = .ok (.iload_n 3, 1) := by decide +kernel
theorem dX12_reckons_185 : decode cX12_reckons 185 = .ok (.iconst 1, 1) := by decide +kernel
theorem dX12_reckons_186 : decode cX12_reckons 186 = .ok (.iload 4, 2) := by decide +kernel
theorem dX12_reckons_188 : decode cX12_reckons 188 = .ok (.ishl, 1) := by decide +kernel
theorem dX12_reckons_189 : decode cX12_reckons 189 = .ok (.iconst (-1), 1) := by decide +kernel
theorem dX12_reckons_190 : decode cX12_reckons 190 = .ok (.ixor, 1) := by decide +kernel
theorem dX12_reckons_191 : decode cX12_reckons 191 = .ok (.iand, 1) := by decide +kernel
theorem dX12_reckons_192 : decode cX12_reckons 192 = .ok (.iaload, 1) := by decide +kernel
theorem dX12_reckons_193 : decode cX12_reckons 193 = .ok (.iconst 1, 1) := by decide +kernel
theorem dX12_reckons_194 : decode cX12_reckons 194 = .ok (.iadd, 1) := by decide +kernel
theorem dX12_reckons_195 : decode cX12_reckons 195 = .ok (.aload_n 0, 1) := by decide +kernel
theorem dX12_reckons_196 : decode cX12_reckons 196 = .ok (.getfield 17, 3) := by decide +kernel
theorem dX12_reckons_199 : decode cX12_reckons 199 = .ok (.iload_n 1, 1) := by decide +kernel
theorem dX12_reckons_200 : decode cX12_reckons 200 = .ok (.iaload, 1) := by decide +kernel
theorem dX12_reckons_201 : decode cX12_reckons 201 = .ok (.if_icmp .ne 25, 3) := by decide +kernel
theorem dX12_reckons_204 : decode cX12_reckons 204 = .ok (.aload_n 0, 1) := by decide +kernel
theorem dX12_reckons_205 : decode cX12_reckons 205 = .ok (.getfield 20, 3) := by decide +kernel
theorem dX12_reckons_208 : decode cX12_reckons 208 = .ok (.iload_n 1, 1) := by decide +kernel
theorem dX12_reckons_209 : decode cX12_reckons 209 = .ok (.dup2, 1) := by decide +kernel
theorem dX12_reckons_210 : decode cX12_reckons 210 = .ok (.iaload, 1) := by decide +kernel
theorem dX12_reckons_211 : decode cX12_reckons 211 = .ok (.aload_n 0, 1) := by decide +kernel
theorem dX12_reckons_212 : decode cX12_reckons 212 = .ok (.getfield 20, 3) := by decide +kernel
theorem dX12_reckons_215 : decode cX12_reckons 215 = .ok (.iload_n 3, 1) := by decide +kernel
theorem dX12_reckons_216 : decode cX12_reckons 216 = .ok (.iconst 1, 1) := by decide +kernel
theorem dX12_reckons_217 : decode cX12_reckons 217 = .ok (.iload 4, 2) := by decide +kernel
theorem dX12_reckons_219 : decode cX12_reckons 219 = .ok (.ishl, 1) := by decide +kernel
theorem dX12_reckons_220 : decode cX12_reckons 220 = .ok (.iconst (-1), 1) := by decide +kernel
theorem dX12_reckons_221 : decode cX12_reckons 221 = .ok (.ixor, 1) := by decide +kernel
theorem dX12_reckons_222 : decode cX12_reckons 222 = .ok (.iand, 1) := by decide +kernel
theorem dX12_reckons_223 : decode cX12_reckons 223 = .ok (.iaload, 1) := by decide +kernel
theorem dX12_reckons_224 : decode cX12_reckons 224 = .ok (.iadd, 1) := by decide +kernel
theorem dX12_reckons_225 : decode cX12_reckons 225 = .ok (.iastore, 1) := by decide +kernel
theorem dX12_reckons_119 : decode cX12_reckons 119 = .ok (.aload_n 0, 1) := by decide +kernel
theorem dX12_reckons_120 : decode cX12_reckons 120 = .ok (.getfield 20, 3) := by decide +kernel
theorem dX12_reckons_123 : decode cX12_reckons 123 = .ok (.iload_n 1, 1) := by decide +kernel
theorem dX12_reckons_124 : decode cX12_reckons 124 = .ok (.aload_n 0, 1) := by decide +kernel
theorem dX12_reckons_125 : decode cX12_reckons 125 = .ok (.getfield 17, 3) := by decide +kernel
theorem dX12_reckons_128 : decode cX12_reckons 128 = .ok (.iload_n 3, 1) := by decide +kernel
theorem dX12_reckons_129 : decode cX12_reckons 129 = .ok (.iaload, 1) := by decide +kernel
theorem dX12_reckons_130 : decode cX12_reckons 130 = .ok (.aload_n 0, 1) := by decide +kernel
theorem dX12_reckons_131 : decode cX12_reckons 131 = .ok (.getfield 17, 3) := by decide +kernel
theorem dX12_reckons_134 : decode cX12_reckons 134 = .ok (.iload_n 1, 1) := by decide +kernel
theorem dX12_reckons_135 : decode cX12_reckons 135 = .ok (.iaload, 1) := by decide +kernel
theorem dX12_reckons_136 : decode cX12_reckons 136 = .ok (.if_icmp .ne 12, 3) := by decide +kernel
theorem dX12_reckons_139 : decode cX12_reckons 139 = .ok (.aload_n 0, 1) := by decide +kernel
theorem dX12_reckons_140 : decode cX12_reckons 140 = .ok (.getfield 20, 3) := by decide +kernel
theorem dX12_reckons_143 : decode cX12_reckons 143 = .ok (.iload_n 3, 1) := by decide +kernel
theorem dX12_reckons_144 : decode cX12_reckons 144 = .ok (.iaload, 1) := by decide +kernel
theorem dX12_reckons_145 : decode cX12_reckons 145 = .ok (.goto 4, 3) := by decide +kernel
theorem dX12_reckons_148 : decode cX12_reckons 148 = .ok (.iconst 0, 1) := by decide +kernel
theorem dX12_reckons_149 : decode cX12_reckons 149 = .ok (.iastore, 1) := by decide +kernel
theorem dX12_reckons_150 : decode cX12_reckons 150 = .ok (.iload_n 2, 1) := by decide +kernel
theorem dX12_reckons_151 : decode cX12_reckons 151 = .ok (.iconst 1, 1) := by decide +kernel
theorem dX12_reckons_152 : decode cX12_reckons 152 = .ok (.iadd, 1) := by decide +kernel
theorem dX12_reckons_153 : decode cX12_reckons 153 = .ok (.istore 4, 2) := by decide +kernel
theorem dX12_reckons_45 : decode cX12_reckons 45 = .ok (.iload 4, 2) := by decide +kernel
theorem dX12_reckons_47 : decode cX12_reckons 47 = .ok (.aload_n 0, 1) := by decide +kernel
theorem dX12_reckons_48 : decode cX12_reckons 48 = .ok (.getfield 63, 3) := by decide +kernel
theorem dX12_reckons_51 : decode cX12_reckons 51 = .ok (.if_icmp .ge 68, 3) := by decide +kernel
theorem dX12_reckons_113 : decode cX12_reckons 113 = .ok (.iinc 4 1, 3) := by decide +kernel
theorem dX12_reckons_116 : decode cX12_reckons 116 = .ok (.goto (-71), 3) := by decide +kernel
theorem dX12_reckons_54 : decode cX12_reckons 54 = .ok (.iload_n 3, 1) := by decide +kernel
theorem dX12_reckons_55 : decode cX12_reckons 55 = .ok (.aload_n 0, 1) := by decide +kernel
theorem dX12_reckons_56 : decode cX12_reckons 56 = .ok (.getfield 13, 3) := by decide +kernel
theorem dX12_reckons_59 : decode cX12_reckons 59 = .ok (.iload_n 2, 1) := by decide +kernel
theorem dX12_reckons_60 : decode cX12_reckons 60 = .ok (.iaload, 1) := by decide +kernel
theorem dX12_reckons_61 : decode cX12_reckons 61 = .ok (.iand, 1) := by decide +kernel
theorem dX12_reckons_62 : decode cX12_reckons 62 = .ok (.iload 4, 2) := by decide +kernel
theorem dX12_reckons_64 : decode cX12_reckons 64 = .ok (.invokestatic 59, 3) := by decide +kernel
theorem dX12_reckons_67 : decode cX12_reckons 67 = .ok (.ifCond .eq 46, 3) := by decide +kernel
theorem dX12_reckons_101 : decode cX12_reckons 101 = .ok (.iload_n 3, 1) := by decide +kernel
theorem dX12_reckons_102 : decode cX12_reckons 102 = .ok (.iconst 1, 1) := by decide +kernel
theorem dX12_reckons_103 : decode cX12_reckons 103 = .ok (.iload 4, 2) := by decide +kernel
theorem dX12_reckons_105 : decode cX12_reckons 105 = .ok (.ishl, 1) := by decide +kernel
theorem dX12_reckons_106 : decode cX12_reckons 106 = .ok (.iconst (-1), 1) := by decide +kernel
theorem dX12_reckons_107 : decode cX12_reckons 107 = .ok (.ixor, 1) := by decide +kernel
theorem dX12_reckons_108 : decode cX12_reckons 108 = .ok (.iand, 1) := by decide +kernel
theorem dX12_reckons_109 : decode cX12_reckons 109 = .ok (.iaload, 1) := by decide +kernel
theorem dX12_reckons_110 : decode cX12_reckons 110 = .ok (.iconst 1, 1) := by decide +kernel
theorem dX12_reckons_111 : decode cX12_reckons 111 = .ok (.iadd, 1) := by decide +kernel
theorem dX12_reckons_112 : decode cX12_reckons 112 = .ok (.iastore, 1) := by decide +kernel
theorem dX12_reckons_70 : decode cX12_reckons 70 = .ok (.aload_n 0, 1) := by decide +kernel
theorem dX12_reckons_71 : decode cX12_reckons 71 = .ok (.getfield 17, 3) := by decide +kernel
theorem dX12_reckons_74 : decode cX12_reckons 74 = .ok (.iload_n 3, 1) := by decide +kernel
theorem dX12_reckons_75 : decode cX12_reckons 75 = .ok (.iconst 1, 1) := by decide +kernel
theorem dX12_reckons_76 : decode cX12_reckons 76 = .ok (.iload 4, 2) := by decide +kernel
theorem dX12_reckons_78 : decode cX12_reckons 78 = .ok (.ishl, 1) := by decide +kernel
theorem dX12_reckons_79 : decode cX12_reckons 79 = .ok (.iconst (-1), 1) := by decide +kernel
theorem dX12_reckons_80 : decode cX12_reckons 80 = .ok (.ixor, 1) := by decide +kernel
theorem dX12_reckons_81 : decode cX12_reckons 81 = .ok (.iand, 1) := by decide +kernel
theorem dX12_reckons_82 : decode cX12_reckons 82 = .ok (.iaload, 1) := by decide +kernel
theorem dX12_reckons_83 : decode cX12_reckons 83 = .ok (.aload_n 0, 1) := by decide +kernel
theorem dX12_reckons_84 : decode cX12_reckons 84 = .ok (.getfield 17, 3) := by decide +kernel
theorem dX12_reckons_87 : decode cX12_reckons 87 = .ok (.iload_n 1, 1) := by decide +kernel
theorem dX12_reckons_88 : decode cX12_reckons 88 = .ok (.iaload, 1) := by decide +kernel
theorem dX12_reckons_89 : decode cX12_reckons 89 = .ok (.if_icmp .lt 24, 3) := by decide +kernel
theorem dX12_reckons_92 : decode cX12_reckons 92 = .ok (.aload_n 0, 1) := by decide +kernel
theorem dX12_reckons_93 : decode cX12_reckons 93 = .ok (.getfield 17, 3) := by decide +kernel
theorem dX12_reckons_96 : decode cX12_reckons 96 = .ok (.iload_n 1, 1) := by decide +kernel
theorem dX12_reckons_97 : decode cX12_reckons 97 = .ok (.aload_n 0, 1) := by decide +kernel
theorem dX12_reckons_98 : decode cX12_reckons 98 = .ok (.getfield 17, 3) := by decide +kernel
set_option maxRecDepth 20000 in
theorem ggX12_reckons_X12_first : GoodIn wsX12_reckons wsX12_first := goodIn_r _ [12, 13, 14, 8, 15] (by decide +kernel) (by decide +kernel)
set_option maxRecDepth 20000 in
theorem gX12_reckons_X12_first : GoodIn wsX12_reckons (va_wsS RX12 104 yX12_first wsX12_first) := goodIn_app (goodIn_of _ (by decide +kernel)) ggX12_reckons_X12_first
theorem dX12_reckons_17 : decode cX12_reckons 17 = .ok (.iload_n 1, 1) := by decide +kernel
theorem dX12_reckons_18 : decode cX12_reckons 18 = .ok (.invokestatic 104, 3) := by decide +kernel
theorem dX12_reckons_21 : decode cX12_reckons 21 = .ok (.istore_n 2, 1) := by decide +kernel
theorem dX12_reckons_22 : decode cX12_reckons 22 = .ok (.iload_n 1, 1) := by decide +kernel
theorem dX12_reckons_23 : decode cX12_reckons 23 = .ok (.iload_n 1, 1) := by decide +kernel
theorem dX12_reckons_24 : decode cX12_reckons 24 = .ok (.iconst 1, 1) := by decide +kernel
theorem dX12_reckons_25 : decode cX12_reckons 25 = .ok (.isub, 1) := by decide +kernel
theorem dX12_reckons_26 : decode cX12_reckons 26 = .ok (.iand, 1) := by decide +kernel
theorem dX12_reckons_27 : decode cX12_reckons 27 = .ok (.istore_n 3, 1) := by decide +kernel
theorem dX12_reckons_28 : decode cX12_reckons 28 = .ok (.aload_n 0, 1) := by decide +kernel
theorem dX12_reckons_29 : decode cX12_reckons 29 = .ok (.getfield 17, 3) := by decide +kernel
theorem dX12_reckons_32 : decode cX12_reckons 32 = .ok (.iload_n 1, 1) := by decide +kernel
theorem dX12_reckons_33 : decode cX12_reckons 33 = .ok (.aload_n 0, 1) := by decide +kernel
theorem dX12_reckons_34 : decode cX12_reckons 34 = .ok (.getfield 17, 3) := by decide +kernel
theorem dX12_reckons_37 : decode cX12_reckons 37 = .ok (.iload_n 3, 1) := by decide +kernel
theorem dX12_reckons_38 : decode cX12_reckons 38 = .ok (.iaload, 1) := by decide +kernel
theorem dX12_reckons_39 : decode cX12_reckons 39 = .ok (.iastore, 1) := by decide +kernel
theorem dX12_reckons_40 : decode cX12_reckons 40 = .ok (.iload_n 2, 1) := by decide +kernel
theorem dX12_reckons_41 : decode cX12_reckons 41 = .ok (.iconst 1, 1) := by decide +kernel
theorem dX12_reckons_42 : decode cX12_reckons 42 = .ok (.iadd, 1) := by decide +kernel
theorem dX12_reckons_43 : decode cX12_reckons 43 = .ok (.istore 4, 2) := by decide +kernel
