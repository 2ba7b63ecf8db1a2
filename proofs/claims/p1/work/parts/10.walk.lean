theorem dX12_in_0 : decode cX12_in 0 = .ok (.iload_n 0, 1) := by decide +kernel
theorem dX12_in_1 : decode cX12_in 1 = .ok (.iload_n 1, 1) := by decide +kernel
theorem dX12_in_10 : decode cX12_in 10 = .ok (.iconst 1, 1) := by decide +kernel
theorem dX12_in_11 : decode cX12_in 11 = .ok (.goto 4, 3) := by decide +kernel
theorem dX12_in_14 : decode cX12_in 14 = .ok (.iconst 0, 1) := by decide +kernel
theorem dX12_in_15 : decode cX12_in 15 = .ok (.ireturn, 1) := by decide +kernel
theorem dX12_in_2 : decode cX12_in 2 = .ok (.if_icmp .lt 12, 3) := by decide +kernel
theorem dX12_in_5 : decode cX12_in 5 = .ok (.iload_n 0, 1) := by decide +kernel
theorem dX12_in_6 : decode cX12_in 6 = .ok (.iload_n 2, 1) := by decide +kernel
theorem dX12_in_7 : decode cX12_in 7 = .ok (.if_icmp .gt 7, 3) := by decide +kernel
set_option maxRecDepth 20000 in
theorem ggX12_points_X12_in : GoodIn wsX12_points wsX12_in := goodIn_r _ [6] (by decide +kernel) (by decide +kernel)
set_option maxRecDepth 20000 in
theorem gX12_points_X12_in : GoodIn wsX12_points (va_wsS RX12 66 yX12_in wsX12_in) := goodIn_app (goodIn_of _ (by decide +kernel)) ggX12_points_X12_in
theorem dX12_points_0 : decode cX12_points 0 = .ok (.iload_n 1, 1) := by decide +kernel
theorem dX12_points_1 : decode cX12_points 1 = .ok (.iconst 1, 1) := by decide +kernel
theorem dX12_points_10 : decode cX12_points 10 = .ok (.bipush (-2), 2) := by decide +kernel
theorem dX12_points_12 : decode cX12_points 12 = .ok (.ireturn, 1) := by decide +kernel
theorem dX12_points_13 : decode cX12_points 13 = .ok (.aload_n 0, 1) := by decide +kernel
theorem dX12_points_14 : decode cX12_points 14 = .ok (.getfield 63, 3) := by decide +kernel
theorem dX12_points_17 : decode cX12_points 17 = .ok (.iload_n 1, 1) := by decide +kernel
theorem dX12_points_18 : decode cX12_points 18 = .ok (.iadd, 1) := by decide +kernel
theorem dX12_points_19 : decode cX12_points 19 = .ok (.bipush 12, 2) := by decide +kernel
theorem dX12_points_2 : decode cX12_points 2 = .ok (.bipush 12, 2) := by decide +kernel
theorem dX12_points_21 : decode cX12_points 21 = .ok (.if_icmp .le 6, 3) := by decide +kernel
theorem dX12_points_27 : decode cX12_points 27 = .ok (.iconst 0, 1) := by decide +kernel
theorem dX12_points_28 : decode cX12_points 28 = .ok (.istore_n 2, 1) := by decide +kernel
theorem dX12_points_29 : decode cX12_points 29 = .ok (.iload_n 2, 1) := by decide +kernel
theorem dX12_points_30 : decode cX12_points 30 = .ok (.iload_n 1, 1) := by decide +kernel
theorem dX12_points_31 : decode cX12_points 31 = .ok (.if_icmp .ge 29, 3) := by decide +kernel
theorem dX12_points_34 : decode cX12_points 34 = .ok (.aload_n 0, 1) := by decide +kernel
theorem dX12_points_35 : decode cX12_points 35 = .ok (.getfield 13, 3) := by decide +kernel
theorem dX12_points_38 : decode cX12_points 38 = .ok (.aload_n 0, 1) := by decide +kernel
theorem dX12_points_39 : decode cX12_points 39 = .ok (.getfield 63, 3) := by decide +kernel
theorem dX12_points_4 : decode cX12_points 4 = .ok (.invokestatic 66, 3) := by decide +kernel
theorem dX12_points_42 : decode cX12_points 42 = .ok (.iconst 0, 1) := by decide +kernel
theorem dX12_points_43 : decode cX12_points 43 = .ok (.iastore, 1) := by decide +kernel
theorem dX12_points_44 : decode cX12_points 44 = .ok (.aload_n 0, 1) := by decide +kernel
theorem dX12_points_45 : decode cX12_points 45 = .ok (.dup, 1) := by decide +kernel
theorem dX12_points_46 : decode cX12_points 46 = .ok (.getfield 63, 3) := by decide +kernel
theorem dX12_points_49 : decode cX12_points 49 = .ok (.iconst 1, 1) := by decide +kernel
theorem dX12_points_50 : decode cX12_points 50 = .ok (.iadd, 1) := by decide +kernel
theorem dX12_points_51 : decode cX12_points 51 = .ok (.putfield 63, 3) := by decide +kernel
theorem dX12_points_54 : decode cX12_points 54 = .ok (.iinc 2 1, 3) := by decide +kernel
theorem dX12_points_57 : decode cX12_points 57 = .ok (.goto (-28), 3) := by decide +kernel
theorem dX12_points_60 : decode cX12_points 60 = .ok (.aload_n 0, 1) := by decide +kernel
theorem dX12_points_61 : decode cX12_points 61 = .ok (.getfield 63, 3) := by decide +kernel
theorem dX12_points_64 : decode cX12_points 64 = .ok (.ireturn, 1) := by decide +kernel
theorem dX12_points_7 : decode cX12_points 7 = .ok (.ifCond .ne 6, 3) := by decide +kernel
set_option maxRecDepth 20000 in
theorem ggX12_isPoint_X12_in : GoodIn wsX12_isPoint wsX12_in := goodIn_r _ [5] (by decide +kernel) (by decide +kernel)
set_option maxRecDepth 20000 in
theorem gX12_isPoint_X12_in : GoodIn wsX12_isPoint (va_wsS RX12 66 yX12_in wsX12_in) := goodIn_app (goodIn_of _ (by decide +kernel)) ggX12_isPoint_X12_in
theorem dX12_isPoint_0 : decode cX12_isPoint 0 = .ok (.iload_n 1, 1) := by decide +kernel
theorem dX12_isPoint_1 : decode cX12_isPoint 1 = .ok (.iconst 0, 1) := by decide +kernel
theorem dX12_isPoint_11 : decode cX12_isPoint 11 = .ok (.ireturn, 1) := by decide +kernel
theorem dX12_isPoint_2 : decode cX12_isPoint 2 = .ok (.aload_n 0, 1) := by decide +kernel
theorem dX12_isPoint_3 : decode cX12_isPoint 3 = .ok (.getfield 63, 3) := by decide +kernel
theorem dX12_isPoint_6 : decode cX12_isPoint 6 = .ok (.iconst 1, 1) := by decide +kernel
theorem dX12_isPoint_7 : decode cX12_isPoint 7 = .ok (.isub, 1) := by decide +kernel
theorem dX12_isPoint_8 : decode cX12_isPoint 8 = .ok (.invokestatic 66, 3) := by decide +kernel
set_option maxRecDepth 20000 in
theorem ggX12_areTwo_X12_isPoint : GoodIn wsX12_areTwo wsX12_isPoint := goodIn_r _ [5, 6, 7, 8, 4, 9, 10, 11, 12, 13, 14, 15, 16, 17, 18, 19, 20, 21, 22, 23, 24, 25, 26, 27, 28, 29, 30, 31, 32, 33] (by decide +kernel) (by decide +kernel)
set_option maxRecDepth 20000 in
theorem gX12_areTwo_X12_isPoint : GoodIn wsX12_areTwo (wsV RX12 74 RX12 yX12_isPoint wsX12_isPoint) := goodIn_app (goodIn_of _ (by decide +kernel)) ggX12_areTwo_X12_isPoint
theorem dX12_areTwo_0 : decode cX12_areTwo 0 = .ok (.aload_n 0, 1) := by decide +kernel
theorem dX12_areTwo_1 : decode cX12_areTwo 1 = .ok (.iload_n 1, 1) := by decide +kernel
theorem dX12_areTwo_2 : decode cX12_areTwo 2 = .ok (.invokevirtual 74, 3) := by decide +kernel
theorem dX12_areTwo_25 : decode cX12_areTwo 25 = .ok (.iconst 0, 1) := by decide +kernel
theorem dX12_areTwo_26 : decode cX12_areTwo 26 = .ok (.ireturn, 1) := by decide +kernel
theorem dX12_areTwo_5 : decode cX12_areTwo 5 = .ok (.ifCond .eq 20, 3) := by decide +kernel
set_option maxRecDepth 20000 in
theorem ggX12_line_X12_areTwo : GoodIn wsX12_line wsX12_areTwo := goodIn_r _ [6, 7, 8, 9, 5, 10, 11, 12, 13, 14, 19, 20, 21, 22, 23, 24, 25, 26, 27, 28, 29, 30, 31, 32, 33, 34, 35, 36, 37, 38, 39, 40, 41, 42] (by decide +kernel) (by decide +kernel)
set_option maxRecDepth 20000 in
theorem gX12_line_X12_areTwo : GoodIn wsX12_line (wsV RX12 78 RX12 yX12_areTwo wsX12_areTwo) := goodIn_app (goodIn_of _ (by decide +kernel)) ggX12_line_X12_areTwo
theorem dX12_line_0 : decode cX12_line 0 = .ok (.aload_n 0, 1) := by decide +kernel
theorem dX12_line_1 : decode cX12_line 1 = .ok (.iload_n 1, 1) := by decide +kernel
theorem dX12_line_18 : decode cX12_line 18 = .ok (.bipush (-2), 2) := by decide +kernel
theorem dX12_line_2 : decode cX12_line 2 = .ok (.iload_n 2, 1) := by decide +kernel
theorem dX12_line_20 : decode cX12_line 20 = .ok (.ireturn, 1) := by decide +kernel
theorem dX12_line_3 : decode cX12_line 3 = .ok (.invokevirtual 78, 3) := by decide +kernel
theorem dX12_line_6 : decode cX12_line 6 = .ok (.ifCond .eq 12, 3) := by decide +kernel
set_option maxRecDepth 20000 in
theorem ggX12_next_X12_isPoint : GoodIn wsX12_next wsX12_isPoint := goodIn_r _ [6, 7, 8, 9, 5, 10, 11, 12, 13, 14, 15, 16, 17, 18, 19, 20, 21, 22, 23, 24, 25, 26, 27, 28, 29, 30, 31, 32, 33, 34] (by decide +kernel) (by decide +kernel)
set_option maxRecDepth 20000 in
theorem gX12_next_X12_isPoint : GoodIn wsX12_next (wsV RX12 74 RX12 yX12_isPoint wsX12_isPoint) := goodIn_app (goodIn_of _ (by decide +kernel)) ggX12_next_X12_isPoint
theorem dX12_next_0 : decode cX12_next 0 = .ok (.aload_n 0, 1) := by decide +kernel
theorem dX12_next_1 : decode cX12_next 1 = .ok (.iload_n 1, 1) := by decide +kernel
theorem dX12_next_17 : decode cX12_next 17 = .ok (.bipush (-2), 2) := by decide +kernel
theorem dX12_next_19 : decode cX12_next 19 = .ok (.ireturn, 1) := by decide +kernel
theorem dX12_next_2 : decode cX12_next 2 = .ok (.invokevirtual 74, 3) := by decide +kernel
theorem dX12_next_5 : decode cX12_next 5 = .ok (.ifCond .eq 12, 3) := by decide +kernel
theorem dX12_lines_0 : decode cX12_lines 0 = .ok (.iconst 0, 1) := by decide +kernel
theorem dX12_lines_1 : decode cX12_lines 1 = .ok (.istore_n 1, 1) := by decide +kernel
theorem dX12_lines_2 : decode cX12_lines 2 = .ok (.iconst 0, 1) := by decide +kernel
theorem dX12_lines_3 : decode cX12_lines 3 = .ok (.istore_n 2, 1) := by decide +kernel
theorem dX12_lines_30 : decode cX12_lines 30 = .ok (.iload_n 1, 1) := by decide +kernel
theorem dX12_lines_31 : decode cX12_lines 31 = .ok (.iconst 2, 1) := by decide +kernel
theorem dX12_lines_32 : decode cX12_lines 32 = .ok (.idiv, 1) := by decide +kernel
theorem dX12_lines_33 : decode cX12_lines 33 = .ok (.ireturn, 1) := by decide +kernel
theorem dX12_lines_4 : decode cX12_lines 4 = .ok (.iload_n 2, 1) := by decide +kernel
theorem dX12_lines_5 : decode cX12_lines 5 = .ok (.aload_n 0, 1) := by decide +kernel
theorem dX12_lines_6 : decode cX12_lines 6 = .ok (.getfield 63, 3) := by decide +kernel
theorem dX12_lines_9 : decode cX12_lines 9 = .ok (.if_icmp .ge 21, 3) := by decide +kernel
theorem dX12_all_0 : decode cX12_all 0 = .ok (.iconst 1, 1) := by decide +kernel
theorem dX12_all_1 : decode cX12_all 1 = .ok (.aload_n 0, 1) := by decide +kernel
theorem dX12_all_2 : decode cX12_all 2 = .ok (.getfield 63, 3) := by decide +kernel
theorem dX12_all_5 : decode cX12_all 5 = .ok (.ishl, 1) := by decide +kernel
theorem dX12_all_6 : decode cX12_all 6 = .ok (.iconst 1, 1) := by decide +kernel
theorem dX12_all_7 : decode cX12_all 7 = .ok (.isub, 1) := by decide +kernel
theorem dX12_all_8 : decode cX12_all 8 = .ok (.ireturn, 1) := by decide +kernel
set_option maxRecDepth 20000 in
theorem ggX12_reckons_X12_all : GoodIn wsX12_reckons wsX12_all := goodIn_r _ [9, 3, 16, 17, 18, 19, 20, 21, 22, 23, 24, 25, 26, 27, 28, 29, 30, 31, 32, 33, 34, 35, 36, 37, 38, 39] (by decide +kernel) (by decide +kernel)
set_option maxRecDepth 20000 in
theorem gX12_reckons_X12_all : GoodIn wsX12_reckons (wsV RX12 70 RX12 yX12_all wsX12_all) := goodIn_app (goodIn_of _ (by decide +kernel)) ggX12_reckons_X12_all
theorem dX12_reckons_0 : decode cX12_reckons 0 = .ok (.aload_n 0, 1) := by decide +kernel
theorem dX12_reckons_1 : decode cX12_reckons 1 = .ok (.getfield 20, 3) := by decide +kernel
theorem dX12_reckons_10 : decode cX12_reckons 10 = .ok (.aload_n 0, 1) := by decide +kernel
theorem dX12_reckons_11 : decode cX12_reckons 11 = .ok (.invokevirtual 70, 3) := by decide +kernel
theorem dX12_reckons_14 : decode cX12_reckons 14 = .ok (.if_icmp .gt 224, 3) := by decide +kernel
theorem dX12_reckons_238 : decode cX12_reckons 238 = .ok (.return_, 1) := by decide +kernel
theorem dX12_reckons_4 : decode cX12_reckons 4 = .ok (.iconst 0, 1) := by decide +kernel
theorem dX12_reckons_5 : decode cX12_reckons 5 = .ok (.iconst 1, 1) := by decide +kernel
theorem dX12_reckons_6 : decode cX12_reckons 6 = .ok (.iastore, 1) := by decide +kernel
theorem dX12_reckons_7 : decode cX12_reckons 7 = .ok (.iconst 1, 1) := by decide +kernel
theorem dX12_reckons_8 : decode cX12_reckons 8 = .ok (.istore_n 1, 1) := by decide +kernel
theorem dX12_reckons_9 : decode cX12_reckons 9 = .ok (.iload_n 1, 1) := by decide +kernel
set_option maxRecDepth 20000 in
theorem ggX12_greatest_X12_all : GoodIn wsX12_greatest wsX12_all := goodIn_r _ [13, 8, 20, 21, 22, 23, 24, 25, 26, 27, 28, 29, 30, 31, 32, 33, 34, 35, 36, 37, 38, 39, 40, 41, 42, 43] (by decide +kernel) (by decide +kernel)
set_option maxRecDepth 20000 in
theorem gX12_greatest_X12_all : GoodIn wsX12_greatest (wsV RX12 70 RX12 yX12_all wsX12_all) := goodIn_app (goodIn_of _ (by decide +kernel)) ggX12_greatest_X12_all
set_option maxRecDepth 20000 in
theorem ggX12_greatest_X12_reckons : GoodIn wsX12_greatest wsX12_reckons := goodIn_r _ [6, 7, 1, 8, 9, 10, 11, 12, 5, 13, 14, 15, 16, 17, 18, 19, 20, 21, 22, 23, 24, 25, 26, 27, 28, 29, 30, 31, 32, 33, 34, 35, 36, 37, 38, 39, 40, 41, 42, 43] (by decide +kernel) (by decide +kernel)
set_option maxRecDepth 20000 in
theorem gX12_greatest_X12_reckons : GoodIn wsX12_greatest (wsV RX12 107 RX12 yX12_reckons wsX12_reckons) := goodIn_app (goodIn_of _ (by decide +kernel)) ggX12_greatest_X12_reckons
theorem dX12_greatest_0 : decode cX12_greatest 0 = .ok (.aload_n 0, 1) := by decide +kernel
theorem dX12_greatest_1 : decode cX12_greatest 1 = .ok (.invokevirtual 107, 3) := by decide +kernel
theorem dX12_greatest_12 : decode cX12_greatest 12 = .ok (.iaload, 1) := by decide +kernel
theorem dX12_greatest_13 : decode cX12_greatest 13 = .ok (.ireturn, 1) := by decide +kernel
theorem dX12_greatest_4 : decode cX12_greatest 4 = .ok (.aload_n 0, 1) := by decide +kernel
theorem dX12_greatest_5 : decode cX12_greatest 5 = .ok (.getfield 17, 3) := by decide +kernel
theorem dX12_greatest_8 : decode cX12_greatest 8 = .ok (.aload_n 0, 1) := by decide +kernel
theorem dX12_greatest_9 : decode cX12_greatest 9 = .ok (.invokevirtual 70, 3) := by decide +kernel
set_option maxRecDepth 20000 in
theorem ggX12_lack_X12_greatest : GoodIn wsX12_lack wsX12_greatest := goodIn_r _ [6, 7, 8, 9, 10, 5, 11, 12, 1, 13, 14, 15, 16, 17, 18, 19, 20, 21, 22, 23, 24, 25, 26, 27, 28, 29, 30, 31, 32, 33, 34, 35, 36, 37, 38, 39, 40, 41, 42, 43, 44, 45, 46, 47] (by decide +kernel) (by decide +kernel)
set_option maxRecDepth 20000 in
theorem gX12_lack_X12_greatest : GoodIn wsX12_lack (wsV RX12 92 RX12 yX12_greatest wsX12_greatest) := goodIn_app (goodIn_of _ (by decide +kernel)) ggX12_lack_X12_greatest
theorem dX12_lack_0 : decode cX12_lack 0 = .ok (.aload_n 0, 1) := by decide +kernel
theorem dX12_lack_1 : decode cX12_lack 1 = .ok (.getfield 63, 3) := by decide +kernel
theorem dX12_lack_10 : decode cX12_lack 10 = .ok (.isub, 1) := by decide +kernel
theorem dX12_lack_11 : decode cX12_lack 11 = .ok (.ireturn, 1) := by decide +kernel
theorem dX12_lack_4 : decode cX12_lack 4 = .ok (.iconst 2, 1) := by decide +kernel
theorem dX12_lack_5 : decode cX12_lack 5 = .ok (.aload_n 0, 1) := by decide +kernel
theorem dX12_lack_6 : decode cX12_lack 6 = .ok (.invokevirtual 92, 3) := by decide +kernel
theorem dX12_lack_9 : decode cX12_lack 9 = .ok (.imul, 1) := by decide +kernel
theorem dX12_piecesOf_0 : decode cX12_piecesOf 0 = .ok (.iconst 0, 1) := by decide +kernel
theorem dX12_piecesOf_1 : decode cX12_piecesOf 1 = .ok (.istore_n 2, 1) := by decide +kernel
theorem dX12_piecesOf_2 : decode cX12_piecesOf 2 = .ok (.iload_n 1, 1) := by decide +kernel
theorem dX12_piecesOf_24 : decode cX12_piecesOf 24 = .ok (.iload_n 2, 1) := by decide +kernel
theorem dX12_piecesOf_25 : decode cX12_piecesOf 25 = .ok (.ireturn, 1) := by decide +kernel
theorem dX12_piecesOf_3 : decode cX12_piecesOf 3 = .ok (.istore_n 3, 1) := by decide +kernel
theorem dX12_piecesOf_4 : decode cX12_piecesOf 4 = .ok (.iload_n 3, 1) := by decide +kernel
theorem dX12_piecesOf_5 : decode cX12_piecesOf 5 = .ok (.ifCond .eq 19, 3) := by decide +kernel
set_option maxRecDepth 20000 in
theorem ggX12_count_X12_all : GoodIn wsX12_count wsX12_all := goodIn_r _ [26, 1, 45, 46, 47, 48, 49, 50, 51, 52, 53, 54, 55, 56, 57, 58, 59, 60, 61, 62, 63, 64, 65, 66, 67, 68] (by decide +kernel) (by decide +kernel)
set_option maxRecDepth 20000 in
theorem gX12_count_X12_all : GoodIn wsX12_count (wsV RX12 70 RX12 yX12_all wsX12_all) := goodIn_app (goodIn_of _ (by decide +kernel)) ggX12_count_X12_all
set_option maxRecDepth 20000 in
theorem ggX12_count_X12_greatest : GoodIn wsX12_count wsX12_greatest := goodIn_r _ [16, 17, 18, 19, 20, 7, 21, 22, 1, 9, 23, 24, 25, 26, 27, 28, 29, 30, 31, 32, 45, 46, 47, 48, 49, 50, 51, 52, 53, 54, 55, 56, 57, 58, 59, 60, 61, 62, 63, 64, 65, 66, 67, 68] (by decide +kernel) (by decide +kernel)
set_option maxRecDepth 20000 in
theorem gX12_count_X12_greatest : GoodIn wsX12_count (wsV RX12 92 RX12 yX12_greatest wsX12_greatest) := goodIn_app (goodIn_of _ (by decide +kernel)) ggX12_count_X12_greatest
set_option maxRecDepth 20000 in
theorem ggX12_count_X12_lack : GoodIn wsX12_count wsX12_lack := goodIn_r _ [36, 1, 13, 14, 15, 7, 16, 17, 18, 19, 20, 21, 22, 9, 23, 24, 25, 26, 27, 28, 29, 30, 31, 32, 45, 46, 47, 48, 49, 50, 51, 52, 53, 54, 55, 56, 57, 58, 59, 60, 61, 62, 63, 64, 65, 66, 67, 68] (by decide +kernel) (by decide +kernel)
set_option maxRecDepth 20000 in
theorem gX12_count_X12_lack : GoodIn wsX12_count (wsV RX12 95 RX12 yX12_lack wsX12_lack) := goodIn_app (goodIn_of _ (by decide +kernel)) ggX12_count_X12_lack
set_option maxRecDepth 20000 in
theorem ggX12_count_X12_lines : GoodIn wsX12_count wsX12_lines := goodIn_r _ [8, 1, 9, 10, 11, 7, 12, 45, 46, 47, 48, 49, 50, 51, 52, 53, 54, 55, 56, 57, 58, 59, 60, 61, 62, 63, 64, 65, 66, 67, 68] (by decide +kernel) (by decide +kernel)
set_option maxRecDepth 20000 in
theorem gX12_count_X12_lines : GoodIn wsX12_count (wsV RX12 89 RX12 yX12_lines wsX12_lines) := goodIn_app (goodIn_of _ (by decide +kernel)) ggX12_count_X12_lines
set_option maxRecDepth 20000 in
theorem ggX12_count_X12_piecesOf : GoodIn wsX12_count wsX12_piecesOf := goodIn_r _ [40, 41, 42, 43, 7, 44, 1, 9, 30, 31, 32, 45, 46, 47, 48, 49, 50, 51, 52, 53, 54, 55, 56, 57, 58, 59, 60, 61, 62, 63, 64, 65, 66, 67, 68] (by decide +kernel) (by decide +kernel)
set_option maxRecDepth 20000 in
theorem gX12_count_X12_piecesOf : GoodIn wsX12_count (wsV RX12 98 RX12 yX12_piecesOf wsX12_piecesOf) := goodIn_app (goodIn_of _ (by decide +kernel)) ggX12_count_X12_piecesOf
theorem dX12_count_0 : decode cX12_count 0 = .ok (.iload_n 1, 1) := by decide +kernel
theorem dX12_count_1 : decode cX12_count 1 = .ok (.tableswitch 82 0 6 #[43, 48, 53, 58, 63, 72, 77], 43) := by decide +kernel
theorem dX12_count_44 : decode cX12_count 44 = .ok (.aload_n 0, 1) := by decide +kernel
theorem dX12_count_45 : decode cX12_count 45 = .ok (.getfield 63, 3) := by decide +kernel
theorem dX12_count_48 : decode cX12_count 48 = .ok (.ireturn, 1) := by decide +kernel
theorem dX12_count_49 : decode cX12_count 49 = .ok (.aload_n 0, 1) := by decide +kernel
theorem dX12_count_50 : decode cX12_count 50 = .ok (.invokevirtual 89, 3) := by decide +kernel
theorem dX12_count_53 : decode cX12_count 53 = .ok (.ireturn, 1) := by decide +kernel
theorem dX12_count_54 : decode cX12_count 54 = .ok (.aload_n 0, 1) := by decide +kernel
theorem dX12_count_55 : decode cX12_count 55 = .ok (.invokevirtual 92, 3) := by decide +kernel
theorem dX12_count_58 : decode cX12_count 58 = .ok (.ireturn, 1) := by decide +kernel
theorem dX12_count_59 : decode cX12_count 59 = .ok (.aload_n 0, 1) := by decide +kernel
theorem dX12_count_60 : decode cX12_count 60 = .ok (.invokevirtual 95, 3) := by decide +kernel
theorem dX12_count_63 : decode cX12_count 63 = .ok (.ireturn, 1) := by decide +kernel
theorem dX12_count_64 : decode cX12_count 64 = .ok (.aload_n 0, 1) := by decide +kernel
theorem dX12_count_65 : decode cX12_count 65 = .ok (.aload_n 0, 1) := by decide +kernel
theorem dX12_count_66 : decode cX12_count 66 = .ok (.invokevirtual 70, 3) := by decide +kernel
theorem dX12_count_69 : decode cX12_count 69 = .ok (.invokevirtual 98, 3) := by decide +kernel
theorem dX12_count_72 : decode cX12_count 72 = .ok (.ireturn, 1) := by decide +kernel
theorem dX12_count_73 : decode cX12_count 73 = .ok (.aload_n 0, 1) := by decide +kernel
theorem dX12_count_74 : decode cX12_count 74 = .ok (.getfield 101, 3) := by decide +kernel
theorem dX12_count_77 : decode cX12_count 77 = .ok (.ireturn, 1) := by decide +kernel
theorem dX12_count_78 : decode cX12_count 78 = .ok (.aload_n 0, 1) := by decide +kernel
theorem dX12_count_79 : decode cX12_count 79 = .ok (.getfield 7, 3) := by decide +kernel
theorem dX12_count_82 : decode cX12_count 82 = .ok (.ireturn, 1) := by decide +kernel
theorem dX12_count_83 : decode cX12_count 83 = .ok (.bipush (-2), 2) := by decide +kernel
theorem dX12_count_85 : decode cX12_count 85 = .ok (.ireturn, 1) := by decide +kernel
set_option maxRecDepth 20000 in
theorem ggX12_isSet_X12_all : GoodIn wsX12_isSet wsX12_all := goodIn_r _ [5, 6, 7, 8, 9, 10, 11, 12, 13, 14, 15, 16, 17, 18, 19, 20, 21, 22, 23, 24, 25, 26, 27, 28, 29, 30] (by decide +kernel) (by decide +kernel)
set_option maxRecDepth 20000 in
theorem gX12_isSet_X12_all : GoodIn wsX12_isSet (wsV RX12 70 RX12 yX12_all wsX12_all) := goodIn_app (goodIn_of _ (by decide +kernel)) ggX12_isSet_X12_all
theorem dX12_isSet_0 : decode cX12_isSet 0 = .ok (.iload_n 1, 1) := by decide +kernel
theorem dX12_isSet_1 : decode cX12_isSet 1 = .ok (.aload_n 0, 1) := by decide +kernel
theorem dX12_isSet_11 : decode cX12_isSet 11 = .ok (.iconst 1, 1) := by decide +kernel
theorem dX12_isSet_12 : decode cX12_isSet 12 = .ok (.goto 4, 3) := by decide +kernel
theorem dX12_isSet_15 : decode cX12_isSet 15 = .ok (.iconst 0, 1) := by decide +kernel
theorem dX12_isSet_16 : decode cX12_isSet 16 = .ok (.ireturn, 1) := by decide +kernel
theorem dX12_isSet_2 : decode cX12_isSet 2 = .ok (.invokevirtual 70, 3) := by decide +kernel
theorem dX12_isSet_5 : decode cX12_isSet 5 = .ok (.iconst (-1), 1) := by decide +kernel
theorem dX12_isSet_6 : decode cX12_isSet 6 = .ok (.ixor, 1) := by decide +kernel
theorem dX12_isSet_7 : decode cX12_isSet 7 = .ok (.iand, 1) := by decide +kernel
theorem dX12_isSet_8 : decode cX12_isSet 8 = .ok (.ifCond .ne 7, 3) := by decide +kernel
set_option maxRecDepth 20000 in
theorem ggX12_most_X12_isSet : GoodIn wsX12_most wsX12_isSet := goodIn_r _ [6, 7, 8, 9, 5, 10, 11, 24, 25, 26, 27, 28, 29, 30, 31, 32, 33, 34, 35, 36, 37, 38, 39, 40, 41, 42, 43, 44, 45, 46, 47] (by decide +kernel) (by decide +kernel)
set_option maxRecDepth 20000 in
theorem gX12_most_X12_isSet : GoodIn wsX12_most (wsV RX12 110 RX12 yX12_isSet wsX12_isSet) := goodIn_app (goodIn_of _ (by decide +kernel)) ggX12_most_X12_isSet
set_option maxRecDepth 20000 in
theorem ggX12_most_X12_reckons : GoodIn wsX12_most wsX12_reckons := goodIn_r _ [15, 16, 1, 11, 17, 7, 8, 9, 5, 10, 18, 19, 20, 21, 22, 23, 24, 25, 26, 27, 28, 29, 30, 31, 32, 33, 34, 35, 36, 37, 38, 39, 40, 41, 42, 43, 44, 45, 46, 47] (by decide +kernel) (by decide +kernel)
set_option maxRecDepth 20000 in
theorem gX12_most_X12_reckons : GoodIn wsX12_most (wsV RX12 107 RX12 yX12_reckons wsX12_reckons) := goodIn_app (goodIn_of _ (by decide +kernel)) ggX12_most_X12_reckons
theorem dX12_most_0 : decode cX12_most 0 = .ok (.aload_n 0, 1) := by decide +kernel
theorem dX12_most_1 : decode cX12_most 1 = .ok (.iload_n 1, 1) := by decide +kernel
theorem dX12_most_10 : decode cX12_most 10 = .ok (.ireturn, 1) := by decide +kernel
theorem dX12_most_11 : decode cX12_most 11 = .ok (.aload_n 0, 1) := by decide +kernel
theorem dX12_most_12 : decode cX12_most 12 = .ok (.invokevirtual 107, 3) := by decide +kernel
theorem dX12_most_15 : decode cX12_most 15 = .ok (.aload_n 0, 1) := by decide +kernel
theorem dX12_most_16 : decode cX12_most 16 = .ok (.getfield 17, 3) := by decide +kernel
theorem dX12_most_19 : decode cX12_most 19 = .ok (.iload_n 1, 1) := by decide +kernel
theorem dX12_most_2 : decode cX12_most 2 = .ok (.invokevirtual 110, 3) := by decide +kernel
theorem dX12_most_20 : decode cX12_most 20 = .ok (.iaload, 1) := by decide +kernel
theorem dX12_most_21 : decode cX12_most 21 = .ok (.ireturn, 1) := by decide +kernel
theorem dX12_most_5 : decode cX12_most 5 = .ok (.ifCond .ne 6, 3) := by decide +kernel
theorem dX12_most_8 : decode cX12_most 8 = .ok (.bipush (-2), 2) := by decide +kernel
set_option maxRecDepth 20000 in
theorem ggX12_mate_X12_isPoint : GoodIn wsX12_mate wsX12_isPoint := goodIn_r _ [6, 7, 8, 9, 5, 10, 36, 37, 38, 39, 40, 41, 42, 43, 44, 45, 46, 47, 48, 49, 50, 51, 52, 53, 54, 55, 56, 57, 58, 59] (by decide +kernel) (by decide +kernel)
set_option maxRecDepth 20000 in
theorem gX12_mate_X12_isPoint : GoodIn wsX12_mate (wsV RX12 74 RX12 yX12_isPoint wsX12_isPoint) := goodIn_app (goodIn_of _ (by decide +kernel)) ggX12_mate_X12_isPoint
theorem dX12_mate_0 : decode cX12_mate 0 = .ok (.aload_n 0, 1) := by decide +kernel
theorem dX12_mate_1 : decode cX12_mate 1 = .ok (.iload_n 1, 1) := by decide +kernel
theorem dX12_mate_10 : decode cX12_mate 10 = .ok (.ireturn, 1) := by decide +kernel
theorem dX12_mate_2 : decode cX12_mate 2 = .ok (.invokevirtual 74, 3) := by decide +kernel
theorem dX12_mate_5 : decode cX12_mate 5 = .ok (.ifCond .ne 6, 3) := by decide +kernel
theorem dX12_mate_8 : decode cX12_mate 8 = .ok (.bipush (-2), 2) := by decide +kernel
set_option maxRecDepth 20000 in
theorem ggX12_ways_X12_all : GoodIn wsX12_ways wsX12_all := goodIn_r _ [11, 2, 18, 19, 20, 21, 22, 23, 24, 25, 26, 27, 28, 29, 30, 31, 32, 33, 34, 35, 36, 37, 38, 39, 40, 41] (by decide +kernel) (by decide +kernel)
set_option maxRecDepth 20000 in
theorem gX12_ways_X12_all : GoodIn wsX12_ways (wsV RX12 70 RX12 yX12_all wsX12_all) := goodIn_app (goodIn_of _ (by decide +kernel)) ggX12_ways_X12_all
set_option maxRecDepth 20000 in
theorem ggX12_ways_X12_in : GoodIn wsX12_ways wsX12_in := goodIn_r _ [7] (by decide +kernel) (by decide +kernel)
set_option maxRecDepth 20000 in
theorem gX12_ways_X12_in : GoodIn wsX12_ways (va_wsS RX12 66 yX12_in wsX12_in) := goodIn_app (goodIn_of _ (by decide +kernel)) ggX12_ways_X12_in
theorem dX12_ways_0 : decode cX12_ways 0 = .ok (.iload_n 1, 1) := by decide +kernel
theorem dX12_ways_1 : decode cX12_ways 1 = .ok (.iconst 0, 1) := by decide +kernel
theorem dX12_ways_10 : decode cX12_ways 10 = .ok (.bipush (-2), 2) := by decide +kernel
theorem dX12_ways_12 : decode cX12_ways 12 = .ok (.ireturn, 1) := by decide +kernel
theorem dX12_ways_13 : decode cX12_ways 13 = .ok (.iconst 0, 1) := by decide +kernel
theorem dX12_ways_14 : decode cX12_ways 14 = .ok (.istore_n 2, 1) := by decide +kernel
theorem dX12_ways_15 : decode cX12_ways 15 = .ok (.iload_n 2, 1) := by decide +kernel
theorem dX12_ways_16 : decode cX12_ways 16 = .ok (.bipush 7, 2) := by decide +kernel
theorem dX12_ways_18 : decode cX12_ways 18 = .ok (.if_icmp .ge 24, 3) := by decide +kernel
theorem dX12_ways_2 : decode cX12_ways 2 = .ok (.bipush 6, 2) := by decide +kernel
theorem dX12_ways_204 : decode cX12_ways 204 = .ok (.aload_n 0, 1) := by decide +kernel
theorem dX12_ways_205 : decode cX12_ways 205 = .ok (.getfield 23, 3) := by decide +kernel
theorem dX12_ways_208 : decode cX12_ways 208 = .ok (.bipush 7, 2) := by decide +kernel
theorem dX12_ways_21 : decode cX12_ways 21 = .ok (.aload_n 0, 1) := by decide +kernel
theorem dX12_ways_210 : decode cX12_ways 210 = .ok (.aload_n 0, 1) := by decide +kernel
theorem dX12_ways_211 : decode cX12_ways 211 = .ok (.invokevirtual 70, 3) := by decide +kernel
theorem dX12_ways_214 : decode cX12_ways 214 = .ok (.imul, 1) := by decide +kernel
theorem dX12_ways_215 : decode cX12_ways 215 = .ok (.iload_n 1, 1) := by decide +kernel
theorem dX12_ways_216 : decode cX12_ways 216 = .ok (.iadd, 1) := by decide +kernel
theorem dX12_ways_217 : decode cX12_ways 217 = .ok (.iaload, 1) := by decide +kernel
theorem dX12_ways_218 : decode cX12_ways 218 = .ok (.ireturn, 1) := by decide +kernel
theorem dX12_ways_22 : decode cX12_ways 22 = .ok (.getfield 23, 3) := by decide +kernel
theorem dX12_ways_25 : decode cX12_ways 25 = .ok (.iload_n 2, 1) := by decide +kernel
theorem dX12_ways_26 : decode cX12_ways 26 = .ok (.iload_n 2, 1) := by decide +kernel
theorem dX12_ways_27 : decode cX12_ways 27 = .ok (.ifCond .ne 7, 3) := by decide +kernel
theorem dX12_ways_30 : decode cX12_ways 30 = .ok (.iconst 1, 1) := by decide +kernel
theorem dX12_ways_31 : decode cX12_ways 31 = .ok (.goto 4, 3) := by decide +kernel
theorem dX12_ways_34 : decode cX12_ways 34 = .ok (.iconst 0, 1) := by decide +kernel
theorem dX12_ways_35 : decode cX12_ways 35 = .ok (.iastore, 1) := by decide +kernel
theorem dX12_ways_36 : decode cX12_ways 36 = .ok (.iinc 2 1, 3) := by decide +kernel
theorem dX12_ways_39 : decode cX12_ways 39 = .ok (.goto (-24), 3) := by decide +kernel
theorem dX12_ways_4 : decode cX12_ways 4 = .ok (.invokestatic 66, 3) := by decide +kernel
theorem dX12_ways_42 : decode cX12_ways 42 = .ok (.iconst 1, 1) := by decide +kernel
theorem dX12_ways_43 : decode cX12_ways 43 = .ok (.istore_n 2, 1) := by decide +kernel
theorem dX12_ways_44 : decode cX12_ways 44 = .ok (.iload_n 2, 1) := by decide +kernel
theorem dX12_ways_45 : decode cX12_ways 45 = .ok (.aload_n 0, 1) := by decide +kernel
theorem dX12_ways_46 : decode cX12_ways 46 = .ok (.invokevirtual 70, 3) := by decide +kernel
theorem dX12_ways_49 : decode cX12_ways 49 = .ok (.if_icmp .gt 155, 3) := by decide +kernel
theorem dX12_ways_7 : decode cX12_ways 7 = .ok (.ifCond .ne 6, 3) := by decide +kernel
set_option maxRecDepth 20000 in
theorem ggX12_alone_X12_isPoint : GoodIn wsX12_alone wsX12_isPoint := goodIn_r _ [6, 7, 8, 9, 5, 10, 34, 35, 36, 37, 38, 39, 40, 41, 42, 43, 44, 45, 46, 47, 48, 49, 50, 51, 52, 53, 54, 55, 56, 57] (by decide +kernel) (by decide +kernel)
set_option maxRecDepth 20000 in
theorem gX12_alone_X12_isPoint : GoodIn wsX12_alone (wsV RX12 74 RX12 yX12_isPoint wsX12_isPoint) := goodIn_app (goodIn_of _ (by decide +kernel)) ggX12_alone_X12_isPoint
theorem dX12_alone_0 : decode cX12_alone 0 = .ok (.aload_n 0, 1) := by decide +kernel
theorem dX12_alone_1 : decode cX12_alone 1 = .ok (.iload_n 1, 1) := by decide +kernel
theorem dX12_alone_17 : decode cX12_alone 17 = .ok (.bipush (-2), 2) := by decide +kernel
theorem dX12_alone_19 : decode cX12_alone 19 = .ok (.ireturn, 1) := by decide +kernel
theorem dX12_alone_2 : decode cX12_alone 2 = .ok (.invokevirtual 74, 3) := by decide +kernel
theorem dX12_alone_5 : decode cX12_alone 5 = .ok (.ifCond .eq 12, 3) := by decide +kernel
set_option maxRecDepth 20000 in
theorem ggX12_mark_X12_isPoint : GoodIn wsX12_mark wsX12_isPoint := goodIn_r _ [5, 6, 7, 8, 4, 9, 35, 36, 37, 38, 39, 40, 41, 42, 43, 44, 45, 46, 47, 48, 49, 50, 51, 52, 53, 54, 55, 56, 57, 58] (by decide +kernel) (by decide +kernel)
set_option maxRecDepth 20000 in
theorem gX12_mark_X12_isPoint : GoodIn wsX12_mark (wsV RX12 74 RX12 yX12_isPoint wsX12_isPoint) := goodIn_app (goodIn_of _ (by decide +kernel)) ggX12_mark_X12_isPoint
theorem dX12_mark_0 : decode cX12_mark 0 = .ok (.aload_n 0, 1) := by decide +kernel
theorem dX12_mark_1 : decode cX12_mark 1 = .ok (.iload_n 1, 1) := by decide +kernel
theorem dX12_mark_10 : decode cX12_mark 10 = .ok (.ireturn, 1) := by decide +kernel
theorem dX12_mark_2 : decode cX12_mark 2 = .ok (.invokevirtual 74, 3) := by decide +kernel
theorem dX12_mark_5 : decode cX12_mark 5 = .ok (.ifCond .ne 6, 3) := by decide +kernel
theorem dX12_mark_8 : decode cX12_mark 8 = .ok (.bipush (-2), 2) := by decide +kernel
set_option maxRecDepth 20000 in
theorem ggX12_markedSet_X12_all : GoodIn wsX12_markedSet wsX12_all := goodIn_r _ [12, 1, 13, 14, 15, 16, 17, 18, 19, 20, 21, 22, 23, 24, 25, 26, 27, 28, 29, 30, 31, 32, 33, 34, 35, 36] (by decide +kernel) (by decide +kernel)
set_option maxRecDepth 20000 in
theorem gX12_markedSet_X12_all : GoodIn wsX12_markedSet (wsV RX12 70 RX12 yX12_all wsX12_all) := goodIn_app (goodIn_of _ (by decide +kernel)) ggX12_markedSet_X12_all
theorem dX12_markedSet_0 : decode cX12_markedSet 0 = .ok (.iconst 0, 1) := by decide +kernel
theorem dX12_markedSet_1 : decode cX12_markedSet 1 = .ok (.istore_n 2, 1) := by decide +kernel
theorem dX12_markedSet_10 : decode cX12_markedSet 10 = .ok (.getfield 63, 3) := by decide +kernel
theorem dX12_markedSet_100 : decode cX12_markedSet 100 = .ok (.iconst (-1), 1) := by decide +kernel
theorem dX12_markedSet_101 : decode cX12_markedSet 101 = .ok (.ixor, 1) := by decide +kernel
theorem dX12_markedSet_102 : decode cX12_markedSet 102 = .ok (.iand, 1) := by decide +kernel
theorem dX12_markedSet_103 : decode cX12_markedSet 103 = .ok (.ireturn, 1) := by decide +kernel
theorem dX12_markedSet_13 : decode cX12_markedSet 13 = .ok (.if_icmp .ge 52, 3) := by decide +kernel
theorem dX12_markedSet_2 : decode cX12_markedSet 2 = .ok (.iconst 0, 1) := by decide +kernel
theorem dX12_markedSet_3 : decode cX12_markedSet 3 = .ok (.istore_n 3, 1) := by decide +kernel
theorem dX12_markedSet_4 : decode cX12_markedSet 4 = .ok (.iconst 0, 1) := by decide +kernel
theorem dX12_markedSet_5 : decode cX12_markedSet 5 = .ok (.istore 4, 2) := by decide +kernel
theorem dX12_markedSet_65 : decode cX12_markedSet 65 = .ok (.iload_n 3, 1) := by decide +kernel
theorem dX12_markedSet_66 : decode cX12_markedSet 66 = .ok (.iload_n 2, 1) := by decide +kernel
theorem dX12_markedSet_67 : decode cX12_markedSet 67 = .ok (.iconst (-1), 1) := by decide +kernel
theorem dX12_markedSet_68 : decode cX12_markedSet 68 = .ok (.ixor, 1) := by decide +kernel
theorem dX12_markedSet_69 : decode cX12_markedSet 69 = .ok (.iand, 1) := by decide +kernel
theorem dX12_markedSet_7 : decode cX12_markedSet 7 = .ok (.iload 4, 2) := by decide +kernel
theorem dX12_markedSet_70 : decode cX12_markedSet 70 = .ok (.istore 4, 2) := by decide +kernel
theorem dX12_markedSet_72 : decode cX12_markedSet 72 = .ok (.iload_n 1, 1) := by decide +kernel
theorem dX12_markedSet_73 : decode cX12_markedSet 73 = .ok (.ifCond .ne 7, 3) := by decide +kernel
theorem dX12_markedSet_76 : decode cX12_markedSet 76 = .ok (.iload_n 2, 1) := by decide +kernel
theorem dX12_markedSet_77 : decode cX12_markedSet 77 = .ok (.goto 26, 3) := by decide +kernel
theorem dX12_markedSet_80 : decode cX12_markedSet 80 = .ok (.iload_n 1, 1) := by decide +kernel
theorem dX12_markedSet_81 : decode cX12_markedSet 81 = .ok (.iconst 1, 1) := by decide +kernel
theorem dX12_markedSet_82 : decode cX12_markedSet 82 = .ok (.if_icmp .ne 8, 3) := by decide +kernel
theorem dX12_markedSet_85 : decode cX12_markedSet 85 = .ok (.iload 4, 2) := by decide +kernel
theorem dX12_markedSet_87 : decode cX12_markedSet 87 = .ok (.goto 16, 3) := by decide +kernel
theorem dX12_markedSet_9 : decode cX12_markedSet 9 = .ok (.aload_n 0, 1) := by decide +kernel
theorem dX12_markedSet_90 : decode cX12_markedSet 90 = .ok (.aload_n 0, 1) := by decide +kernel
theorem dX12_markedSet_91 : decode cX12_markedSet 91 = .ok (.invokevirtual 70, 3) := by decide +kernel
theorem dX12_markedSet_94 : decode cX12_markedSet 94 = .ok (.iload_n 2, 1) := by decide +kernel
theorem dX12_markedSet_95 : decode cX12_markedSet 95 = .ok (.iconst (-1), 1) := by decide +kernel
theorem dX12_markedSet_96 : decode cX12_markedSet 96 = .ok (.ixor, 1) := by decide +kernel
theorem dX12_markedSet_97 : decode cX12_markedSet 97 = .ok (.iand, 1) := by decide +kernel
theorem dX12_markedSet_98 : decode cX12_markedSet 98 = .ok (.iload 4, 2) := by decide +kernel
set_option maxRecDepth 20000 in
theorem ggX12_marked_X12_in : GoodIn wsX12_marked wsX12_in := goodIn_r _ [4] (by decide +kernel) (by decide +kernel)
set_option maxRecDepth 20000 in
theorem gX12_marked_X12_in : GoodIn wsX12_marked (va_wsS RX12 66 yX12_in wsX12_in) := goodIn_app (goodIn_of _ (by decide +kernel)) ggX12_marked_X12_in
set_option maxRecDepth 20000 in
theorem ggX12_marked_X12_markedSet : GoodIn wsX12_marked wsX12_markedSet := goodIn_r _ [26, 11, 12, 27, 28, 29, 3, 30, 10, 13, 14, 15, 16, 31, 32, 33, 34, 35, 36, 37, 38, 39, 40, 41, 42, 43, 44, 45, 46, 47, 48, 49, 50, 51, 52, 53, 54] (by decide +kernel) (by decide +kernel)
set_option maxRecDepth 20000 in
theorem gX12_marked_X12_markedSet : GoodIn wsX12_marked (wsV RX12 126 RX12 yX12_markedSet wsX12_markedSet) := goodIn_app (goodIn_of _ (by decide +kernel)) ggX12_marked_X12_markedSet
set_option maxRecDepth 20000 in
theorem ggX12_marked_X12_reckons : GoodIn wsX12_marked wsX12_reckons := goodIn_r _ [8, 9, 10, 11, 12, 13, 14, 15, 3, 16, 17, 18, 19, 20, 21, 22, 31, 32, 33, 34, 35, 36, 37, 38, 39, 40, 41, 42, 43, 44, 45, 46, 47, 48, 49, 50, 51, 52, 53, 54] (by decide +kernel) (by decide +kernel)
set_option maxRecDepth 20000 in
theorem gX12_marked_X12_reckons : GoodIn wsX12_marked (wsV RX12 107 RX12 yX12_reckons wsX12_reckons) := goodIn_app (goodIn_of _ (by decide +kernel)) ggX12_marked_X12_reckons
theorem dX12_marked_0 : decode cX12_marked 0 = .ok (.iload_n 1, 1) := by decide +kernel
theorem dX12_marked_1 : decode cX12_marked 1 = .ok (.iconst 0, 1) := by decide +kernel
theorem dX12_marked_11 : decode cX12_marked 11 = .ok (.ireturn, 1) := by decide +kernel
theorem dX12_marked_12 : decode cX12_marked 12 = .ok (.aload_n 0, 1) := by decide +kernel
theorem dX12_marked_13 : decode cX12_marked 13 = .ok (.invokevirtual 107, 3) := by decide +kernel
theorem dX12_marked_16 : decode cX12_marked 16 = .ok (.aload_n 0, 1) := by decide +kernel
theorem dX12_marked_17 : decode cX12_marked 17 = .ok (.iload_n 1, 1) := by decide +kernel
theorem dX12_marked_18 : decode cX12_marked 18 = .ok (.invokevirtual 126, 3) := by decide +kernel
theorem dX12_marked_2 : decode cX12_marked 2 = .ok (.iconst 2, 1) := by decide +kernel
theorem dX12_marked_21 : decode cX12_marked 21 = .ok (.ireturn, 1) := by decide +kernel
theorem dX12_marked_3 : decode cX12_marked 3 = .ok (.invokestatic 66, 3) := by decide +kernel
theorem dX12_marked_6 : decode cX12_marked 6 = .ok (.ifCond .ne 6, 3) := by decide +kernel
theorem dX12_marked_9 : decode cX12_marked 9 = .ok (.bipush (-2), 2) := by decide +kernel
set_option maxRecDepth 20000 in
theorem ggX12_setOf_X12_markedSet : GoodIn wsX12_setOf wsX12_markedSet := goodIn_r _ [23, 8, 9, 24, 25, 26, 4, 27, 7, 10, 11, 12, 13, 28, 29, 30, 31, 32, 33, 34, 35, 36, 37, 38, 39, 40, 41, 42, 43, 44, 45, 46, 47, 48, 49, 50, 51] (by decide +kernel) (by decide +kernel)
set_option maxRecDepth 20000 in
theorem gX12_setOf_X12_markedSet : GoodIn wsX12_setOf (wsV RX12 126 RX12 yX12_markedSet wsX12_markedSet) := goodIn_app (goodIn_of _ (by decide +kernel)) ggX12_setOf_X12_markedSet
set_option maxRecDepth 20000 in
theorem ggX12_setOf_X12_reckons : GoodIn wsX12_setOf wsX12_reckons := goodIn_r _ [5, 6, 7, 8, 9, 10, 11, 12, 4, 13, 14, 15, 16, 17, 18, 19, 28, 29, 30, 31, 32, 33, 34, 35, 36, 37, 38, 39, 40, 41, 42, 43, 44, 45, 46, 47, 48, 49, 50, 51] (by decide +kernel) (by decide +kernel)
set_option maxRecDepth 20000 in
theorem gX12_setOf_X12_reckons : GoodIn wsX12_setOf (wsV RX12 107 RX12 yX12_reckons wsX12_reckons) := goodIn_app (goodIn_of _ (by decide +kernel)) ggX12_setOf_X12_reckons
theorem dX12_setOf_0 : decode cX12_setOf 0 = .ok (.aload_n 0, 1) := by decide +kernel
theorem dX12_setOf_1 : decode cX12_setOf 1 = .ok (.invokevirtual 107, 3) := by decide +kernel
theorem dX12_setOf_10 : decode cX12_setOf 10 = .ok (.goto 4, 3) := by decide +kernel
theorem dX12_setOf_13 : decode cX12_setOf 13 = .ok (.iconst 2, 1) := by decide +kernel
theorem dX12_setOf_14 : decode cX12_setOf 14 = .ok (.invokevirtual 126, 3) := by decide +kernel
theorem dX12_setOf_17 : decode cX12_setOf 17 = .ok (.ireturn, 1) := by decide +kernel
theorem dX12_setOf_4 : decode cX12_setOf 4 = .ok (.aload_n 0, 1) := by decide +kernel
theorem dX12_setOf_5 : decode cX12_setOf 5 = .ok (.iload_n 1, 1) := by decide +kernel
theorem dX12_setOf_6 : decode cX12_setOf 6 = .ok (.ifCond .ne 7, 3) := by decide +kernel
theorem dX12_setOf_9 : decode cX12_setOf 9 = .ok (.iconst 0, 1) := by decide +kernel
set_option maxHeartbeats 4000000 in
set_option maxRecDepth 100000 in
theorem c_X12_in_0 (l : Launch) (D : va_G) (cI cS : ClassId) (x0 : Int32) : Met l yX12_in wsX12_in ({ frames := 0, cells := 0, slots := 0, locals := 0 }) (PS D cI cS [] [.int x0, .int 1, .int 12]) (vp_Si (fun r => r = if x0 < 1 then (0 : Int32) else (if (12 : Int32) < x0 then (0 : Int32) else (1 : Int32)))) 0 0 (fun _ => False) := by
  refine Met.ofW (cc := cX12_in) (maxL := 3) (ret := (some .boolean)) (by decide) rfl ?_
  intro p e s m args below meth c s₁ B hml hv
  obtain ⟨rfl, hP, hKK⟩ := hv
  have hx := B.exec
  have hb := B.bytes
  have hr := B.returns
  have hts := atoms_spec (ws := wsX12_in) B.pre
  have hown : s.vm.findClass RX12 = some m.cls := findClass_of_methodNamed B.named
  have hlocks := B.notSynchronized
  have hK := hKK.1
  have hN := hKK.2
  have hl := lv_entry ([.int x0, .int 1, .int 12]) (n := 3) (Nat.le_of_ble_eq_true rfl)
  rw [lg_entry_eq]
  generalize (lg_sl ([.int x0, .int 1, .int 12]) ++ List.replicate (3 - (lg_sl ([.int x0, .int 1, .int 12])).length) Slot.unset).toArray = ls at hl ⊢
  have hl : lv_has ls 3 [(0, .int x0), (1, .int 1), (2, .int 12)] := hl
  refine lv_iload_n hx hb dX12_in_0 rfl (lv_at hl 0 rfl) ?_
  refine lv_iload_n hx hb dX12_in_1 rfl (lv_at hl 1 rfl) ?_
  refine lv_icmp_lt (tgt := 14) hx hb dX12_in_2 (by decide) (fun c3 => ?_) (fun c3 => ?_)
  · refine lv_iconst (v := 0) hx hb dX12_in_14 (by decide) ?_
    exact W.zret (v := 0) hx hb hr (by decide) (fun t ht hW => ⟨_, rfl, by rw [if_pos c3], ht⟩) (fun q hq => absurd hq List.not_mem_nil) dX12_in_15
  · refine lv_iload_n hx hb dX12_in_5 rfl (lv_at hl 0 rfl) ?_
    refine lv_iload_n hx hb dX12_in_6 rfl (lv_at hl 2 rfl) ?_
    refine lv_icmp_gt (tgt := 14) hx hb dX12_in_7 (by decide) (fun c4 => ?_) (fun c4 => ?_)
    · refine lv_iconst (v := 0) hx hb dX12_in_14 (by decide) ?_
      exact W.zret (v := 0) hx hb hr (by decide) (fun t ht hW => ⟨_, rfl, by rw [if_neg c3, if_pos c4], ht⟩) (fun q hq => absurd hq List.not_mem_nil) dX12_in_15
    · refine lv_iconst (v := 1) hx hb dX12_in_10 (by decide) ?_
      refine lv_goto (tgt := 15) hx hb dX12_in_11 (by decide) ?_
      exact W.zret (v := 1) hx hb hr (by decide) (fun t ht hW => ⟨_, rfl, by rw [if_neg c3, if_neg c4], ht⟩) (fun q hq => absurd hq List.not_mem_nil) dX12_in_15
set_option maxHeartbeats 4000000 in
set_option maxRecDepth 100000 in
theorem c_X12_points_0 (l : Launch) (D : va_G) (cI cS : ClassId) (sz : Nat) (h0 h1 h2 h3 h4 h5 h6 h7 h8 h9 h10 h11 h12 h13 h14 h15 : Nat) (x0 : Int32) : Met l yX12_points wsX12_points ({ frames := 1, cells := 0, slots := 0, locals := 40 }) (PQ D cI cS [(h0, .inr (12, [.int 0, .int 1, .ref h1, .ref h2, .ref h3, .ref h4, .ref h5, .ref h6, .ref h7, .ref h8, .int 0, .int 0, .int 0, .int 0, .int 0, .int 0, .ref h9, .ref h10, .ref h11, .ref h12, .ref h13, .ref h14, .ref h15, .int 0])), (h1, .inl (cI, 12, .inl (fun _ => 0)))] sz [.ref h0, .int x0]) (QI D [(h0, .inr (12, [.int 0, .int 1, .ref h1, .ref h2, .ref h3, .ref h4, .ref h5, .ref h6, .ref h7, .ref h8, .int 0, .int 0, .int 0, .int 0, .int 0, .int 0, .ref h9, .ref h10, .ref h11, .ref h12, .ref h13, .ref h14, .ref h15, .int 0])), (h1, .inl (cI, 12, .inl (fun _ => 0)))] [] sz (fun r => r = if x0 < 1 then ((-2) : Int32) else (if (12 : Int32) < x0 then ((-2) : Int32) else (if x0 ≤ 1 then (1 : Int32) else (if x0 ≤ 2 then (2 : Int32) else (if x0 ≤ 3 then (3 : Int32) else (if x0 ≤ 4 then (4 : Int32) else (if x0 ≤ 5 then (5 : Int32) else (if x0 ≤ 6 then (6 : Int32) else (if x0 ≤ 7 then (7 : Int32) else (if x0 ≤ 8 then (8 : Int32) else (if x0 ≤ 9 then (9 : Int32) else (if x0 ≤ 10 then (10 : Int32) else (if x0 ≤ 11 then (11 : Int32) else (12 : Int32))))))))))))))) 0 0 (va_A [(h0, .inr (12, [.int 0, .int 1, .ref h1, .ref h2, .ref h3, .ref h4, .ref h5, .ref h6, .ref h7, .ref h8, .int 0, .int 0, .int 0, .int 0, .int 0, .int 0, .ref h9, .ref h10, .ref h11, .ref h12, .ref h13, .ref h14, .ref h15, .int 0])), (h1, .inl (cI, 12, .inl (fun _ => 0)))] sz) := by
  refine Met.ofW (cc := cX12_points) (maxL := 3) (ret := (some .int)) (by decide) rfl ?_
  intro p e s m args below meth c s₁ B hml hv
  obtain ⟨rfl, hsz, hP, hKK, hD0⟩ := hv
  have hx := B.exec
  have hb := B.bytes
  have hr := B.returns
  have hts := atoms_spec (ws := wsX12_points) B.pre
  have hown : s.vm.findClass RX12 = some m.cls := findClass_of_methodNamed B.named
  have hlocks := B.notSynchronized
  have hK := hKK.1
  have hN := hKK.2
  have hin12 : ∀ w ∈ wsX120, w ∈ wsX12_points := by decide +kernel
  subst hsz
  have hD := hD0.self (sz := s.heap.size)
  obtain ⟨A, hAe⟩ : ∃ A, A = va_A [(h0, .inr (12, [.int 0, .int 1, .ref h1, .ref h2, .ref h3, .ref h4, .ref h5, .ref h6, .ref h7, .ref h8, .int 0, .int 0, .int 0, .int 0, .int 0, .int 0, .ref h9, .ref h10, .ref h11, .ref h12, .ref h13, .ref h14, .ref h15, .int 0])), (h1, .inl (cI, 12, .inl (fun _ => 0)))] s.heap.size := ⟨_, rfl⟩
  rw [← hAe] at hD
  have hA : ∀ q : Nat, s.heap.size ≤ q → A q := fun q h => by rw [hAe]; exact Or.inr h
  have hS : va_S A s.heap s.heap [] := va_S.rf
  have hl := lv_entry ([.ref h0, .int x0]) (n := 3) (Nat.le_of_ble_eq_true rfl)
  rw [lg_entry_eq]
  generalize (lg_sl ([.ref h0, .int x0]) ++ List.replicate (3 - (lg_sl ([.ref h0, .int x0])).length) Slot.unset).toArray = ls at hl ⊢
  have hl : lv_has ls 3 [(0, .ref h0), (1, .int x0)] := hl
  refine lv_iload_n hx hb dX12_points_0 rfl (lv_at hl 1 rfl) ?_
  refine lv_iconst (v := 1) hx hb dX12_points_1 (by decide) ?_
  refine lv_bipush (v := 12) hx hb dX12_points_2 (by decide) ?_
  have hPc := hP.sub (ws' := []) [] rfl
  refine lz_ss (As := [.int x0, .int 1, .int 12]) (rest := []) ⟨hx, hb, hml, hown, hts⟩ (c_X12_in_0 l D cI cS x0) hKK hPc (va_cwS 3 hts gX12_points_X12_in rfl rfl rfl (by decide +kernel) ⟨Nat.le_of_ble_eq_true rfl, Nat.le_of_ble_eq_true rfl⟩) rfl hl.1 rfl (Nat.le_of_ble_eq_true rfl) dX12_points_4 ⟨Nat.le_of_ble_eq_true rfl, Nat.le_of_ble_eq_true rfl⟩ (fun r25 hw => ?_)
  by_cases k26 : x0 < 1
  · rw [if_pos k26] at hw
    subst hw
    refine lv_if_ne (tgt := 13) hx hb dX12_points_7 (by decide) (fun c27 => ?_) (fun c27 => ?_)
    · exact absurd c27 (by decide)
    · refine lv_bipush (v := (-2)) hx hb dX12_points_10 (by decide) ?_
      have hP9 := hP.sub (ws' := []) [] rfl
      have hD9 := hD.sub (ws' := []) [] (by decide) rfl
      subst hAe
      exact W.iret (v := (-2)) hx hb hr (fun t ht hW => ⟨⟨_, (), rfl, by rw [if_pos k26], by rw [ht]; exact hP9, hD9⟩, hS.F ht⟩) hS.2.2 dX12_points_12
  · rw [if_neg k26] at hw
    by_cases k28 : (12 : Int32) < x0
    · rw [if_pos k28] at hw
      subst hw
      refine lv_if_ne (tgt := 13) hx hb dX12_points_7 (by decide) (fun c29 => ?_) (fun c29 => ?_)
      · exact absurd c29 (by decide)
      · refine lv_bipush (v := (-2)) hx hb dX12_points_10 (by decide) ?_
        have hP9 := hP.sub (ws' := []) [] rfl
        have hD9 := hD.sub (ws' := []) [] (by decide) rfl
        subst hAe
        exact W.iret (v := (-2)) hx hb hr (fun t ht hW => ⟨⟨_, (), rfl, by rw [if_neg k26, if_pos k28], by rw [ht]; exact hP9, hD9⟩, hS.F ht⟩) hS.2.2 dX12_points_12
    · rw [if_neg k28] at hw
      subst hw
      refine lv_if_ne (tgt := 13) hx hb dX12_points_7 (by decide) (fun c30 => ?_) (fun c30 => ?_)
      · refine lv_aload_n hx hb dX12_points_13 rfl (lv_at hl 0 rfl) ?_
        refine va_get (D := D) (ci := 12) (v := .int 0) (C := RX12) (T := TX12) (N := 24) hx hb hts hin12 hown hK hP 0 rfl rfl 0 (by decide) (hts (.fieldLink RX12 63 "MissedPointsModel" "many" "I") (by decide +kernel)) (fun _ h9 => h9) rfl dX12_points_14 ?_
        refine lv_iload_n hx hb dX12_points_17 rfl (lv_at hl 1 rfl) ?_
        refine lv_iadd hx hb dX12_points_18 ?_
        refine lz_top (y := x0) (by simp) ?_
        refine lv_bipush (v := 12) hx hb dX12_points_19 (by decide) ?_
        refine lv_icmp_le (tgt := 27) hx hb dX12_points_21 (by decide) (fun c31 => ?_) (fun c31 => ?_)
        · refine lv_iconst (v := 0) hx hb dX12_points_27 (by decide) ?_
          refine lv_istore_n (lv' := [(2, .int 0), (0, .ref h0), (1, .int x0)]) hx hb dX12_points_28 rfl hl (by decide) rfl (fun ls hl => ?_)
          refine lv_iload_n hx hb dX12_points_29 rfl (lv_at hl 0 rfl) ?_
          refine lv_iload_n hx hb dX12_points_30 rfl (lv_at hl 2 rfl) ?_
          refine lv_icmp_ge (tgt := 60) hx hb dX12_points_31 (by decide) (fun c32 => ?_) (fun c32 => ?_)
          · exact absurd c32 (show ¬ (x0 ≤ 0) from by have zf1 := mt (lz_lt x0 (1 : Int32)).mpr k26; have zf2 := mt (lz_lt (12 : Int32) x0).mpr k28; have zn0 : (0 : Int32).toInt = 0 := (by decide); have zn1 : (1 : Int32).toInt = 1 := (by decide); have zn2 : (12 : Int32).toInt = 12 := (by decide); rw [lz_le]; omega)
          · refine lv_aload_n hx hb dX12_points_34 rfl (lv_at hl 1 rfl) ?_
            refine va_get (D := D) (ci := 12) (v := .ref h1) (C := RX12) (T := TX12) (N := 24) hx hb hts hin12 hown hK hP 0 rfl rfl 2 (by decide) (hts (.fieldLink RX12 13 "MissedPointsModel" "near" "[I") (by decide +kernel)) (fun _ h9 => h9) rfl dX12_points_35 ?_
            refine lv_aload_n hx hb dX12_points_38 rfl (lv_at hl 1 rfl) ?_
            refine va_get (D := D) (ci := 12) (v := .int 0) (C := RX12) (T := TX12) (N := 24) hx hb hts hin12 hown hK hP 0 rfl rfl 0 (by decide) (hts (.fieldLink RX12 63 "MissedPointsModel" "many" "I") (by decide +kernel)) (fun _ h9 => h9) rfl dX12_points_39 ?_
            refine lv_iconst (v := 0) hx hb dX12_points_42 (by decide) ?_
            refine lz_astc hx hb hK hP hD hS 1 0 rfl rfl (lz_vp (x := 0) (n := 12) (by decide) (by decide)) dX12_points_43 (fun H locs hP hD hS => ?_)
            refine lv_aload_n hx hb dX12_points_44 rfl (lv_at hl 1 rfl) ?_
            refine lv_dup hx hb dX12_points_45 rfl ?_
            refine va_get (D := D) (ci := 12) (v := .int 0) (C := RX12) (T := TX12) (N := 24) hx hb hts hin12 hown hK hP 0 rfl rfl 0 (by decide) (hts (.fieldLink RX12 63 "MissedPointsModel" "many" "I") (by decide +kernel)) (fun _ h9 => h9) rfl dX12_points_46 ?_
            refine lv_iconst (v := 1) hx hb dX12_points_49 (by decide) ?_
            refine lv_iadd hx hb dX12_points_50 ?_
            refine lz_top (y := 1) (by decide) ?_
            refine va_put (D := D) (ci := 12) (v := .int 1) (ty := .int) (C := RX12) (T := TX12) (N := 24) hx hb hts hin12 tyX12 tyX12_ok nmX12 hown hK hP hD hS 0 rfl rfl 0 (by decide) (hts (.fieldLink RX12 63 "MissedPointsModel" "many" "I") (by decide +kernel)) (fun _ h9 => h9) rfl (by decide +kernel) rfl rfl (Nat.le_of_ble_eq_true rfl) dX12_points_51 (fun H locs hP hD hS => ?_)
            have hP : va_P D cls [(h0, .inr (12, [.int 1, .int 1, .ref h1, .ref h2, .ref h3, .ref h4, .ref h5, .ref h6, .ref h7, .ref h8, .int 0, .int 0, .int 0, .int 0, .int 0, .int 0, .ref h9, .ref h10, .ref h11, .ref h12, .ref h13, .ref h14, .ref h15, .int 0])), (h1, .inl (cI, 12, .inl (fun _ => 0)))] H := hP
            have hD : va_D A [(h0, .inr (12, [.int 1, .int 1, .ref h1, .ref h2, .ref h3, .ref h4, .ref h5, .ref h6, .ref h7, .ref h8, .int 0, .int 0, .int 0, .int 0, .int 0, .int 0, .ref h9, .ref h10, .ref h11, .ref h12, .ref h13, .ref h14, .ref h15, .int 0])), (h1, .inl (cI, 12, .inl (fun _ => 0)))] := hD
            refine lv_iinc (v := 1) (lv' := [(2, .int 1), (0, .ref h0), (1, .int x0)]) hx hb dX12_points_54 hl (k := 0) rfl (by decide) (by decide) rfl (fun ls hl => ?_)
            refine lv_goto (tgt := 29) hx hb dX12_points_57 (by decide) ?_
            refine lv_iload_n hx hb dX12_points_29 rfl (lv_at hl 0 rfl) ?_
            refine lv_iload_n hx hb dX12_points_30 rfl (lv_at hl 2 rfl) ?_
            refine lv_icmp_ge (tgt := 60) hx hb dX12_points_31 (by decide) (fun c33 => ?_) (fun c33 => ?_)
            · refine lv_aload_n hx hb dX12_points_60 rfl (lv_at hl 1 rfl) ?_
              refine va_get (D := D) (ci := 12) (v := .int 1) (C := RX12) (T := TX12) (N := 24) hx hb hts hin12 hown hK hP 0 rfl rfl 0 (by decide) (hts (.fieldLink RX12 63 "MissedPointsModel" "many" "I") (by decide +kernel)) (fun _ h9 => h9) rfl dX12_points_61 ?_
              have hP9 := hP.sub (ws' := []) [] rfl
              have hD9 := hD.sub (ws' := []) [] (by decide) rfl
              subst hAe
              exact W.iret (v := 1) hx hb hr (fun t ht hW => ⟨⟨_, (), rfl, by rw [if_neg k26, if_neg k28, if_pos c33], by rw [ht]; exact hP9, hD9⟩, hS.F ht⟩) hS.2.2 dX12_points_64
            · refine lv_aload_n hx hb dX12_points_34 rfl (lv_at hl 1 rfl) ?_
              refine va_get (D := D) (ci := 12) (v := .ref h1) (C := RX12) (T := TX12) (N := 24) hx hb hts hin12 hown hK hP 0 rfl rfl 2 (by decide) (hts (.fieldLink RX12 13 "MissedPointsModel" "near" "[I") (by decide +kernel)) (fun _ h9 => h9) rfl dX12_points_35 ?_
              refine lv_aload_n hx hb dX12_points_38 rfl (lv_at hl 1 rfl) ?_
              refine va_get (D := D) (ci := 12) (v := .int 1) (C := RX12) (T := TX12) (N := 24) hx hb hts hin12 hown hK hP 0 rfl rfl 0 (by decide) (hts (.fieldLink RX12 63 "MissedPointsModel" "many" "I") (by decide +kernel)) (fun _ h9 => h9) rfl dX12_points_39 ?_
              refine lv_iconst (v := 0) hx hb dX12_points_42 (by decide) ?_
              refine lz_astc hx hb hK hP hD hS 1 0 rfl rfl (lz_vp (x := 1) (n := 12) (by decide) (by decide)) dX12_points_43 (fun H locs hP hD hS => ?_)
              refine lv_aload_n hx hb dX12_points_44 rfl (lv_at hl 1 rfl) ?_
              refine lv_dup hx hb dX12_points_45 rfl ?_
              refine va_get (D := D) (ci := 12) (v := .int 1) (C := RX12) (T := TX12) (N := 24) hx hb hts hin12 hown hK hP 0 rfl rfl 0 (by decide) (hts (.fieldLink RX12 63 "MissedPointsModel" "many" "I") (by decide +kernel)) (fun _ h9 => h9) rfl dX12_points_46 ?_
              refine lv_iconst (v := 1) hx hb dX12_points_49 (by decide) ?_
              refine lv_iadd hx hb dX12_points_50 ?_
              refine lz_top (y := 2) (by decide) ?_
              refine va_put (D := D) (ci := 12) (v := .int 2) (ty := .int) (C := RX12) (T := TX12) (N := 24) hx hb hts hin12 tyX12 tyX12_ok nmX12 hown hK hP hD hS 0 rfl rfl 0 (by decide) (hts (.fieldLink RX12 63 "MissedPointsModel" "many" "I") (by decide +kernel)) (fun _ h9 => h9) rfl (by decide +kernel) rfl rfl (Nat.le_of_ble_eq_true rfl) dX12_points_51 (fun H locs hP hD hS => ?_)
              have hP : va_P D cls [(h0, .inr (12, [.int 2, .int 1, .ref h1, .ref h2, .ref h3, .ref h4, .ref h5, .ref h6, .ref h7, .ref h8, .int 0, .int 0, .int 0, .int 0, .int 0, .int 0, .ref h9, .ref h10, .ref h11, .ref h12, .ref h13, .ref h14, .ref h15, .int 0])), (h1, .inl (cI, 12, .inl (fun _ => 0)))] H := hP
              have hD : va_D A [(h0, .inr (12, [.int 2, .int 1, .ref h1, .ref h2, .ref h3, .ref h4, .ref h5, .ref h6, .ref h7, .ref h8, .int 0, .int 0, .int 0, .int 0, .int 0, .int 0, .ref h9, .ref h10, .ref h11, .ref h12, .ref h13, .ref h14, .ref h15, .int 0])), (h1, .inl (cI, 12, .inl (fun _ => 0)))] := hD
              refine lv_iinc (v := 2) (lv' := [(2, .int 2), (0, .ref h0), (1, .int x0)]) hx hb dX12_points_54 hl (k := 0) rfl (by decide) (by decide) rfl (fun ls hl => ?_)
              refine lv_goto (tgt := 29) hx hb dX12_points_57 (by decide) ?_
              refine lv_iload_n hx hb dX12_points_29 rfl (lv_at hl 0 rfl) ?_
              refine lv_iload_n hx hb dX12_points_30 rfl (lv_at hl 2 rfl) ?_
              refine lv_icmp_ge (tgt := 60) hx hb dX12_points_31 (by decide) (fun c34 => ?_) (fun c34 => ?_)
              · refine lv_aload_n hx hb dX12_points_60 rfl (lv_at hl 1 rfl) ?_
                refine va_get (D := D) (ci := 12) (v := .int 2) (C := RX12) (T := TX12) (N := 24) hx hb hts hin12 hown hK hP 0 rfl rfl 0 (by decide) (hts (.fieldLink RX12 63 "MissedPointsModel" "many" "I") (by decide +kernel)) (fun _ h9 => h9) rfl dX12_points_61 ?_
                have hP9 := hP.sub (ws' := []) [] rfl
                have hD9 := hD.sub (ws' := []) [] (by decide) rfl
                subst hAe
                exact W.iret (v := 2) hx hb hr (fun t ht hW => ⟨⟨_, (), rfl, by rw [if_neg k26, if_neg k28, if_neg c33, if_pos c34], by rw [ht]; exact hP9, hD9⟩, hS.F ht⟩) hS.2.2 dX12_points_64
              · refine lv_aload_n hx hb dX12_points_34 rfl (lv_at hl 1 rfl) ?_
                refine va_get (D := D) (ci := 12) (v := .ref h1) (C := RX12) (T := TX12) (N := 24) hx hb hts hin12 hown hK hP 0 rfl rfl 2 (by decide) (hts (.fieldLink RX12 13 "MissedPointsModel" "near" "[I") (by decide +kernel)) (fun _ h9 => h9) rfl dX12_points_35 ?_
                refine lv_aload_n hx hb dX12_points_38 rfl (lv_at hl 1 rfl) ?_
                refine va_get (D := D) (ci := 12) (v := .int 2) (C := RX12) (T := TX12) (N := 24) hx hb hts hin12 hown hK hP 0 rfl rfl 0 (by decide) (hts (.fieldLink RX12 63 "MissedPointsModel" "many" "I") (by decide +kernel)) (fun _ h9 => h9) rfl dX12_points_39 ?_
                refine lv_iconst (v := 0) hx hb dX12_points_42 (by decide) ?_
                refine lz_astc hx hb hK hP hD hS 1 0 rfl rfl (lz_vp (x := 2) (n := 12) (by decide) (by decide)) dX12_points_43 (fun H locs hP hD hS => ?_)
                refine lv_aload_n hx hb dX12_points_44 rfl (lv_at hl 1 rfl) ?_
                refine lv_dup hx hb dX12_points_45 rfl ?_
                refine va_get (D := D) (ci := 12) (v := .int 2) (C := RX12) (T := TX12) (N := 24) hx hb hts hin12 hown hK hP 0 rfl rfl 0 (by decide) (hts (.fieldLink RX12 63 "MissedPointsModel" "many" "I") (by decide +kernel)) (fun _ h9 => h9) rfl dX12_points_46 ?_
                refine lv_iconst (v := 1) hx hb dX12_points_49 (by decide) ?_
                refine lv_iadd hx hb dX12_points_50 ?_
                refine lz_top (y := 3) (by decide) ?_
                refine va_put (D := D) (ci := 12) (v := .int 3) (ty := .int) (C := RX12) (T := TX12) (N := 24) hx hb hts hin12 tyX12 tyX12_ok nmX12 hown hK hP hD hS 0 rfl rfl 0 (by decide) (hts (.fieldLink RX12 63 "MissedPointsModel" "many" "I") (by decide +kernel)) (fun _ h9 => h9) rfl (by decide +kernel) rfl rfl (Nat.le_of_ble_eq_true rfl) dX12_points_51 (fun H locs hP hD hS => ?_)
                have hP : va_P D cls [(h0, .inr (12, [.int 3, .int 1, .ref h1, .ref h2, .ref h3, .ref h4, .ref h5, .ref h6, .ref h7, .ref h8, .int 0, .int 0, .int 0, .int 0, .int 0, .int 0, .ref h9, .ref h10, .ref h11, .ref h12, .ref h13, .ref h14, .ref h15, .int 0])), (h1, .inl (cI, 12, .inl (fun _ => 0)))] H := hP
                have hD : va_D A [(h0, .inr (12, [.int 3, .int 1, .ref h1, .ref h2, .ref h3, .ref h4, .ref h5, .ref h6, .ref h7, .ref h8, .int 0, .int 0, .int 0, .int 0, .int 0, .int 0, .ref h9, .ref h10, .ref h11, .ref h12, .ref h13, .ref h14, .ref h15, .int 0])), (h1, .inl (cI, 12, .inl (fun _ => 0)))] := hD
                refine lv_iinc (v := 3) (lv' := [(2, .int 3), (0, .ref h0), (1, .int x0)]) hx hb dX12_points_54 hl (k := 0) rfl (by decide) (by decide) rfl (fun ls hl => ?_)
                refine lv_goto (tgt := 29) hx hb dX12_points_57 (by decide) ?_
                refine lv_iload_n hx hb dX12_points_29 rfl (lv_at hl 0 rfl) ?_
                refine lv_iload_n hx hb dX12_points_30 rfl (lv_at hl 2 rfl) ?_
                refine lv_icmp_ge (tgt := 60) hx hb dX12_points_31 (by decide) (fun c35 => ?_) (fun c35 => ?_)
                · refine lv_aload_n hx hb dX12_points_60 rfl (lv_at hl 1 rfl) ?_
                  refine va_get (D := D) (ci := 12) (v := .int 3) (C := RX12) (T := TX12) (N := 24) hx hb hts hin12 hown hK hP 0 rfl rfl 0 (by decide) (hts (.fieldLink RX12 63 "MissedPointsModel" "many" "I") (by decide +kernel)) (fun _ h9 => h9) rfl dX12_points_61 ?_
                  have hP9 := hP.sub (ws' := []) [] rfl
                  have hD9 := hD.sub (ws' := []) [] (by decide) rfl
                  subst hAe
                  exact W.iret (v := 3) hx hb hr (fun t ht hW => ⟨⟨_, (), rfl, by rw [if_neg k26, if_neg k28, if_neg c33, if_neg c34, if_pos c35], by rw [ht]; exact hP9, hD9⟩, hS.F ht⟩) hS.2.2 dX12_points_64
                · refine lv_aload_n hx hb dX12_points_34 rfl (lv_at hl 1 rfl) ?_
                  refine va_get (D := D) (ci := 12) (v := .ref h1) (C := RX12) (T := TX12) (N := 24) hx hb hts hin12 hown hK hP 0 rfl rfl 2 (by decide) (hts (.fieldLink RX12 13 "MissedPointsModel" "near" "[I") (by decide +kernel)) (fun _ h9 => h9) rfl dX12_points_35 ?_
                  refine lv_aload_n hx hb dX12_points_38 rfl (lv_at hl 1 rfl) ?_
                  refine va_get (D := D) (ci := 12) (v := .int 3) (C := RX12) (T := TX12) (N := 24) hx hb hts hin12 hown hK hP 0 rfl rfl 0 (by decide) (hts (.fieldLink RX12 63 "MissedPointsModel" "many" "I") (by decide +kernel)) (fun _ h9 => h9) rfl dX12_points_39 ?_
                  refine lv_iconst (v := 0) hx hb dX12_points_42 (by decide) ?_
                  refine lz_astc hx hb hK hP hD hS 1 0 rfl rfl (lz_vp (x := 3) (n := 12) (by decide) (by decide)) dX12_points_43 (fun H locs hP hD hS => ?_)
                  refine lv_aload_n hx hb dX12_points_44 rfl (lv_at hl 1 rfl) ?_
                  refine lv_dup hx hb dX12_points_45 rfl ?_
                  refine va_get (D := D) (ci := 12) (v := .int 3) (C := RX12) (T := TX12) (N := 24) hx hb hts hin12 hown hK hP 0 rfl rfl 0 (by decide) (hts (.fieldLink RX12 63 "MissedPointsModel" "many" "I") (by decide +kernel)) (fun _ h9 => h9) rfl dX12_points_46 ?_
                  refine lv_iconst (v := 1) hx hb dX12_points_49 (by decide) ?_
                  refine lv_iadd hx hb dX12_points_50 ?_
                  refine lz_top (y := 4) (by decide) ?_
                  refine va_put (D := D) (ci := 12) (v := .int 4) (ty := .int) (C := RX12) (T := TX12) (N := 24) hx hb hts hin12 tyX12 tyX12_ok nmX12 hown hK hP hD hS 0 rfl rfl 0 (by decide) (hts (.fieldLink RX12 63 "MissedPointsModel" "many" "I") (by decide +kernel)) (fun _ h9 => h9) rfl (by decide +kernel) rfl rfl (Nat.le_of_ble_eq_true rfl) dX12_points_51 (fun H locs hP hD hS => ?_)
                  have hP : va_P D cls [(h0, .inr (12, [.int 4, .int 1, .ref h1, .ref h2, .ref h3, .ref h4, .ref h5, .ref h6, .ref h7, .ref h8, .int 0, .int 0, .int 0, .int 0, .int 0, .int 0, .ref h9, .ref h10, .ref h11, .ref h12, .ref h13, .ref h14, .ref h15, .int 0])), (h1, .inl (cI, 12, .inl (fun _ => 0)))] H := hP
                  have hD : va_D A [(h0, .inr (12, [.int 4, .int 1, .ref h1, .ref h2, .ref h3, .ref h4, .ref h5, .ref h6, .ref h7, .ref h8, .int 0, .int 0, .int 0, .int 0, .int 0, .int 0, .ref h9, .ref h10, .ref h11, .ref h12, .ref h13, .ref h14, .ref h15, .int 0])), (h1, .inl (cI, 12, .inl (fun _ => 0)))] := hD
                  refine lv_iinc (v := 4) (lv' := [(2, .int 4), (0, .ref h0), (1, .int x0)]) hx hb dX12_points_54 hl (k := 0) rfl (by decide) (by decide) rfl (fun ls hl => ?_)
                  refine lv_goto (tgt := 29) hx hb dX12_points_57 (by decide) ?_
                  refine lv_iload_n hx hb dX12_points_29 rfl (lv_at hl 0 rfl) ?_
                  refine lv_iload_n hx hb dX12_points_30 rfl (lv_at hl 2 rfl) ?_
                  refine lv_icmp_ge (tgt := 60) hx hb dX12_points_31 (by decide) (fun c36 => ?_) (fun c36 => ?_)
                  · refine lv_aload_n hx hb dX12_points_60 rfl (lv_at hl 1 rfl) ?_
                    refine va_get (D := D) (ci := 12) (v := .int 4) (C := RX12) (T := TX12) (N := 24) hx hb hts hin12 hown hK hP 0 rfl rfl 0 (by decide) (hts (.fieldLink RX12 63 "MissedPointsModel" "many" "I") (by decide +kernel)) (fun _ h9 => h9) rfl dX12_points_61 ?_
                    have hP9 := hP.sub (ws' := []) [] rfl
                    have hD9 := hD.sub (ws' := []) [] (by decide) rfl
                    subst hAe
                    exact W.iret (v := 4) hx hb hr (fun t ht hW => ⟨⟨_, (), rfl, by rw [if_neg k26, if_neg k28, if_neg c33, if_neg c34, if_neg c35, if_pos c36], by rw [ht]; exact hP9, hD9⟩, hS.F ht⟩) hS.2.2 dX12_points_64
                  · refine lv_aload_n hx hb dX12_points_34 rfl (lv_at hl 1 rfl) ?_
                    refine va_get (D := D) (ci := 12) (v := .ref h1) (C := RX12) (T := TX12) (N := 24) hx hb hts hin12 hown hK hP 0 rfl rfl 2 (by decide) (hts (.fieldLink RX12 13 "MissedPointsModel" "near" "[I") (by decide +kernel)) (fun _ h9 => h9) rfl dX12_points_35 ?_
                    refine lv_aload_n hx hb dX12_points_38 rfl (lv_at hl 1 rfl) ?_
                    refine va_get (D := D) (ci := 12) (v := .int 4) (C := RX12) (T := TX12) (N := 24) hx hb hts hin12 hown hK hP 0 rfl rfl 0 (by decide) (hts (.fieldLink RX12 63 "MissedPointsModel" "many" "I") (by decide +kernel)) (fun _ h9 => h9) rfl dX12_points_39 ?_
                    refine lv_iconst (v := 0) hx hb dX12_points_42 (by decide) ?_
                    refine lz_astc hx hb hK hP hD hS 1 0 rfl rfl (lz_vp (x := 4) (n := 12) (by decide) (by decide)) dX12_points_43 (fun H locs hP hD hS => ?_)
                    refine lv_aload_n hx hb dX12_points_44 rfl (lv_at hl 1 rfl) ?_
                    refine lv_dup hx hb dX12_points_45 rfl ?_
                    refine va_get (D := D) (ci := 12) (v := .int 4) (C := RX12) (T := TX12) (N := 24) hx hb hts hin12 hown hK hP 0 rfl rfl 0 (by decide) (hts (.fieldLink RX12 63 "MissedPointsModel" "many" "I") (by decide +kernel)) (fun _ h9 => h9) rfl dX12_points_46 ?_
                    refine lv_iconst (v := 1) hx hb dX12_points_49 (by decide) ?_
                    refine lv_iadd hx hb dX12_points_50 ?_
                    refine lz_top (y := 5) (by decide) ?_
                    refine va_put (D := D) (ci := 12) (v := .int 5) (ty := .int) (C := RX12) (T := TX12) (N := 24) hx hb hts hin12 tyX12 tyX12_ok nmX12 hown hK hP hD hS 0 rfl rfl 0 (by decide) (hts (.fieldLink RX12 63 "MissedPointsModel" "many" "I") (by decide +kernel)) (fun _ h9 => h9) rfl (by decide +kernel) rfl rfl (Nat.le_of_ble_eq_true rfl) dX12_points_51 (fun H locs hP hD hS => ?_)
                    have hP : va_P D cls [(h0, .inr (12, [.int 5, .int 1, .ref h1, .ref h2, .ref h3, .ref h4, .ref h5, .ref h6, .ref h7, .ref h8, .int 0, .int 0, .int 0, .int 0, .int 0, .int 0, .ref h9, .ref h10, .ref h11, .ref h12, .ref h13, .ref h14, .ref h15, .int 0])), (h1, .inl (cI, 12, .inl (fun _ => 0)))] H := hP
                    have hD : va_D A [(h0, .inr (12, [.int 5, .int 1, .ref h1, .ref h2, .ref h3, .ref h4, .ref h5, .ref h6, .ref h7, .ref h8, .int 0, .int 0, .int 0, .int 0, .int 0, .int 0, .ref h9, .ref h10, .ref h11, .ref h12, .ref h13, .ref h14, .ref h15, .int 0])), (h1, .inl (cI, 12, .inl (fun _ => 0)))] := hD
                    refine lv_iinc (v := 5) (lv' := [(2, .int 5), (0, .ref h0), (1, .int x0)]) hx hb dX12_points_54 hl (k := 0) rfl (by decide) (by decide) rfl (fun ls hl => ?_)
                    refine lv_goto (tgt := 29) hx hb dX12_points_57 (by decide) ?_
                    refine lv_iload_n hx hb dX12_points_29 rfl (lv_at hl 0 rfl) ?_
                    refine lv_iload_n hx hb dX12_points_30 rfl (lv_at hl 2 rfl) ?_
                    refine lv_icmp_ge (tgt := 60) hx hb dX12_points_31 (by decide) (fun c37 => ?_) (fun c37 => ?_)
                    · refine lv_aload_n hx hb dX12_points_60 rfl (lv_at hl 1 rfl) ?_
                      refine va_get (D := D) (ci := 12) (v := .int 5) (C := RX12) (T := TX12) (N := 24) hx hb hts hin12 hown hK hP 0 rfl rfl 0 (by decide) (hts (.fieldLink RX12 63 "MissedPointsModel" "many" "I") (by decide +kernel)) (fun _ h9 => h9) rfl dX12_points_61 ?_
                      have hP9 := hP.sub (ws' := []) [] rfl
                      have hD9 := hD.sub (ws' := []) [] (by decide) rfl
                      subst hAe
                      exact W.iret (v := 5) hx hb hr (fun t ht hW => ⟨⟨_, (), rfl, by rw [if_neg k26, if_neg k28, if_neg c33, if_neg c34, if_neg c35, if_neg c36, if_pos c37], by rw [ht]; exact hP9, hD9⟩, hS.F ht⟩) hS.2.2 dX12_points_64
                    · refine lv_aload_n hx hb dX12_points_34 rfl (lv_at hl 1 rfl) ?_
                      refine va_get (D := D) (ci := 12) (v := .ref h1) (C := RX12) (T := TX12) (N := 24) hx hb hts hin12 hown hK hP 0 rfl rfl 2 (by decide) (hts (.fieldLink RX12 13 "MissedPointsModel" "near" "[I") (by decide +kernel)) (fun _ h9 => h9) rfl dX12_points_35 ?_
                      refine lv_aload_n hx hb dX12_points_38 rfl (lv_at hl 1 rfl) ?_
                      refine va_get (D := D) (ci := 12) (v := .int 5) (C := RX12) (T := TX12) (N := 24) hx hb hts hin12 hown hK hP 0 rfl rfl 0 (by decide) (hts (.fieldLink RX12 63 "MissedPointsModel" "many" "I") (by decide +kernel)) (fun _ h9 => h9) rfl dX12_points_39 ?_
                      refine lv_iconst (v := 0) hx hb dX12_points_42 (by decide) ?_
                      refine lz_astc hx hb hK hP hD hS 1 0 rfl rfl (lz_vp (x := 5) (n := 12) (by decide) (by decide)) dX12_points_43 (fun H locs hP hD hS => ?_)
                      refine lv_aload_n hx hb dX12_points_44 rfl (lv_at hl 1 rfl) ?_
                      refine lv_dup hx hb dX12_points_45 rfl ?_
                      refine va_get (D := D) (ci := 12) (v := .int 5) (C := RX12) (T := TX12) (N := 24) hx hb hts hin12 hown hK hP 0 rfl rfl 0 (by decide) (hts (.fieldLink RX12 63 "MissedPointsModel" "many" "I") (by decide +kernel)) (fun _ h9 => h9) rfl dX12_points_46 ?_
                      refine lv_iconst (v := 1) hx hb dX12_points_49 (by decide) ?_
                      refine lv_iadd hx hb dX12_points_50 ?_
                      refine lz_top (y := 6) (by decide) ?_
                      refine va_put (D := D) (ci := 12) (v := .int 6) (ty := .int) (C := RX12) (T := TX12) (N := 24) hx hb hts hin12 tyX12 tyX12_ok nmX12 hown hK hP hD hS 0 rfl rfl 0 (by decide) (hts (.fieldLink RX12 63 "MissedPointsModel" "many" "I") (by decide +kernel)) (fun _ h9 => h9) rfl (by decide +kernel) rfl rfl (Nat.le_of_ble_eq_true rfl) dX12_points_51 (fun H locs hP hD hS => ?_)
                      have hP : va_P D cls [(h0, .inr (12, [.int 6, .int 1, .ref h1, .ref h2, .ref h3, .ref h4, .ref h5, .ref h6, .ref h7, .ref h8, .int 0, .int 0, .int 0, .int 0, .int 0, .int 0, .ref h9, .ref h10, .ref h11, .ref h12, .ref h13, .ref h14, .ref h15, .int 0])), (h1, .inl (cI, 12, .inl (fun _ => 0)))] H := hP
                      have hD : va_D A [(h0, .inr (12, [.int 6, .int 1, .ref h1, .ref h2, .ref h3, .ref h4, .ref h5, .ref h6, .ref h7, .ref h8, .int 0, .int 0, .int 0, .int 0, .int 0, .int 0, .ref h9, .ref h10, .ref h11, .ref h12, .ref h13, .ref h14, .ref h15, .int 0])), (h1, .inl (cI, 12, .inl (fun _ => 0)))] := hD
                      refine lv_iinc (v := 6) (lv' := [(2, .int 6), (0, .ref h0), (1, .int x0)]) hx hb dX12_points_54 hl (k := 0) rfl (by decide) (by decide) rfl (fun ls hl => ?_)
                      refine lv_goto (tgt := 29) hx hb dX12_points_57 (by decide) ?_
                      refine lv_iload_n hx hb dX12_points_29 rfl (lv_at hl 0 rfl) ?_
                      refine lv_iload_n hx hb dX12_points_30 rfl (lv_at hl 2 rfl) ?_
                      refine lv_icmp_ge (tgt := 60) hx hb dX12_points_31 (by decide) (fun c38 => ?_) (fun c38 => ?_)
                      · refine lv_aload_n hx hb dX12_points_60 rfl (lv_at hl 1 rfl) ?_
                        refine va_get (D := D) (ci := 12) (v := .int 6) (C := RX12) (T := TX12) (N := 24) hx hb hts hin12 hown hK hP 0 rfl rfl 0 (by decide) (hts (.fieldLink RX12 63 "MissedPointsModel" "many" "I") (by decide +kernel)) (fun _ h9 => h9) rfl dX12_points_61 ?_
                        have hP9 := hP.sub (ws' := []) [] rfl
                        have hD9 := hD.sub (ws' := []) [] (by decide) rfl
                        subst hAe
                        exact W.iret (v := 6) hx hb hr (fun t ht hW => ⟨⟨_, (), rfl, by rw [if_neg k26, if_neg k28, if_neg c33, if_neg c34, if_neg c35, if_neg c36, if_neg c37, if_pos c38], by rw [ht]; exact hP9, hD9⟩, hS.F ht⟩) hS.2.2 dX12_points_64
                      · refine lv_aload_n hx hb dX12_points_34 rfl (lv_at hl 1 rfl) ?_
                        refine va_get (D := D) (ci := 12) (v := .ref h1) (C := RX12) (T := TX12) (N := 24) hx hb hts hin12 hown hK hP 0 rfl rfl 2 (by decide) (hts (.fieldLink RX12 13 "MissedPointsModel" "near" "[I") (by decide +kernel)) (fun _ h9 => h9) rfl dX12_points_35 ?_
                        refine lv_aload_n hx hb dX12_points_38 rfl (lv_at hl 1 rfl) ?_
                        refine va_get (D := D) (ci := 12) (v := .int 6) (C := RX12) (T := TX12) (N := 24) hx hb hts hin12 hown hK hP 0 rfl rfl 0 (by decide) (hts (.fieldLink RX12 63 "MissedPointsModel" "many" "I") (by decide +kernel)) (fun _ h9 => h9) rfl dX12_points_39 ?_
                        refine lv_iconst (v := 0) hx hb dX12_points_42 (by decide) ?_
                        refine lz_astc hx hb hK hP hD hS 1 0 rfl rfl (lz_vp (x := 6) (n := 12) (by decide) (by decide)) dX12_points_43 (fun H locs hP hD hS => ?_)
                        refine lv_aload_n hx hb dX12_points_44 rfl (lv_at hl 1 rfl) ?_
                        refine lv_dup hx hb dX12_points_45 rfl ?_
                        refine va_get (D := D) (ci := 12) (v := .int 6) (C := RX12) (T := TX12) (N := 24) hx hb hts hin12 hown hK hP 0 rfl rfl 0 (by decide) (hts (.fieldLink RX12 63 "MissedPointsModel" "many" "I") (by decide +kernel)) (fun _ h9 => h9) rfl dX12_points_46 ?_
                        refine lv_iconst (v := 1) hx hb dX12_points_49 (by decide) ?_
                        refine lv_iadd hx hb dX12_points_50 ?_
                        refine lz_top (y := 7) (by decide) ?_
                        refine va_put (D := D) (ci := 12) (v := .int 7) (ty := .int) (C := RX12) (T := TX12) (N := 24) hx hb hts hin12 tyX12 tyX12_ok nmX12 hown hK hP hD hS 0 rfl rfl 0 (by decide) (hts (.fieldLink RX12 63 "MissedPointsModel" "many" "I") (by decide +kernel)) (fun _ h9 => h9) rfl (by decide +kernel) rfl rfl (Nat.le_of_ble_eq_true rfl) dX12_points_51 (fun H locs hP hD hS => ?_)
                        have hP : va_P D cls [(h0, .inr (12, [.int 7, .int 1, .ref h1, .ref h2, .ref h3, .ref h4, .ref h5, .ref h6, .ref h7, .ref h8, .int 0, .int 0, .int 0, .int 0, .int 0, .int 0, .ref h9, .ref h10, .ref h11, .ref h12, .ref h13, .ref h14, .ref h15, .int 0])), (h1, .inl (cI, 12, .inl (fun _ => 0)))] H := hP
                        have hD : va_D A [(h0, .inr (12, [.int 7, .int 1, .ref h1, .ref h2, .ref h3, .ref h4, .ref h5, .ref h6, .ref h7, .ref h8, .int 0, .int 0, .int 0, .int 0, .int 0, .int 0, .ref h9, .ref h10, .ref h11, .ref h12, .ref h13, .ref h14, .ref h15, .int 0])), (h1, .inl (cI, 12, .inl (fun _ => 0)))] := hD
                        refine lv_iinc (v := 7) (lv' := [(2, .int 7), (0, .ref h0), (1, .int x0)]) hx hb dX12_points_54 hl (k := 0) rfl (by decide) (by decide) rfl (fun ls hl => ?_)
                        refine lv_goto (tgt := 29) hx hb dX12_points_57 (by decide) ?_
                        refine lv_iload_n hx hb dX12_points_29 rfl (lv_at hl 0 rfl) ?_
                        refine lv_iload_n hx hb dX12_points_30 rfl (lv_at hl 2 rfl) ?_
                        refine lv_icmp_ge (tgt := 60) hx hb dX12_points_31 (by decide) (fun c39 => ?_) (fun c39 => ?_)
                        · refine lv_aload_n hx hb dX12_points_60 rfl (lv_at hl 1 rfl) ?_
                          refine va_get (D := D) (ci := 12) (v := .int 7) (C := RX12) (T := TX12) (N := 24) hx hb hts hin12 hown hK hP 0 rfl rfl 0 (by decide) (hts (.fieldLink RX12 63 "MissedPointsModel" "many" "I") (by decide +kernel)) (fun _ h9 => h9) rfl dX12_points_61 ?_
                          have hP9 := hP.sub (ws' := []) [] rfl
                          have hD9 := hD.sub (ws' := []) [] (by decide) rfl
                          subst hAe
                          exact W.iret (v := 7) hx hb hr (fun t ht hW => ⟨⟨_, (), rfl, by rw [if_neg k26, if_neg k28, if_neg c33, if_neg c34, if_neg c35, if_neg c36, if_neg c37, if_neg c38, if_pos c39], by rw [ht]; exact hP9, hD9⟩, hS.F ht⟩) hS.2.2 dX12_points_64
                        · refine lv_aload_n hx hb dX12_points_34 rfl (lv_at hl 1 rfl) ?_
                          refine va_get (D := D) (ci := 12) (v := .ref h1) (C := RX12) (T := TX12) (N := 24) hx hb hts hin12 hown hK hP 0 rfl rfl 2 (by decide) (hts (.fieldLink RX12 13 "MissedPointsModel" "near" "[I") (by decide +kernel)) (fun _ h9 => h9) rfl dX12_points_35 ?_
                          refine lv_aload_n hx hb dX12_points_38 rfl (lv_at hl 1 rfl) ?_
                          refine va_get (D := D) (ci := 12) (v := .int 7) (C := RX12) (T := TX12) (N := 24) hx hb hts hin12 hown hK hP 0 rfl rfl 0 (by decide) (hts (.fieldLink RX12 63 "MissedPointsModel" "many" "I") (by decide +kernel)) (fun _ h9 => h9) rfl dX12_points_39 ?_
                          refine lv_iconst (v := 0) hx hb dX12_points_42 (by decide) ?_
                          refine lz_astc hx hb hK hP hD hS 1 0 rfl rfl (lz_vp (x := 7) (n := 12) (by decide) (by decide)) dX12_points_43 (fun H locs hP hD hS => ?_)
                          refine lv_aload_n hx hb dX12_points_44 rfl (lv_at hl 1 rfl) ?_
                          refine lv_dup hx hb dX12_points_45 rfl ?_
                          refine va_get (D := D) (ci := 12) (v := .int 7) (C := RX12) (T := TX12) (N := 24) hx hb hts hin12 hown hK hP 0 rfl rfl 0 (by decide) (hts (.fieldLink RX12 63 "MissedPointsModel" "many" "I") (by decide +kernel)) (fun _ h9 => h9) rfl dX12_points_46 ?_
                          refine lv_iconst (v := 1) hx hb dX12_points_49 (by decide) ?_
                          refine lv_iadd hx hb dX12_points_50 ?_
                          refine lz_top (y := 8) (by decide) ?_
                          refine va_put (D := D) (ci := 12) (v := .int 8) (ty := .int) (C := RX12) (T := TX12) (N := 24) hx hb hts hin12 tyX12 tyX12_ok nmX12 hown hK hP hD hS 0 rfl rfl 0 (by decide) (hts (.fieldLink RX12 63 "MissedPointsModel" "many" "I") (by decide +kernel)) (fun _ h9 => h9) rfl (by decide +kernel) rfl rfl (Nat.le_of_ble_eq_true rfl) dX12_points_51 (fun H locs hP hD hS => ?_)
                          have hP : va_P D cls [(h0, .inr (12, [.int 8, .int 1, .ref h1, .ref h2, .ref h3, .ref h4, .ref h5, .ref h6, .ref h7, .ref h8, .int 0, .int 0, .int 0, .int 0, .int 0, .int 0, .ref h9, .ref h10, .ref h11, .ref h12, .ref h13, .ref h14, .ref h15, .int 0])), (h1, .inl (cI, 12, .inl (fun _ => 0)))] H := hP
                          have hD : va_D A [(h0, .inr (12, [.int 8, .int 1, .ref h1, .ref h2, .ref h3, .ref h4, .ref h5, .ref h6, .ref h7, .ref h8, .int 0, .int 0, .int 0, .int 0, .int 0, .int 0, .ref h9, .ref h10, .ref h11, .ref h12, .ref h13, .ref h14, .ref h15, .int 0])), (h1, .inl (cI, 12, .inl (fun _ => 0)))] := hD
                          refine lv_iinc (v := 8) (lv' := [(2, .int 8), (0, .ref h0), (1, .int x0)]) hx hb dX12_points_54 hl (k := 0) rfl (by decide) (by decide) rfl (fun ls hl => ?_)
                          refine lv_goto (tgt := 29) hx hb dX12_points_57 (by decide) ?_
                          refine lv_iload_n hx hb dX12_points_29 rfl (lv_at hl 0 rfl) ?_
                          refine lv_iload_n hx hb dX12_points_30 rfl (lv_at hl 2 rfl) ?_
                          refine lv_icmp_ge (tgt := 60) hx hb dX12_points_31 (by decide) (fun c40 => ?_) (fun c40 => ?_)
                          · refine lv_aload_n hx hb dX12_points_60 rfl (lv_at hl 1 rfl) ?_
                            refine va_get (D := D) (ci := 12) (v := .int 8) (C := RX12) (T := TX12) (N := 24) hx hb hts hin12 hown hK hP 0 rfl rfl 0 (by decide) (hts (.fieldLink RX12 63 "MissedPointsModel" "many" "I") (by decide +kernel)) (fun _ h9 => h9) rfl dX12_points_61 ?_
                            have hP9 := hP.sub (ws' := []) [] rfl
                            have hD9 := hD.sub (ws' := []) [] (by decide) rfl
                            subst hAe
                            exact W.iret (v := 8) hx hb hr (fun t ht hW => ⟨⟨_, (), rfl, by rw [if_neg k26, if_neg k28, if_neg c33, if_neg c34, if_neg c35, if_neg c36, if_neg c37, if_neg c38, if_neg c39, if_pos c40], by rw [ht]; exact hP9, hD9⟩, hS.F ht⟩) hS.2.2 dX12_points_64
                          · refine lv_aload_n hx hb dX12_points_34 rfl (lv_at hl 1 rfl) ?_
                            refine va_get (D := D) (ci := 12) (v := .ref h1) (C := RX12) (T := TX12) (N := 24) hx hb hts hin12 hown hK hP 0 rfl rfl 2 (by decide) (hts (.fieldLink RX12 13 "MissedPointsModel" "near" "[I") (by decide +kernel)) (fun _ h9 => h9) rfl dX12_points_35 ?_
                            refine lv_aload_n hx hb dX12_points_38 rfl (lv_at hl 1 rfl) ?_
                            refine va_get (D := D) (ci := 12) (v := .int 8) (C := RX12) (T := TX12) (N := 24) hx hb hts hin12 hown hK hP 0 rfl rfl 0 (by decide) (hts (.fieldLink RX12 63 "MissedPointsModel" "many" "I") (by decide +kernel)) (fun _ h9 => h9) rfl dX12_points_39 ?_
                            refine lv_iconst (v := 0) hx hb dX12_points_42 (by decide) ?_
                            refine lz_astc hx hb hK hP hD hS 1 0 rfl rfl (lz_vp (x := 8) (n := 12) (by decide) (by decide)) dX12_points_43 (fun H locs hP hD hS => ?_)
                            refine lv_aload_n hx hb dX12_points_44 rfl (lv_at hl 1 rfl) ?_
                            refine lv_dup hx hb dX12_points_45 rfl ?_
                            refine va_get (D := D) (ci := 12) (v := .int 8) (C := RX12) (T := TX12) (N := 24) hx hb hts hin12 hown hK hP 0 rfl rfl 0 (by decide) (hts (.fieldLink RX12 63 "MissedPointsModel" "many" "I") (by decide +kernel)) (fun _ h9 => h9) rfl dX12_points_46 ?_
                            refine lv_iconst (v := 1) hx hb dX12_points_49 (by decide) ?_
                            refine lv_iadd hx hb dX12_points_50 ?_
                            refine lz_top (y := 9) (by decide) ?_
                            refine va_put (D := D) (ci := 12) (v := .int 9) (ty := .int) (C := RX12) (T := TX12) (N := 24) hx hb hts hin12 tyX12 tyX12_ok nmX12 hown hK hP hD hS 0 rfl rfl 0 (by decide) (hts (.fieldLink RX12 63 "MissedPointsModel" "many" "I") (by decide +kernel)) (fun _ h9 => h9) rfl (by decide +kernel) rfl rfl (Nat.le_of_ble_eq_true rfl) dX12_points_51 (fun H locs hP hD hS => ?_)
                            have hP : va_P D cls [(h0, .inr (12, [.int 9, .int 1, .ref h1, .ref h2, .ref h3, .ref h4, .ref h5, .ref h6, .ref h7, .ref h8, .int 0, .int 0, .int 0, .int 0, .int 0, .int 0, .ref h9, .ref h10, .ref h11, .ref h12, .ref h13, .ref h14, .ref h15, .int 0])), (h1, .inl (cI, 12, .inl (fun _ => 0)))] H := hP
                            have hD : va_D A [(h0, .inr (12, [.int 9, .int 1, .ref h1, .ref h2, .ref h3, .ref h4, .ref h5, .ref h6, .ref h7, .ref h8, .int 0, .int 0, .int 0, .int 0, .int 0, .int 0, .ref h9, .ref h10, .ref h11, .ref h12, .ref h13, .ref h14, .ref h15, .int 0])), (h1, .inl (cI, 12, .inl (fun _ => 0)))] := hD
                            refine lv_iinc (v := 9) (lv' := [(2, .int 9), (0, .ref h0), (1, .int x0)]) hx hb dX12_points_54 hl (k := 0) rfl (by decide) (by decide) rfl (fun ls hl => ?_)
                            refine lv_goto (tgt := 29) hx hb dX12_points_57 (by decide) ?_
                            refine lv_iload_n hx hb dX12_points_29 rfl (lv_at hl 0 rfl) ?_
                            refine lv_iload_n hx hb dX12_points_30 rfl (lv_at hl 2 rfl) ?_
                            refine lv_icmp_ge (tgt := 60) hx hb dX12_points_31 (by decide) (fun c41 => ?_) (fun c41 => ?_)
                            · refine lv_aload_n hx hb dX12_points_60 rfl (lv_at hl 1 rfl) ?_
                              refine va_get (D := D) (ci := 12) (v := .int 9) (C := RX12) (T := TX12) (N := 24) hx hb hts hin12 hown hK hP 0 rfl rfl 0 (by decide) (hts (.fieldLink RX12 63 "MissedPointsModel" "many" "I") (by decide +kernel)) (fun _ h9 => h9) rfl dX12_points_61 ?_
                              have hP9 := hP.sub (ws' := []) [] rfl
                              have hD9 := hD.sub (ws' := []) [] (by decide) rfl
                              subst hAe
                              exact W.iret (v := 9) hx hb hr (fun t ht hW => ⟨⟨_, (), rfl, by rw [if_neg k26, if_neg k28, if_neg c33, if_neg c34, if_neg c35, if_neg c36, if_neg c37, if_neg c38, if_neg c39, if_neg c40, if_pos c41], by rw [ht]; exact hP9, hD9⟩, hS.F ht⟩) hS.2.2 dX12_points_64
                            · refine lv_aload_n hx hb dX12_points_34 rfl (lv_at hl 1 rfl) ?_
                              refine va_get (D := D) (ci := 12) (v := .ref h1) (C := RX12) (T := TX12) (N := 24) hx hb hts hin12 hown hK hP 0 rfl rfl 2 (by decide) (hts (.fieldLink RX12 13 "MissedPointsModel" "near" "[I") (by decide +kernel)) (fun _ h9 => h9) rfl dX12_points_35 ?_
                              refine lv_aload_n hx hb dX12_points_38 rfl (lv_at hl 1 rfl) ?_
                              refine va_get (D := D) (ci := 12) (v := .int 9) (C := RX12) (T := TX12) (N := 24) hx hb hts hin12 hown hK hP 0 rfl rfl 0 (by decide) (hts (.fieldLink RX12 63 "MissedPointsModel" "many" "I") (by decide +kernel)) (fun _ h9 => h9) rfl dX12_points_39 ?_
                              refine lv_iconst (v := 0) hx hb dX12_points_42 (by decide) ?_
                              refine lz_astc hx hb hK hP hD hS 1 0 rfl rfl (lz_vp (x := 9) (n := 12) (by decide) (by decide)) dX12_points_43 (fun H locs hP hD hS => ?_)
                              refine lv_aload_n hx hb dX12_points_44 rfl (lv_at hl 1 rfl) ?_
                              refine lv_dup hx hb dX12_points_45 rfl ?_
                              refine va_get (D := D) (ci := 12) (v := .int 9) (C := RX12) (T := TX12) (N := 24) hx hb hts hin12 hown hK hP 0 rfl rfl 0 (by decide) (hts (.fieldLink RX12 63 "MissedPointsModel" "many" "I") (by decide +kernel)) (fun _ h9 => h9) rfl dX12_points_46 ?_
                              refine lv_iconst (v := 1) hx hb dX12_points_49 (by decide) ?_
                              refine lv_iadd hx hb dX12_points_50 ?_
                              refine lz_top (y := 10) (by decide) ?_
                              refine va_put (D := D) (ci := 12) (v := .int 10) (ty := .int) (C := RX12) (T := TX12) (N := 24) hx hb hts hin12 tyX12 tyX12_ok nmX12 hown hK hP hD hS 0 rfl rfl 0 (by decide) (hts (.fieldLink RX12 63 "MissedPointsModel" "many" "I") (by decide +kernel)) (fun _ h9 => h9) rfl (by decide +kernel) rfl rfl (Nat.le_of_ble_eq_true rfl) dX12_points_51 (fun H locs hP hD hS => ?_)
                              have hP : va_P D cls [(h0, .inr (12, [.int 10, .int 1, .ref h1, .ref h2, .ref h3, .ref h4, .ref h5, .ref h6, .ref h7, .ref h8, .int 0, .int 0, .int 0, .int 0, .int 0, .int 0, .ref h9, .ref h10, .ref h11, .ref h12, .ref h13, .ref h14, .ref h15, .int 0])), (h1, .inl (cI, 12, .inl (fun _ => 0)))] H := hP
                              have hD : va_D A [(h0, .inr (12, [.int 10, .int 1, .ref h1, .ref h2, .ref h3, .ref h4, .ref h5, .ref h6, .ref h7, .ref h8, .int 0, .int 0, .int 0, .int 0, .int 0, .int 0, .ref h9, .ref h10, .ref h11, .ref h12, .ref h13, .ref h14, .ref h15, .int 0])), (h1, .inl (cI, 12, .inl (fun _ => 0)))] := hD
                              refine lv_iinc (v := 10) (lv' := [(2, .int 10), (0, .ref h0), (1, .int x0)]) hx hb dX12_points_54 hl (k := 0) rfl (by decide) (by decide) rfl (fun ls hl => ?_)
                              refine lv_goto (tgt := 29) hx hb dX12_points_57 (by decide) ?_
                              refine lv_iload_n hx hb dX12_points_29 rfl (lv_at hl 0 rfl) ?_
                              refine lv_iload_n hx hb dX12_points_30 rfl (lv_at hl 2 rfl) ?_
                              refine lv_icmp_ge (tgt := 60) hx hb dX12_points_31 (by decide) (fun c42 => ?_) (fun c42 => ?_)
                              · refine lv_aload_n hx hb dX12_points_60 rfl (lv_at hl 1 rfl) ?_
                                refine va_get (D := D) (ci := 12) (v := .int 10) (C := RX12) (T := TX12) (N := 24) hx hb hts hin12 hown hK hP 0 rfl rfl 0 (by decide) (hts (.fieldLink RX12 63 "MissedPointsModel" "many" "I") (by decide +kernel)) (fun _ h9 => h9) rfl dX12_points_61 ?_
                                have hP9 := hP.sub (ws' := []) [] rfl
                                have hD9 := hD.sub (ws' := []) [] (by decide) rfl
                                subst hAe
                                exact W.iret (v := 10) hx hb hr (fun t ht hW => ⟨⟨_, (), rfl, by rw [if_neg k26, if_neg k28, if_neg c33, if_neg c34, if_neg c35, if_neg c36, if_neg c37, if_neg c38, if_neg c39, if_neg c40, if_neg c41, if_pos c42], by rw [ht]; exact hP9, hD9⟩, hS.F ht⟩) hS.2.2 dX12_points_64
                              · refine lv_aload_n hx hb dX12_points_34 rfl (lv_at hl 1 rfl) ?_
                                refine va_get (D := D) (ci := 12) (v := .ref h1) (C := RX12) (T := TX12) (N := 24) hx hb hts hin12 hown hK hP 0 rfl rfl 2 (by decide) (hts (.fieldLink RX12 13 "MissedPointsModel" "near" "[I") (by decide +kernel)) (fun _ h9 => h9) rfl dX12_points_35 ?_
                                refine lv_aload_n hx hb dX12_points_38 rfl (lv_at hl 1 rfl) ?_
                                refine va_get (D := D) (ci := 12) (v := .int 10) (C := RX12) (T := TX12) (N := 24) hx hb hts hin12 hown hK hP 0 rfl rfl 0 (by decide) (hts (.fieldLink RX12 63 "MissedPointsModel" "many" "I") (by decide +kernel)) (fun _ h9 => h9) rfl dX12_points_39 ?_
                                refine lv_iconst (v := 0) hx hb dX12_points_42 (by decide) ?_
                                refine lz_astc hx hb hK hP hD hS 1 0 rfl rfl (lz_vp (x := 10) (n := 12) (by decide) (by decide)) dX12_points_43 (fun H locs hP hD hS => ?_)
                                refine lv_aload_n hx hb dX12_points_44 rfl (lv_at hl 1 rfl) ?_
                                refine lv_dup hx hb dX12_points_45 rfl ?_
                                refine va_get (D := D) (ci := 12) (v := .int 10) (C := RX12) (T := TX12) (N := 24) hx hb hts hin12 hown hK hP 0 rfl rfl 0 (by decide) (hts (.fieldLink RX12 63 "MissedPointsModel" "many" "I") (by decide +kernel)) (fun _ h9 => h9) rfl dX12_points_46 ?_
                                refine lv_iconst (v := 1) hx hb dX12_points_49 (by decide) ?_
                                refine lv_iadd hx hb dX12_points_50 ?_
                                refine lz_top (y := 11) (by decide) ?_
                                refine va_put (D := D) (ci := 12) (v := .int 11) (ty := .int) (C := RX12) (T := TX12) (N := 24) hx hb hts hin12 tyX12 tyX12_ok nmX12 hown hK hP hD hS 0 rfl rfl 0 (by decide) (hts (.fieldLink RX12 63 "MissedPointsModel" "many" "I") (by decide +kernel)) (fun _ h9 => h9) rfl (by decide +kernel) rfl rfl (Nat.le_of_ble_eq_true rfl) dX12_points_51 (fun H locs hP hD hS => ?_)
                                have hP : va_P D cls [(h0, .inr (12, [.int 11, .int 1, .ref h1, .ref h2, .ref h3, .ref h4, .ref h5, .ref h6, .ref h7, .ref h8, .int 0, .int 0, .int 0, .int 0, .int 0, .int 0, .ref h9, .ref h10, .ref h11, .ref h12, .ref h13, .ref h14, .ref h15, .int 0])), (h1, .inl (cI, 12, .inl (fun _ => 0)))] H := hP
                                have hD : va_D A [(h0, .inr (12, [.int 11, .int 1, .ref h1, .ref h2, .ref h3, .ref h4, .ref h5, .ref h6, .ref h7, .ref h8, .int 0, .int 0, .int 0, .int 0, .int 0, .int 0, .ref h9, .ref h10, .ref h11, .ref h12, .ref h13, .ref h14, .ref h15, .int 0])), (h1, .inl (cI, 12, .inl (fun _ => 0)))] := hD
                                refine lv_iinc (v := 11) (lv' := [(2, .int 11), (0, .ref h0), (1, .int x0)]) hx hb dX12_points_54 hl (k := 0) rfl (by decide) (by decide) rfl (fun ls hl => ?_)
                                refine lv_goto (tgt := 29) hx hb dX12_points_57 (by decide) ?_
                                refine lv_iload_n hx hb dX12_points_29 rfl (lv_at hl 0 rfl) ?_
                                refine lv_iload_n hx hb dX12_points_30 rfl (lv_at hl 2 rfl) ?_
                                refine lv_icmp_ge (tgt := 60) hx hb dX12_points_31 (by decide) (fun c43 => ?_) (fun c43 => ?_)
                                · refine lv_aload_n hx hb dX12_points_60 rfl (lv_at hl 1 rfl) ?_
                                  refine va_get (D := D) (ci := 12) (v := .int 11) (C := RX12) (T := TX12) (N := 24) hx hb hts hin12 hown hK hP 0 rfl rfl 0 (by decide) (hts (.fieldLink RX12 63 "MissedPointsModel" "many" "I") (by decide +kernel)) (fun _ h9 => h9) rfl dX12_points_61 ?_
                                  have hP9 := hP.sub (ws' := []) [] rfl
                                  have hD9 := hD.sub (ws' := []) [] (by decide) rfl
                                  subst hAe
                                  exact W.iret (v := 11) hx hb hr (fun t ht hW => ⟨⟨_, (), rfl, by rw [if_neg k26, if_neg k28, if_neg c33, if_neg c34, if_neg c35, if_neg c36, if_neg c37, if_neg c38, if_neg c39, if_neg c40, if_neg c41, if_neg c42, if_pos c43], by rw [ht]; exact hP9, hD9⟩, hS.F ht⟩) hS.2.2 dX12_points_64
                                · refine lv_aload_n hx hb dX12_points_34 rfl (lv_at hl 1 rfl) ?_
                                  refine va_get (D := D) (ci := 12) (v := .ref h1) (C := RX12) (T := TX12) (N := 24) hx hb hts hin12 hown hK hP 0 rfl rfl 2 (by decide) (hts (.fieldLink RX12 13 "MissedPointsModel" "near" "[I") (by decide +kernel)) (fun _ h9 => h9) rfl dX12_points_35 ?_
                                  refine lv_aload_n hx hb dX12_points_38 rfl (lv_at hl 1 rfl) ?_
                                  refine va_get (D := D) (ci := 12) (v := .int 11) (C := RX12) (T := TX12) (N := 24) hx hb hts hin12 hown hK hP 0 rfl rfl 0 (by decide) (hts (.fieldLink RX12 63 "MissedPointsModel" "many" "I") (by decide +kernel)) (fun _ h9 => h9) rfl dX12_points_39 ?_
                                  refine lv_iconst (v := 0) hx hb dX12_points_42 (by decide) ?_
                                  refine lz_astc hx hb hK hP hD hS 1 0 rfl rfl (lz_vp (x := 11) (n := 12) (by decide) (by decide)) dX12_points_43 (fun H locs hP hD hS => ?_)
                                  refine lv_aload_n hx hb dX12_points_44 rfl (lv_at hl 1 rfl) ?_
                                  refine lv_dup hx hb dX12_points_45 rfl ?_
                                  refine va_get (D := D) (ci := 12) (v := .int 11) (C := RX12) (T := TX12) (N := 24) hx hb hts hin12 hown hK hP 0 rfl rfl 0 (by decide) (hts (.fieldLink RX12 63 "MissedPointsModel" "many" "I") (by decide +kernel)) (fun _ h9 => h9) rfl dX12_points_46 ?_
                                  refine lv_iconst (v := 1) hx hb dX12_points_49 (by decide) ?_
                                  refine lv_iadd hx hb dX12_points_50 ?_
                                  refine lz_top (y := 12) (by decide) ?_
                                  refine va_put (D := D) (ci := 12) (v := .int 12) (ty := .int) (C := RX12) (T := TX12) (N := 24) hx hb hts hin12 tyX12 tyX12_ok nmX12 hown hK hP hD hS 0 rfl rfl 0 (by decide) (hts (.fieldLink RX12 63 "MissedPointsModel" "many" "I") (by decide +kernel)) (fun _ h9 => h9) rfl (by decide +kernel) rfl rfl (Nat.le_of_ble_eq_true rfl) dX12_points_51 (fun H locs hP hD hS => ?_)
                                  have hP : va_P D cls [(h0, .inr (12, [.int 12, .int 1, .ref h1, .ref h2, .ref h3, .ref h4, .ref h5, .ref h6, .ref h7, .ref h8, .int 0, .int 0, .int 0, .int 0, .int 0, .int 0, .ref h9, .ref h10, .ref h11, .ref h12, .ref h13, .ref h14, .ref h15, .int 0])), (h1, .inl (cI, 12, .inl (fun _ => 0)))] H := hP
                                  have hD : va_D A [(h0, .inr (12, [.int 12, .int 1, .ref h1, .ref h2, .ref h3, .ref h4, .ref h5, .ref h6, .ref h7, .ref h8, .int 0, .int 0, .int 0, .int 0, .int 0, .int 0, .ref h9, .ref h10, .ref h11, .ref h12, .ref h13, .ref h14, .ref h15, .int 0])), (h1, .inl (cI, 12, .inl (fun _ => 0)))] := hD
                                  refine lv_iinc (v := 12) (lv' := [(2, .int 12), (0, .ref h0), (1, .int x0)]) hx hb dX12_points_54 hl (k := 0) rfl (by decide) (by decide) rfl (fun ls hl => ?_)
                                  refine lv_goto (tgt := 29) hx hb dX12_points_57 (by decide) ?_
                                  refine lv_iload_n hx hb dX12_points_29 rfl (lv_at hl 0 rfl) ?_
                                  refine lv_iload_n hx hb dX12_points_30 rfl (lv_at hl 2 rfl) ?_
                                  refine lv_icmp_ge (tgt := 60) hx hb dX12_points_31 (by decide) (fun c44 => ?_) (fun c44 => ?_)
                                  · refine lv_aload_n hx hb dX12_points_60 rfl (lv_at hl 1 rfl) ?_
                                    refine va_get (D := D) (ci := 12) (v := .int 12) (C := RX12) (T := TX12) (N := 24) hx hb hts hin12 hown hK hP 0 rfl rfl 0 (by decide) (hts (.fieldLink RX12 63 "MissedPointsModel" "many" "I") (by decide +kernel)) (fun _ h9 => h9) rfl dX12_points_61 ?_
                                    have hP9 := hP.sub (ws' := []) [] rfl
                                    have hD9 := hD.sub (ws' := []) [] (by decide) rfl
                                    subst hAe
                                    exact W.iret (v := 12) hx hb hr (fun t ht hW => ⟨⟨_, (), rfl, by rw [if_neg k26, if_neg k28, if_neg c33, if_neg c34, if_neg c35, if_neg c36, if_neg c37, if_neg c38, if_neg c39, if_neg c40, if_neg c41, if_neg c42, if_neg c43], by rw [ht]; exact hP9, hD9⟩, hS.F ht⟩) hS.2.2 dX12_points_64
                                  · exact absurd (show x0 ≤ 12 from by have zf1 := mt (lz_lt x0 (1 : Int32)).mpr k26; have zf2 := mt (lz_lt (12 : Int32) x0).mpr k28; have zf3 := mt (lz_le x0 (1 : Int32)).mpr c33; have zf4 := mt (lz_le x0 (2 : Int32)).mpr c34; have zf5 := mt (lz_le x0 (3 : Int32)).mpr c35; have zf6 := mt (lz_le x0 (4 : Int32)).mpr c36; have zf7 := mt (lz_le x0 (5 : Int32)).mpr c37; have zf8 := mt (lz_le x0 (6 : Int32)).mpr c38; have zf9 := mt (lz_le x0 (7 : Int32)).mpr c39; have zf10 := mt (lz_le x0 (8 : Int32)).mpr c40; have zf11 := mt (lz_le x0 (9 : Int32)).mpr c41; have zf12 := mt (lz_le x0 (10 : Int32)).mpr c42; have zf13 := mt (lz_le x0 (11 : Int32)).mpr c43; have zn0 : (1 : Int32).toInt = 1 := (by decide); have zn1 : (2 : Int32).toInt = 2 := (by decide); have zn2 : (3 : Int32).toInt = 3 := (by decide); have zn3 : (4 : Int32).toInt = 4 := (by decide); have zn4 : (5 : Int32).toInt = 5 := (by decide); have zn5 : (6 : Int32).toInt = 6 := (by decide); have zn6 : (7 : Int32).toInt = 7 := (by decide); have zn7 : (8 : Int32).toInt = 8 := (by decide); have zn8 : (9 : Int32).toInt = 9 := (by decide); have zn9 : (10 : Int32).toInt = 10 := (by decide); have zn10 : (11 : Int32).toInt = 11 := (by decide); have zn11 : (12 : Int32).toInt = 12 := (by decide); rw [lz_le]; omega) c44
        · exact absurd (show x0 ≤ 12 from by have zf1 := mt (lz_lt x0 (1 : Int32)).mpr k26; have zf2 := mt (lz_lt (12 : Int32) x0).mpr k28; have zn0 : (1 : Int32).toInt = 1 := (by decide); have zn1 : (12 : Int32).toInt = 12 := (by decide); rw [lz_le]; omega) c31
      · exact absurd c30 (by decide)
set_option maxHeartbeats 4000000 in
set_option maxRecDepth 100000 in
theorem c_X12_in_1 (l : Launch) (D : va_G) (cI cS : ClassId) (x0 : Int32) : Met l yX12_in wsX12_in ({ frames := 0, cells := 0, slots := 0, locals := 0 }) (PS D cI cS [] [.int x0, .int 0, .int (-1)]) (vp_Si (fun r => r = (0 : Int32))) 0 0 (fun _ => False) := by
  refine Met.ofW (cc := cX12_in) (maxL := 3) (ret := (some .boolean)) (by decide) rfl ?_
  intro p e s m args below meth c s₁ B hml hv
  obtain ⟨rfl, hP, hKK⟩ := hv
  have hx := B.exec
  have hb := B.bytes
  have hr := B.returns
  have hts := atoms_spec (ws := wsX12_in) B.pre
  have hown : s.vm.findClass RX12 = some m.cls := findClass_of_methodNamed B.named
  have hlocks := B.notSynchronized
  have hK := hKK.1
  have hN := hKK.2
  have hl := lv_entry ([.int x0, .int 0, .int (-1)]) (n := 3) (Nat.le_of_ble_eq_true rfl)
  rw [lg_entry_eq]
  generalize (lg_sl ([.int x0, .int 0, .int (-1)]) ++ List.replicate (3 - (lg_sl ([.int x0, .int 0, .int (-1)])).length) Slot.unset).toArray = ls at hl ⊢
  have hl : lv_has ls 3 [(0, .int x0), (1, .int 0), (2, .int (-1))] := hl
  refine lv_iload_n hx hb dX12_in_0 rfl (lv_at hl 0 rfl) ?_
  refine lv_iload_n hx hb dX12_in_1 rfl (lv_at hl 1 rfl) ?_
  refine lv_icmp_lt (tgt := 14) hx hb dX12_in_2 (by decide) (fun c47 => ?_) (fun c47 => ?_)
  · refine lv_iconst (v := 0) hx hb dX12_in_14 (by decide) ?_
    exact W.zret (v := 0) hx hb hr (by decide) (fun t ht hW => ⟨_, rfl, rfl, ht⟩) (fun q hq => absurd hq List.not_mem_nil) dX12_in_15
  · refine lv_iload_n hx hb dX12_in_5 rfl (lv_at hl 0 rfl) ?_
    refine lv_iload_n hx hb dX12_in_6 rfl (lv_at hl 2 rfl) ?_
    refine lv_icmp_gt (tgt := 14) hx hb dX12_in_7 (by decide) (fun c48 => ?_) (fun c48 => ?_)
    · refine lv_iconst (v := 0) hx hb dX12_in_14 (by decide) ?_
      exact W.zret (v := 0) hx hb hr (by decide) (fun t ht hW => ⟨_, rfl, rfl, ht⟩) (fun q hq => absurd hq List.not_mem_nil) dX12_in_15
    · exact absurd (show ((-1) : Int32) < x0 from by have zf1 := mt (lz_lt x0 (0 : Int32)).mpr c47; have zn0 : ((-1) : Int32).toInt = -1 := (by decide); have zn1 : (0 : Int32).toInt = 0 := (by decide); rw [lz_lt]; omega) c48
set_option maxHeartbeats 4000000 in
set_option maxRecDepth 100000 in
theorem c_X12_isPoint_0 (l : Launch) (D : va_G) (cI cS : ClassId) (h0 h1 h2 h3 h4 h5 h6 h7 h8 h9 h10 h11 h12 h13 h14 h15 : Nat) (x0 : Int32) : Met l yX12_isPoint wsX12_isPoint ({ frames := 1, cells := 0, slots := 0, locals := 40 }) (PS D cI cS [(h0, .inr (12, [.int 0, .int 1, .ref h1, .ref h2, .ref h3, .ref h4, .ref h5, .ref h6, .ref h7, .ref h8, .int 0, .int 0, .int 0, .int 0, .int 0, .int 0, .ref h9, .ref h10, .ref h11, .ref h12, .ref h13, .ref h14, .ref h15, .int 0]))] [.ref h0, .int x0]) (vp_Si (fun r => r = (0 : Int32))) 0 0 (fun _ => False) := by
  refine Met.ofW (cc := cX12_isPoint) (maxL := 2) (ret := (some .boolean)) (by decide) rfl ?_
  intro p e s m args below meth c s₁ B hml hv
  obtain ⟨rfl, hP, hKK⟩ := hv
  have hx := B.exec
  have hb := B.bytes
  have hr := B.returns
  have hts := atoms_spec (ws := wsX12_isPoint) B.pre
  have hown : s.vm.findClass RX12 = some m.cls := findClass_of_methodNamed B.named
  have hlocks := B.notSynchronized
  have hK := hKK.1
  have hN := hKK.2
  have hin12 : ∀ w ∈ wsX120, w ∈ wsX12_isPoint := by decide +kernel
  have hl := lv_entry ([.ref h0, .int x0]) (n := 2) (Nat.le_of_ble_eq_true rfl)
  rw [lg_entry_eq]
  generalize (lg_sl ([.ref h0, .int x0]) ++ List.replicate (2 - (lg_sl ([.ref h0, .int x0])).length) Slot.unset).toArray = ls at hl ⊢
  have hl : lv_has ls 2 [(0, .ref h0), (1, .int x0)] := hl
  refine lv_iload_n hx hb dX12_isPoint_0 rfl (lv_at hl 1 rfl) ?_
  refine lv_iconst (v := 0) hx hb dX12_isPoint_1 (by decide) ?_
  refine lv_aload_n hx hb dX12_isPoint_2 rfl (lv_at hl 0 rfl) ?_
  refine va_get (D := D) (ci := 12) (v := .int 0) (C := RX12) (T := TX12) (N := 24) hx hb hts hin12 hown hK hP 0 rfl rfl 0 (by decide) (hts (.fieldLink RX12 63 "MissedPointsModel" "many" "I") (by decide +kernel)) (fun _ h9 => h9) rfl dX12_isPoint_3 ?_
  refine lv_iconst (v := 1) hx hb dX12_isPoint_6 (by decide) ?_
  refine lv_isub hx hb dX12_isPoint_7 ?_
  refine lz_top (y := (-1)) (by decide) ?_
  have hPc := hP.sub (ws' := []) [] rfl
  refine lz_ss (As := [.int x0, .int 0, .int (-1)]) (rest := []) ⟨hx, hb, hml, hown, hts⟩ (c_X12_in_1 l D cI cS x0) hKK hPc (va_cwS 3 hts gX12_isPoint_X12_in rfl rfl rfl (by decide +kernel) ⟨Nat.le_of_ble_eq_true rfl, Nat.le_of_ble_eq_true rfl⟩) rfl hl.1 rfl (Nat.le_of_ble_eq_true rfl) dX12_isPoint_8 ⟨Nat.le_of_ble_eq_true rfl, Nat.le_of_ble_eq_true rfl⟩ (fun r50 hw => ?_)
  subst hw
  exact W.zret (v := 0) hx hb hr (by decide) (fun t ht hW => ⟨_, rfl, rfl, ht⟩) (fun q hq => absurd hq List.not_mem_nil) dX12_isPoint_11
set_option maxHeartbeats 4000000 in
set_option maxRecDepth 100000 in
theorem c_X12_areTwo_0 (l : Launch) (D : va_G) (cI cS : ClassId) (h0 h1 h2 h3 h4 h5 h6 h7 h8 h9 h10 h11 h12 h13 h14 h15 : Nat) (x0 x1 : Int32) : Met l yX12_areTwo wsX12_areTwo ({ frames := 2, cells := 0, slots := 0, locals := 80 }) (PS D cI cS [(h0, .inr (12, [.int 0, .int 1, .ref h1, .ref h2, .ref h3, .ref h4, .ref h5, .ref h6, .ref h7, .ref h8, .int 0, .int 0, .int 0, .int 0, .int 0, .int 0, .ref h9, .ref h10, .ref h11, .ref h12, .ref h13, .ref h14, .ref h15, .int 0]))] [.ref h0, .int x0, .int x1]) (vp_Si (fun r => r = (0 : Int32))) 0 0 (fun _ => False) := by
  refine Met.ofW (cc := cX12_areTwo) (maxL := 3) (ret := (some .boolean)) (by decide) rfl ?_
  intro p e s m args below meth c s₁ B hml hv
  obtain ⟨rfl, hP, hKK⟩ := hv
  have hx := B.exec
  have hb := B.bytes
  have hr := B.returns
  have hts := atoms_spec (ws := wsX12_areTwo) B.pre
  have hown : s.vm.findClass RX12 = some m.cls := findClass_of_methodNamed B.named
  have hlocks := B.notSynchronized
  have hK := hKK.1
  have hN := hKK.2
  have hl := lv_entry ([.ref h0, .int x0, .int x1]) (n := 3) (Nat.le_of_ble_eq_true rfl)
  rw [lg_entry_eq]
  generalize (lg_sl ([.ref h0, .int x0, .int x1]) ++ List.replicate (3 - (lg_sl ([.ref h0, .int x0, .int x1])).length) Slot.unset).toArray = ls at hl ⊢
  have hl : lv_has ls 3 [(0, .ref h0), (1, .int x0), (2, .int x1)] := hl
  refine lv_aload_n hx hb dX12_areTwo_0 rfl (lv_at hl 0 rfl) ?_
  refine lv_iload_n hx hb dX12_areTwo_1 rfl (lv_at hl 1 rfl) ?_
  have hPc := hP.sub (ws' := [(h0, .inr (12, [.int 0, .int 1, .ref h1, .ref h2, .ref h3, .ref h4, .ref h5, .ref h6, .ref h7, .ref h8, .int 0, .int 0, .int 0, .int 0, .int 0, .int 0, .ref h9, .ref h10, .ref h11, .ref h12, .ref h13, .ref h14, .ref h15, .int 0]))]) [0] rfl
  refine lz_sv (As := [.int x0]) (rest := []) ⟨hx, hb, hml, hown, hts⟩ (c_X12_isPoint_0 l D cI cS h0 h1 h2 h3 h4 h5 h6 h7 h8 h9 h10 h11 h12 h13 h14 h15 x0) hKK hPc (ci := 12) rfl rfl (cwV 1 hts gX12_areTwo_X12_isPoint rfl rfl rfl (by decide +kernel) ⟨Nat.le_of_ble_eq_true rfl, Nat.le_of_ble_eq_true rfl⟩) rfl hl.1 rfl (Nat.le_of_ble_eq_true rfl) dX12_areTwo_2 ⟨Nat.le_of_ble_eq_true rfl, Nat.le_of_ble_eq_true rfl⟩ (fun r53 hw => ?_)
  subst hw
  refine lv_if_eq (tgt := 25) hx hb dX12_areTwo_5 (by decide) (fun c54 => ?_) (fun c54 => ?_)
  · refine lv_iconst (v := 0) hx hb dX12_areTwo_25 (by decide) ?_
    exact W.zret (v := 0) hx hb hr (by decide) (fun t ht hW => ⟨_, rfl, rfl, ht⟩) (fun q hq => absurd hq List.not_mem_nil) dX12_areTwo_26
  · exact absurd c54 (by decide)
set_option maxHeartbeats 4000000 in
set_option maxRecDepth 100000 in
theorem c_X12_line_0 (l : Launch) (D : va_G) (cI cS : ClassId) (h0 h1 h2 h3 h4 h5 h6 h7 h8 h9 h10 h11 h12 h13 h14 h15 : Nat) (x0 x1 x2 : Int32) : Met l yX12_line wsX12_line ({ frames := 3, cells := 0, slots := 0, locals := 120 }) (PS D cI cS [(h0, .inr (12, [.int 0, .int 1, .ref h1, .ref h2, .ref h3, .ref h4, .ref h5, .ref h6, .ref h7, .ref h8, .int 0, .int 0, .int 0, .int 0, .int 0, .int 0, .ref h9, .ref h10, .ref h11, .ref h12, .ref h13, .ref h14, .ref h15, .int 0]))] [.ref h0, .int x0, .int x1, .int x2]) (vp_Si (fun r => r = ((-2) : Int32))) 0 0 (fun _ => False) := by
  refine Met.ofW (cc := cX12_line) (maxL := 5) (ret := (some .int)) (by decide) rfl ?_
  intro p e s m args below meth c s₁ B hml hv
  obtain ⟨rfl, hP, hKK⟩ := hv
  have hx := B.exec
  have hb := B.bytes
  have hr := B.returns
  have hts := atoms_spec (ws := wsX12_line) B.pre
  have hown : s.vm.findClass RX12 = some m.cls := findClass_of_methodNamed B.named
  have hlocks := B.notSynchronized
  have hK := hKK.1
  have hN := hKK.2
  have hl := lv_entry ([.ref h0, .int x0, .int x1, .int x2]) (n := 5) (Nat.le_of_ble_eq_true rfl)
  rw [lg_entry_eq]
  generalize (lg_sl ([.ref h0, .int x0, .int x1, .int x2]) ++ List.replicate (5 - (lg_sl ([.ref h0, .int x0, .int x1, .int x2])).length) Slot.unset).toArray = ls at hl ⊢
  have hl : lv_has ls 5 [(0, .ref h0), (1, .int x0), (2, .int x1), (3, .int x2)] := hl
  refine lv_aload_n hx hb dX12_line_0 rfl (lv_at hl 0 rfl) ?_
  refine lv_iload_n hx hb dX12_line_1 rfl (lv_at hl 1 rfl) ?_
  refine lv_iload_n hx hb dX12_line_2 rfl (lv_at hl 2 rfl) ?_
  have hPc := hP.sub (ws' := [(h0, .inr (12, [.int 0, .int 1, .ref h1, .ref h2, .ref h3, .ref h4, .ref h5, .ref h6, .ref h7, .ref h8, .int 0, .int 0, .int 0, .int 0, .int 0, .int 0, .ref h9, .ref h10, .ref h11, .ref h12, .ref h13, .ref h14, .ref h15, .int 0]))]) [0] rfl
  refine lz_sv (As := [.int x0, .int x1]) (rest := []) ⟨hx, hb, hml, hown, hts⟩ (c_X12_areTwo_0 l D cI cS h0 h1 h2 h3 h4 h5 h6 h7 h8 h9 h10 h11 h12 h13 h14 h15 x0 x1) hKK hPc (ci := 12) rfl rfl (cwV 2 hts gX12_line_X12_areTwo rfl rfl rfl (by decide +kernel) ⟨Nat.le_of_ble_eq_true rfl, Nat.le_of_ble_eq_true rfl⟩) rfl hl.1 rfl (Nat.le_of_ble_eq_true rfl) dX12_line_3 ⟨Nat.le_of_ble_eq_true rfl, Nat.le_of_ble_eq_true rfl⟩ (fun r57 hw => ?_)
  subst hw
  refine lv_if_eq (tgt := 18) hx hb dX12_line_6 (by decide) (fun c58 => ?_) (fun c58 => ?_)
  · refine lv_bipush (v := (-2)) hx hb dX12_line_18 (by decide) ?_
    exact W.iret (v := (-2)) hx hb hr (fun t ht hW => ⟨_, rfl, rfl, ht⟩) (fun q hq => absurd hq List.not_mem_nil) dX12_line_20
  · exact absurd c58 (by decide)
set_option maxHeartbeats 4000000 in
set_option maxRecDepth 100000 in
theorem c_X12_next_0 (l : Launch) (D : va_G) (cI cS : ClassId) (h0 h1 h2 h3 h4 h5 h6 h7 h8 h9 h10 h11 h12 h13 h14 h15 : Nat) (x0 : Int32) : Met l yX12_next wsX12_next ({ frames := 2, cells := 0, slots := 0, locals := 80 }) (PS D cI cS [(h0, .inr (12, [.int 0, .int 1, .ref h1, .ref h2, .ref h3, .ref h4, .ref h5, .ref h6, .ref h7, .ref h8, .int 0, .int 0, .int 0, .int 0, .int 0, .int 0, .ref h9, .ref h10, .ref h11, .ref h12, .ref h13, .ref h14, .ref h15, .int 0]))] [.ref h0, .int x0]) (vp_Si (fun r => r = ((-2) : Int32))) 0 0 (fun _ => False) := by
  refine Met.ofW (cc := cX12_next) (maxL := 2) (ret := (some .int)) (by decide) rfl ?_
  intro p e s m args below meth c s₁ B hml hv
  obtain ⟨rfl, hP, hKK⟩ := hv
  have hx := B.exec
  have hb := B.bytes
  have hr := B.returns
  have hts := atoms_spec (ws := wsX12_next) B.pre
  have hown : s.vm.findClass RX12 = some m.cls := findClass_of_methodNamed B.named
  have hlocks := B.notSynchronized
  have hK := hKK.1
  have hN := hKK.2
  have hl := lv_entry ([.ref h0, .int x0]) (n := 2) (Nat.le_of_ble_eq_true rfl)
  rw [lg_entry_eq]
  generalize (lg_sl ([.ref h0, .int x0]) ++ List.replicate (2 - (lg_sl ([.ref h0, .int x0])).length) Slot.unset).toArray = ls at hl ⊢
  have hl : lv_has ls 2 [(0, .ref h0), (1, .int x0)] := hl
  refine lv_aload_n hx hb dX12_next_0 rfl (lv_at hl 0 rfl) ?_
  refine lv_iload_n hx hb dX12_next_1 rfl (lv_at hl 1 rfl) ?_
  have hPc := hP.sub (ws' := [(h0, .inr (12, [.int 0, .int 1, .ref h1, .ref h2, .ref h3, .ref h4, .ref h5, .ref h6, .ref h7, .ref h8, .int 0, .int 0, .int 0, .int 0, .int 0, .int 0, .ref h9, .ref h10, .ref h11, .ref h12, .ref h13, .ref h14, .ref h15, .int 0]))]) [0] rfl
  refine lz_sv (As := [.int x0]) (rest := []) ⟨hx, hb, hml, hown, hts⟩ (c_X12_isPoint_0 l D cI cS h0 h1 h2 h3 h4 h5 h6 h7 h8 h9 h10 h11 h12 h13 h14 h15 x0) hKK hPc (ci := 12) rfl rfl (cwV 1 hts gX12_next_X12_isPoint rfl rfl rfl (by decide +kernel) ⟨Nat.le_of_ble_eq_true rfl, Nat.le_of_ble_eq_true rfl⟩) rfl hl.1 rfl (Nat.le_of_ble_eq_true rfl) dX12_next_2 ⟨Nat.le_of_ble_eq_true rfl, Nat.le_of_ble_eq_true rfl⟩ (fun r61 hw => ?_)
  subst hw
  refine lv_if_eq (tgt := 17) hx hb dX12_next_5 (by decide) (fun c62 => ?_) (fun c62 => ?_)
  · refine lv_bipush (v := (-2)) hx hb dX12_next_17 (by decide) ?_
    exact W.iret (v := (-2)) hx hb hr (fun t ht hW => ⟨_, rfl, rfl, ht⟩) (fun q hq => absurd hq List.not_mem_nil) dX12_next_19
  · exact absurd c62 (by decide)
set_option maxHeartbeats 4000000 in
set_option maxRecDepth 100000 in
theorem c_X12_lines_0 (l : Launch) (D : va_G) (cI cS : ClassId) (h0 h1 h2 h3 h4 h5 h6 h7 h8 h9 h10 h11 h12 h13 h14 h15 : Nat) : Met l yX12_lines wsX12_lines ({ frames := 0, cells := 0, slots := 0, locals := 0 }) (PS D cI cS [(h0, .inr (12, [.int 0, .int 1, .ref h1, .ref h2, .ref h3, .ref h4, .ref h5, .ref h6, .ref h7, .ref h8, .int 0, .int 0, .int 0, .int 0, .int 0, .int 0, .ref h9, .ref h10, .ref h11, .ref h12, .ref h13, .ref h14, .ref h15, .int 0]))] [.ref h0]) (vp_Si (fun r => r = (0 : Int32))) 0 0 (fun _ => False) := by
  refine Met.ofW (cc := cX12_lines) (maxL := 3) (ret := (some .int)) (by decide) rfl ?_
  intro p e s m args below meth c s₁ B hml hv
  obtain ⟨rfl, hP, hKK⟩ := hv
  have hx := B.exec
  have hb := B.bytes
  have hr := B.returns
  have hts := atoms_spec (ws := wsX12_lines) B.pre
  have hown : s.vm.findClass RX12 = some m.cls := findClass_of_methodNamed B.named
  have hlocks := B.notSynchronized
  have hK := hKK.1
  have hN := hKK.2
  have hin12 : ∀ w ∈ wsX120, w ∈ wsX12_lines := by decide +kernel
  have hl := lv_entry ([.ref h0]) (n := 3) (Nat.le_of_ble_eq_true rfl)
  rw [lg_entry_eq]
  generalize (lg_sl ([.ref h0]) ++ List.replicate (3 - (lg_sl ([.ref h0])).length) Slot.unset).toArray = ls at hl ⊢
  have hl : lv_has ls 3 [(0, .ref h0)] := hl
  refine lv_iconst (v := 0) hx hb dX12_lines_0 (by decide) ?_
  refine lv_istore_n (lv' := [(1, .int 0), (0, .ref h0)]) hx hb dX12_lines_1 rfl hl (by decide) rfl (fun ls hl => ?_)
  refine lv_iconst (v := 0) hx hb dX12_lines_2 (by decide) ?_
  refine lv_istore_n (lv' := [(2, .int 0), (1, .int 0), (0, .ref h0)]) hx hb dX12_lines_3 rfl hl (by decide) rfl (fun ls hl => ?_)
  refine lv_iload_n hx hb dX12_lines_4 rfl (lv_at hl 0 rfl) ?_
  refine lv_aload_n hx hb dX12_lines_5 rfl (lv_at hl 2 rfl) ?_
  refine va_get (D := D) (ci := 12) (v := .int 0) (C := RX12) (T := TX12) (N := 24) hx hb hts hin12 hown hK hP 0 rfl rfl 0 (by decide) (hts (.fieldLink RX12 63 "MissedPointsModel" "many" "I") (by decide +kernel)) (fun _ h9 => h9) rfl dX12_lines_6 ?_
  refine lv_icmp_ge (tgt := 30) hx hb dX12_lines_9 (by decide) (fun c66 => ?_) (fun c66 => ?_)
  · refine lv_iload_n hx hb dX12_lines_30 rfl (lv_at hl 1 rfl) ?_
    refine lv_iconst (v := 2) hx hb dX12_lines_31 (by decide) ?_
    refine lv_idiv hx hb dX12_lines_32 (by decide) ?_
    refine lz_top (y := 0) (by decide) ?_
    exact W.iret (v := 0) hx hb hr (fun t ht hW => ⟨_, rfl, rfl, ht⟩) (fun q hq => absurd hq List.not_mem_nil) dX12_lines_33
  · exact absurd c66 (by decide)
set_option maxHeartbeats 4000000 in
set_option maxRecDepth 100000 in
theorem c_X12_all_0 (l : Launch) (D : va_G) (cI cS : ClassId) (h0 h1 h2 h3 h4 h5 h6 h7 h8 h9 h10 h11 h12 h13 h14 h15 : Nat) : Met l yX12_all wsX12_all ({ frames := 0, cells := 0, slots := 0, locals := 0 }) (PS D cI cS [(h0, .inr (12, [.int 0, .int 1, .ref h1, .ref h2, .ref h3, .ref h4, .ref h5, .ref h6, .ref h7, .ref h8, .int 0, .int 0, .int 0, .int 0, .int 0, .int 0, .ref h9, .ref h10, .ref h11, .ref h12, .ref h13, .ref h14, .ref h15, .int 0]))] [.ref h0]) (vp_Si (fun r => r = (0 : Int32))) 0 0 (fun _ => False) := by
  refine Met.ofW (cc := cX12_all) (maxL := 1) (ret := (some .int)) (by decide) rfl ?_
  intro p e s m args below meth c s₁ B hml hv
  obtain ⟨rfl, hP, hKK⟩ := hv
  have hx := B.exec
  have hb := B.bytes
  have hr := B.returns
  have hts := atoms_spec (ws := wsX12_all) B.pre
  have hown : s.vm.findClass RX12 = some m.cls := findClass_of_methodNamed B.named
  have hlocks := B.notSynchronized
  have hK := hKK.1
  have hN := hKK.2
  have hin12 : ∀ w ∈ wsX120, w ∈ wsX12_all := by decide +kernel
  have hl := lv_entry ([.ref h0]) (n := 1) (Nat.le_of_ble_eq_true rfl)
  rw [lg_entry_eq]
  generalize (lg_sl ([.ref h0]) ++ List.replicate (1 - (lg_sl ([.ref h0])).length) Slot.unset).toArray = ls at hl ⊢
  have hl : lv_has ls 1 [(0, .ref h0)] := hl
  refine lv_iconst (v := 1) hx hb dX12_all_0 (by decide) ?_
  refine lv_aload_n hx hb dX12_all_1 rfl (lv_at hl 0 rfl) ?_
  refine va_get (D := D) (ci := 12) (v := .int 0) (C := RX12) (T := TX12) (N := 24) hx hb hts hin12 hown hK hP 0 rfl rfl 0 (by decide) (hts (.fieldLink RX12 63 "MissedPointsModel" "many" "I") (by decide +kernel)) (fun _ h9 => h9) rfl dX12_all_2 ?_
  refine lv_ishl hx hb dX12_all_5 ?_
  refine lz_top (y := 1) (by decide) ?_
  refine lv_iconst (v := 1) hx hb dX12_all_6 (by decide) ?_
  refine lv_isub hx hb dX12_all_7 ?_
  refine lz_top (y := 0) (by decide) ?_
  exact W.iret (v := 0) hx hb hr (fun t ht hW => ⟨_, rfl, rfl, ht⟩) (fun q hq => absurd hq List.not_mem_nil) dX12_all_8
set_option maxHeartbeats 4000000 in
set_option maxRecDepth 100000 in
theorem c_X12_reckons_0 (l : Launch) (D : va_G) (cI cS : ClassId) (sz : Nat) (h0 h1 h2 h3 h4 h5 h6 h7 h8 h9 h10 h11 h12 h13 h14 h15 : Nat) : Met l yX12_reckons wsX12_reckons ({ frames := 1, cells := 0, slots := 0, locals := 40 }) (PQ D cI cS [(h0, .inr (12, [.int 0, .int 1, .ref h1, .ref h2, .ref h3, .ref h4, .ref h5, .ref h6, .ref h7, .ref h8, .int 0, .int 0, .int 0, .int 0, .int 0, .int 0, .ref h9, .ref h10, .ref h11, .ref h12, .ref h13, .ref h14, .ref h15, .int 0])), (h3, .inl (cI, 4096, .inl (fun _ => 0)))] sz [.ref h0]) (QV D [(h0, .inr (12, [.int 0, .int 1, .ref h1, .ref h2, .ref h3, .ref h4, .ref h5, .ref h6, .ref h7, .ref h8, .int 0, .int 0, .int 0, .int 0, .int 0, .int 0, .ref h9, .ref h10, .ref h11, .ref h12, .ref h13, .ref h14, .ref h15, .int 0])), (h3, .inl (cI, 4096, .inl (fun _ => 0)))] [(h0, .inr (12, [.int 0, .int 1, .ref h1, .ref h2, .ref h3, .ref h4, .ref h5, .ref h6, .ref h7, .ref h8, .int 0, .int 0, .int 0, .int 0, .int 0, .int 0, .ref h9, .ref h10, .ref h11, .ref h12, .ref h13, .ref h14, .ref h15, .int 0])), (h3, .inl (cI, 4096, .inl (upd (fun _ => 0) 0 1)))] sz) 0 0 (va_A [(h0, .inr (12, [.int 0, .int 1, .ref h1, .ref h2, .ref h3, .ref h4, .ref h5, .ref h6, .ref h7, .ref h8, .int 0, .int 0, .int 0, .int 0, .int 0, .int 0, .ref h9, .ref h10, .ref h11, .ref h12, .ref h13, .ref h14, .ref h15, .int 0])), (h3, .inl (cI, 4096, .inl (fun _ => 0)))] sz) := by
  refine Met.ofW (cc := cX12_reckons) (maxL := 5) (ret := none) (by decide) rfl ?_
  intro p e s m args below meth c s₁ B hml hv
  obtain ⟨rfl, hsz, hP, hKK, hD0⟩ := hv
  have hx := B.exec
  have hb := B.bytes
  have hr := B.returns
  have hts := atoms_spec (ws := wsX12_reckons) B.pre
  have hown : s.vm.findClass RX12 = some m.cls := findClass_of_methodNamed B.named
  have hlocks := B.notSynchronized
  have hK := hKK.1
  have hN := hKK.2
  have hin12 : ∀ w ∈ wsX120, w ∈ wsX12_reckons := by decide +kernel
  subst hsz
  have hD := hD0.self (sz := s.heap.size)
  obtain ⟨A, hAe⟩ : ∃ A, A = va_A [(h0, .inr (12, [.int 0, .int 1, .ref h1, .ref h2, .ref h3, .ref h4, .ref h5, .ref h6, .ref h7, .ref h8, .int 0, .int 0, .int 0, .int 0, .int 0, .int 0, .ref h9, .ref h10, .ref h11, .ref h12, .ref h13, .ref h14, .ref h15, .int 0])), (h3, .inl (cI, 4096, .inl (fun _ => 0)))] s.heap.size := ⟨_, rfl⟩
  rw [← hAe] at hD
  have hA : ∀ q : Nat, s.heap.size ≤ q → A q := fun q h => by rw [hAe]; exact Or.inr h
  have hS : va_S A s.heap s.heap [] := va_S.rf
  have hl := lv_entry ([.ref h0]) (n := 5) (Nat.le_of_ble_eq_true rfl)
  rw [lg_entry_eq]
  generalize (lg_sl ([.ref h0]) ++ List.replicate (5 - (lg_sl ([.ref h0])).length) Slot.unset).toArray = ls at hl ⊢
  have hl : lv_has ls 5 [(0, .ref h0)] := hl
  refine lv_aload_n hx hb dX12_reckons_0 rfl (lv_at hl 0 rfl) ?_
  refine va_get (D := D) (ci := 12) (v := .ref h3) (C := RX12) (T := TX12) (N := 24) hx hb hts hin12 hown hK hP 0 rfl rfl 4 (by decide) (hts (.fieldLink RX12 20 "MissedPointsModel" "greatestWays" "[I") (by decide +kernel)) (fun _ h9 => h9) rfl dX12_reckons_1 ?_
  refine lv_iconst (v := 0) hx hb dX12_reckons_4 (by decide) ?_
  refine lv_iconst (v := 1) hx hb dX12_reckons_5 (by decide) ?_
  refine va_iast hx hb hK hP hD hS 1 0 rfl rfl (lz_vp (x := 0) (n := 4096) (by decide) (by decide)) dX12_reckons_6 (fun H locs hP hD hS => ?_)
  have hP : va_P D cls [(h0, .inr (12, [.int 0, .int 1, .ref h1, .ref h2, .ref h3, .ref h4, .ref h5, .ref h6, .ref h7, .ref h8, .int 0, .int 0, .int 0, .int 0, .int 0, .int 0, .ref h9, .ref h10, .ref h11, .ref h12, .ref h13, .ref h14, .ref h15, .int 0])), (h3, .inl (cI, 4096, .inl (upd (fun _ => 0) 0 1)))] H := hP
  have hD : va_D A [(h0, .inr (12, [.int 0, .int 1, .ref h1, .ref h2, .ref h3, .ref h4, .ref h5, .ref h6, .ref h7, .ref h8, .int 0, .int 0, .int 0, .int 0, .int 0, .int 0, .ref h9, .ref h10, .ref h11, .ref h12, .ref h13, .ref h14, .ref h15, .int 0])), (h3, .inl (cI, 4096, .inl (upd (fun _ => 0) 0 1)))] := hD
  refine lv_iconst (v := 1) hx hb dX12_reckons_7 (by decide) ?_
  refine lv_istore_n (lv' := [(1, .int 1), (0, .ref h0)]) hx hb dX12_reckons_8 rfl hl (by decide) rfl (fun ls hl => ?_)
  refine lv_iload_n hx hb dX12_reckons_9 rfl (lv_at hl 0 rfl) ?_
  refine lv_aload_n hx hb dX12_reckons_10 rfl (lv_at hl 1 rfl) ?_
  have hPc := hP.sub (ws' := [(h0, .inr (12, [.int 0, .int 1, .ref h1, .ref h2, .ref h3, .ref h4, .ref h5, .ref h6, .ref h7, .ref h8, .int 0, .int 0, .int 0, .int 0, .int 0, .int 0, .ref h9, .ref h10, .ref h11, .ref h12, .ref h13, .ref h14, .ref h15, .int 0]))]) [0] rfl
  refine lz_sv (As := []) (rest := [.int 1]) ⟨hx, hb, hml, hown, hts⟩ (c_X12_all_0 l D cI cS h0 h1 h2 h3 h4 h5 h6 h7 h8 h9 h10 h11 h12 h13 h14 h15) hKK hPc (ci := 12) rfl rfl (cwV 0 hts gX12_reckons_X12_all rfl rfl rfl (by decide +kernel) ⟨Nat.le_of_ble_eq_true rfl, Nat.le_of_ble_eq_true rfl⟩) rfl hl.1 rfl (Nat.le_of_ble_eq_true rfl) dX12_reckons_11 ⟨Nat.le_of_ble_eq_true rfl, Nat.le_of_ble_eq_true rfl⟩ (fun r71 hw => ?_)
  subst hw
  refine lv_icmp_gt (tgt := 238) hx hb dX12_reckons_14 (by decide) (fun c72 => ?_) (fun c72 => ?_)
  · have hP9 := hP.sub (ws' := [(h0, .inr (12, [.int 0, .int 1, .ref h1, .ref h2, .ref h3, .ref h4, .ref h5, .ref h6, .ref h7, .ref h8, .int 0, .int 0, .int 0, .int 0, .int 0, .int 0, .ref h9, .ref h10, .ref h11, .ref h12, .ref h13, .ref h14, .ref h15, .int 0])), (h3, .inl (cI, 4096, .inl (upd (fun _ => 0) 0 1)))]) [0, 1] rfl
    have hD9 := hD.sub (ws' := [(h0, .inr (12, [.int 0, .int 1, .ref h1, .ref h2, .ref h3, .ref h4, .ref h5, .ref h6, .ref h7, .ref h8, .int 0, .int 0, .int 0, .int 0, .int 0, .int 0, .ref h9, .ref h10, .ref h11, .ref h12, .ref h13, .ref h14, .ref h15, .int 0])), (h3, .inl (cI, 4096, .inl (upd (fun _ => 0) 0 1)))]) [0, 1] (by decide) rfl
    subst hAe
    exact W.vret hx hb hr (fun t ht hW => ⟨⟨(), rfl, trivial, by rw [ht]; exact hP9, hD9⟩, hS.F ht⟩) hS.2.2 dX12_reckons_238
  · exact absurd c72 (by decide)
set_option maxHeartbeats 4000000 in
set_option maxRecDepth 100000 in
theorem c_X12_greatest_0 (l : Launch) (D : va_G) (cI cS : ClassId) (sz : Nat) (h0 h1 h2 h3 h4 h5 h6 h7 h8 h9 h10 h11 h12 h13 h14 h15 : Nat) : Met l yX12_greatest wsX12_greatest ({ frames := 2, cells := 0, slots := 0, locals := 80 }) (PQ D cI cS [(h0, .inr (12, [.int 0, .int 1, .ref h1, .ref h2, .ref h3, .ref h4, .ref h5, .ref h6, .ref h7, .ref h8, .int 0, .int 0, .int 0, .int 0, .int 0, .int 0, .ref h9, .ref h10, .ref h11, .ref h12, .ref h13, .ref h14, .ref h15, .int 0])), (h2, .inl (cI, 4096, .inl (fun _ => 0))), (h3, .inl (cI, 4096, .inl (fun _ => 0)))] sz [.ref h0]) (QI D [(h0, .inr (12, [.int 0, .int 1, .ref h1, .ref h2, .ref h3, .ref h4, .ref h5, .ref h6, .ref h7, .ref h8, .int 0, .int 0, .int 0, .int 0, .int 0, .int 0, .ref h9, .ref h10, .ref h11, .ref h12, .ref h13, .ref h14, .ref h15, .int 0])), (h2, .inl (cI, 4096, .inl (fun _ => 0))), (h3, .inl (cI, 4096, .inl (fun _ => 0)))] [(h2, .inl (cI, 4096, .inl (fun _ => 0))), (h0, .inr (12, [.int 0, .int 1, .ref h1, .ref h2, .ref h3, .ref h4, .ref h5, .ref h6, .ref h7, .ref h8, .int 0, .int 0, .int 0, .int 0, .int 0, .int 0, .ref h9, .ref h10, .ref h11, .ref h12, .ref h13, .ref h14, .ref h15, .int 0])), (h3, .inl (cI, 4096, .inl (upd (fun _ => 0) 0 1)))] sz (fun r => r = (0 : Int32))) 0 0 (va_A [(h0, .inr (12, [.int 0, .int 1, .ref h1, .ref h2, .ref h3, .ref h4, .ref h5, .ref h6, .ref h7, .ref h8, .int 0, .int 0, .int 0, .int 0, .int 0, .int 0, .ref h9, .ref h10, .ref h11, .ref h12, .ref h13, .ref h14, .ref h15, .int 0])), (h2, .inl (cI, 4096, .inl (fun _ => 0))), (h3, .inl (cI, 4096, .inl (fun _ => 0)))] sz) := by
  refine Met.ofW (cc := cX12_greatest) (maxL := 1) (ret := (some .int)) (by decide) rfl ?_
  intro p e s m args below meth c s₁ B hml hv
  obtain ⟨rfl, hsz, hP, hKK, hD0⟩ := hv
  have hx := B.exec
  have hb := B.bytes
  have hr := B.returns
  have hts := atoms_spec (ws := wsX12_greatest) B.pre
  have hown : s.vm.findClass RX12 = some m.cls := findClass_of_methodNamed B.named
  have hlocks := B.notSynchronized
  have hK := hKK.1
  have hN := hKK.2
  have hin12 : ∀ w ∈ wsX120, w ∈ wsX12_greatest := by decide +kernel
  subst hsz
  have hD := hD0.self (sz := s.heap.size)
  obtain ⟨A, hAe⟩ : ∃ A, A = va_A [(h0, .inr (12, [.int 0, .int 1, .ref h1, .ref h2, .ref h3, .ref h4, .ref h5, .ref h6, .ref h7, .ref h8, .int 0, .int 0, .int 0, .int 0, .int 0, .int 0, .ref h9, .ref h10, .ref h11, .ref h12, .ref h13, .ref h14, .ref h15, .int 0])), (h2, .inl (cI, 4096, .inl (fun _ => 0))), (h3, .inl (cI, 4096, .inl (fun _ => 0)))] s.heap.size := ⟨_, rfl⟩
  rw [← hAe] at hD
  have hA : ∀ q : Nat, s.heap.size ≤ q → A q := fun q h => by rw [hAe]; exact Or.inr h
  have hS : va_S A s.heap s.heap [] := va_S.rf
  have hl := lv_entry ([.ref h0]) (n := 1) (Nat.le_of_ble_eq_true rfl)
  rw [lg_entry_eq]
  generalize (lg_sl ([.ref h0]) ++ List.replicate (1 - (lg_sl ([.ref h0])).length) Slot.unset).toArray = ls at hl ⊢
  have hl : lv_has ls 1 [(0, .ref h0)] := hl
  refine lv_aload_n hx hb dX12_greatest_0 rfl (lv_at hl 0 rfl) ?_
  have hPc := hP.sub (ws' := [(h0, .inr (12, [.int 0, .int 1, .ref h1, .ref h2, .ref h3, .ref h4, .ref h5, .ref h6, .ref h7, .ref h8, .int 0, .int 0, .int 0, .int 0, .int 0, .int 0, .ref h9, .ref h10, .ref h11, .ref h12, .ref h13, .ref h14, .ref h15, .int 0])), (h3, .inl (cI, 4096, .inl (fun _ => 0)))]) [0, 2] rfl
  have hDc := hD.sub (ws' := [(h0, .inr (12, [.int 0, .int 1, .ref h1, .ref h2, .ref h3, .ref h4, .ref h5, .ref h6, .ref h7, .ref h8, .int 0, .int 0, .int 0, .int 0, .int 0, .int 0, .ref h9, .ref h10, .ref h11, .ref h12, .ref h13, .ref h14, .ref h15, .int 0])), (h3, .inl (cI, 4096, .inl (fun _ => 0)))]) [0, 2] (by decide) rfl
  refine lz_qv (wr := [(h2, .inl (cI, 4096, .inl (fun _ => 0)))]) (w1 := [(h0, .inr (12, [.int 0, .int 1, .ref h1, .ref h2, .ref h3, .ref h4, .ref h5, .ref h6, .ref h7, .ref h8, .int 0, .int 0, .int 0, .int 0, .int 0, .int 0, .ref h9, .ref h10, .ref h11, .ref h12, .ref h13, .ref h14, .ref h15, .int 0])), (h3, .inl (cI, 4096, .inl (upd (fun _ => 0) 0 1)))]) (As := []) (rest := []) ⟨hx, hb, hml, hown, hts⟩ (c_X12_reckons_0 l D cI cS _ h0 h1 h2 h3 h4 h5 h6 h7 h8 h9 h10 h11 h12 h13 h14 h15) hKK hP hD hS hA [0, 2] [1] (by decide) rfl rfl (by decide) (by decide) hPc hDc (ci := 12) rfl rfl (cwV 0 hts gX12_greatest_X12_reckons rfl rfl rfl (by decide +kernel) ⟨Nat.le_of_ble_eq_true rfl, Nat.le_of_ble_eq_true rfl⟩) rfl hl.1 rfl (Nat.le_of_ble_eq_true rfl) dX12_greatest_1 ⟨Nat.le_of_ble_eq_true rfl, Nat.le_of_ble_eq_true rfl⟩ (fun H locs hP hD hS => ?_)
  have hP : va_P D cls [(h2, .inl (cI, 4096, .inl (fun _ => 0))), (h0, .inr (12, [.int 0, .int 1, .ref h1, .ref h2, .ref h3, .ref h4, .ref h5, .ref h6, .ref h7, .ref h8, .int 0, .int 0, .int 0, .int 0, .int 0, .int 0, .ref h9, .ref h10, .ref h11, .ref h12, .ref h13, .ref h14, .ref h15, .int 0])), (h3, .inl (cI, 4096, .inl (upd (fun _ => 0) 0 1)))] H := hP
  have hD : va_D A [(h2, .inl (cI, 4096, .inl (fun _ => 0))), (h0, .inr (12, [.int 0, .int 1, .ref h1, .ref h2, .ref h3, .ref h4, .ref h5, .ref h6, .ref h7, .ref h8, .int 0, .int 0, .int 0, .int 0, .int 0, .int 0, .ref h9, .ref h10, .ref h11, .ref h12, .ref h13, .ref h14, .ref h15, .int 0])), (h3, .inl (cI, 4096, .inl (upd (fun _ => 0) 0 1)))] := hD
  refine lv_aload_n hx hb dX12_greatest_4 rfl (lv_at hl 0 rfl) ?_
  refine va_get (D := D) (ci := 12) (v := .ref h2) (C := RX12) (T := TX12) (N := 24) hx hb hts hin12 hown hK hP 1 rfl rfl 3 (by decide) (hts (.fieldLink RX12 17 "MissedPointsModel" "pairs" "[I") (by decide +kernel)) (fun _ h9 => h9) rfl dX12_greatest_5 ?_
  refine lv_aload_n hx hb dX12_greatest_8 rfl (lv_at hl 0 rfl) ?_
  have hPc := hP.sub (ws' := [(h0, .inr (12, [.int 0, .int 1, .ref h1, .ref h2, .ref h3, .ref h4, .ref h5, .ref h6, .ref h7, .ref h8, .int 0, .int 0, .int 0, .int 0, .int 0, .int 0, .ref h9, .ref h10, .ref h11, .ref h12, .ref h13, .ref h14, .ref h15, .int 0]))]) [1] rfl
  refine lz_sv (As := []) (rest := [.ref h2]) ⟨hx, hb, hml, hown, hts⟩ (c_X12_all_0 l D cI cS h0 h1 h2 h3 h4 h5 h6 h7 h8 h9 h10 h11 h12 h13 h14 h15) hKK hPc (ci := 12) rfl rfl (cwV 0 hts gX12_greatest_X12_all rfl rfl rfl (by decide +kernel) ⟨Nat.le_of_ble_eq_true rfl, Nat.le_of_ble_eq_true rfl⟩) rfl hl.1 rfl (Nat.le_of_ble_eq_true rfl) dX12_greatest_9 ⟨Nat.le_of_ble_eq_true rfl, Nat.le_of_ble_eq_true rfl⟩ (fun r76 hw => ?_)
  subst hw
  refine va_iald hx hb hK hP 0 0 rfl rfl (lz_vp (x := 0) (n := 4096) (by decide) (by decide)) dX12_greatest_12 ?_
  refine lz_top (y := 0) rfl ?_
  have hP9 := hP.sub (ws' := [(h2, .inl (cI, 4096, .inl (fun _ => 0))), (h0, .inr (12, [.int 0, .int 1, .ref h1, .ref h2, .ref h3, .ref h4, .ref h5, .ref h6, .ref h7, .ref h8, .int 0, .int 0, .int 0, .int 0, .int 0, .int 0, .ref h9, .ref h10, .ref h11, .ref h12, .ref h13, .ref h14, .ref h15, .int 0])), (h3, .inl (cI, 4096, .inl (upd (fun _ => 0) 0 1)))]) [0, 1, 2] rfl
  have hD9 := hD.sub (ws' := [(h2, .inl (cI, 4096, .inl (fun _ => 0))), (h0, .inr (12, [.int 0, .int 1, .ref h1, .ref h2, .ref h3, .ref h4, .ref h5, .ref h6, .ref h7, .ref h8, .int 0, .int 0, .int 0, .int 0, .int 0, .int 0, .ref h9, .ref h10, .ref h11, .ref h12, .ref h13, .ref h14, .ref h15, .int 0])), (h3, .inl (cI, 4096, .inl (upd (fun _ => 0) 0 1)))]) [0, 1, 2] (by decide) rfl
  subst hAe
  exact W.iret (v := 0) hx hb hr (fun t ht hW => ⟨⟨_, (), rfl, rfl, by rw [ht]; exact hP9, hD9⟩, hS.F ht⟩) hS.2.2 dX12_greatest_13
set_option maxHeartbeats 4000000 in
set_option maxRecDepth 100000 in
theorem c_X12_lack_0 (l : Launch) (D : va_G) (cI cS : ClassId) (sz : Nat) (h0 h1 h2 h3 h4 h5 h6 h7 h8 h9 h10 h11 h12 h13 h14 h15 : Nat) : Met l yX12_lack wsX12_lack ({ frames := 3, cells := 0, slots := 0, locals := 120 }) (PQ D cI cS [(h0, .inr (12, [.int 0, .int 1, .ref h1, .ref h2, .ref h3, .ref h4, .ref h5, .ref h6, .ref h7, .ref h8, .int 0, .int 0, .int 0, .int 0, .int 0, .int 0, .ref h9, .ref h10, .ref h11, .ref h12, .ref h13, .ref h14, .ref h15, .int 0])), (h2, .inl (cI, 4096, .inl (fun _ => 0))), (h3, .inl (cI, 4096, .inl (fun _ => 0)))] sz [.ref h0]) (QI D [(h0, .inr (12, [.int 0, .int 1, .ref h1, .ref h2, .ref h3, .ref h4, .ref h5, .ref h6, .ref h7, .ref h8, .int 0, .int 0, .int 0, .int 0, .int 0, .int 0, .ref h9, .ref h10, .ref h11, .ref h12, .ref h13, .ref h14, .ref h15, .int 0])), (h2, .inl (cI, 4096, .inl (fun _ => 0))), (h3, .inl (cI, 4096, .inl (fun _ => 0)))] [(h2, .inl (cI, 4096, .inl (fun _ => 0))), (h0, .inr (12, [.int 0, .int 1, .ref h1, .ref h2, .ref h3, .ref h4, .ref h5, .ref h6, .ref h7, .ref h8, .int 0, .int 0, .int 0, .int 0, .int 0, .int 0, .ref h9, .ref h10, .ref h11, .ref h12, .ref h13, .ref h14, .ref h15, .int 0])), (h3, .inl (cI, 4096, .inl (upd (fun _ => 0) 0 1)))] sz (fun r => r = (0 : Int32))) 0 0 (va_A [(h0, .inr (12, [.int 0, .int 1, .ref h1, .ref h2, .ref h3, .ref h4, .ref h5, .ref h6, .ref h7, .ref h8, .int 0, .int 0, .int 0, .int 0, .int 0, .int 0, .ref h9, .ref h10, .ref h11, .ref h12, .ref h13, .ref h14, .ref h15, .int 0])), (h2, .inl (cI, 4096, .inl (fun _ => 0))), (h3, .inl (cI, 4096, .inl (fun _ => 0)))] sz) := by
  refine Met.ofW (cc := cX12_lack) (maxL := 1) (ret := (some .int)) (by decide) rfl ?_
  intro p e s m args below meth c s₁ B hml hv
  obtain ⟨rfl, hsz, hP, hKK, hD0⟩ := hv
  have hx := B.exec
  have hb := B.bytes
  have hr := B.returns
  have hts := atoms_spec (ws := wsX12_lack) B.pre
  have hown : s.vm.findClass RX12 = some m.cls := findClass_of_methodNamed B.named
  have hlocks := B.notSynchronized
  have hK := hKK.1
  have hN := hKK.2
  have hin12 : ∀ w ∈ wsX120, w ∈ wsX12_lack := by decide +kernel
  subst hsz
  have hD := hD0.self (sz := s.heap.size)
  obtain ⟨A, hAe⟩ : ∃ A, A = va_A [(h0, .inr (12, [.int 0, .int 1, .ref h1, .ref h2, .ref h3, .ref h4, .ref h5, .ref h6, .ref h7, .ref h8, .int 0, .int 0, .int 0, .int 0, .int 0, .int 0, .ref h9, .ref h10, .ref h11, .ref h12, .ref h13, .ref h14, .ref h15, .int 0])), (h2, .inl (cI, 4096, .inl (fun _ => 0))), (h3, .inl (cI, 4096, .inl (fun _ => 0)))] s.heap.size := ⟨_, rfl⟩
  rw [← hAe] at hD
  have hA : ∀ q : Nat, s.heap.size ≤ q → A q := fun q h => by rw [hAe]; exact Or.inr h
  have hS : va_S A s.heap s.heap [] := va_S.rf
  have hl := lv_entry ([.ref h0]) (n := 1) (Nat.le_of_ble_eq_true rfl)
  rw [lg_entry_eq]
  generalize (lg_sl ([.ref h0]) ++ List.replicate (1 - (lg_sl ([.ref h0])).length) Slot.unset).toArray = ls at hl ⊢
  have hl : lv_has ls 1 [(0, .ref h0)] := hl
  refine lv_aload_n hx hb dX12_lack_0 rfl (lv_at hl 0 rfl) ?_
  refine va_get (D := D) (ci := 12) (v := .int 0) (C := RX12) (T := TX12) (N := 24) hx hb hts hin12 hown hK hP 0 rfl rfl 0 (by decide) (hts (.fieldLink RX12 63 "MissedPointsModel" "many" "I") (by decide +kernel)) (fun _ h9 => h9) rfl dX12_lack_1 ?_
  refine lv_iconst (v := 2) hx hb dX12_lack_4 (by decide) ?_
  refine lv_aload_n hx hb dX12_lack_5 rfl (lv_at hl 0 rfl) ?_
  have hPc := hP.sub (ws' := [(h0, .inr (12, [.int 0, .int 1, .ref h1, .ref h2, .ref h3, .ref h4, .ref h5, .ref h6, .ref h7, .ref h8, .int 0, .int 0, .int 0, .int 0, .int 0, .int 0, .ref h9, .ref h10, .ref h11, .ref h12, .ref h13, .ref h14, .ref h15, .int 0])), (h2, .inl (cI, 4096, .inl (fun _ => 0))), (h3, .inl (cI, 4096, .inl (fun _ => 0)))]) [0, 1, 2] rfl
  have hDc := hD.sub (ws' := [(h0, .inr (12, [.int 0, .int 1, .ref h1, .ref h2, .ref h3, .ref h4, .ref h5, .ref h6, .ref h7, .ref h8, .int 0, .int 0, .int 0, .int 0, .int 0, .int 0, .ref h9, .ref h10, .ref h11, .ref h12, .ref h13, .ref h14, .ref h15, .int 0])), (h2, .inl (cI, 4096, .inl (fun _ => 0))), (h3, .inl (cI, 4096, .inl (fun _ => 0)))]) [0, 1, 2] (by decide) rfl
  refine lz_qi (wr := []) (w1 := [(h2, .inl (cI, 4096, .inl (fun _ => 0))), (h0, .inr (12, [.int 0, .int 1, .ref h1, .ref h2, .ref h3, .ref h4, .ref h5, .ref h6, .ref h7, .ref h8, .int 0, .int 0, .int 0, .int 0, .int 0, .int 0, .ref h9, .ref h10, .ref h11, .ref h12, .ref h13, .ref h14, .ref h15, .int 0])), (h3, .inl (cI, 4096, .inl (upd (fun _ => 0) 0 1)))]) (As := []) (rest := [.int 2, .int 0]) ⟨hx, hb, hml, hown, hts⟩ (c_X12_greatest_0 l D cI cS _ h0 h1 h2 h3 h4 h5 h6 h7 h8 h9 h10 h11 h12 h13 h14 h15) hKK hP hD hS hA [0, 1, 2] [] (by decide) rfl rfl (by decide) (by decide) hPc hDc (ci := 12) rfl rfl (cwV 0 hts gX12_lack_X12_greatest rfl rfl rfl (by decide +kernel) ⟨Nat.le_of_ble_eq_true rfl, Nat.le_of_ble_eq_true rfl⟩) rfl hl.1 rfl (Nat.le_of_ble_eq_true rfl) dX12_lack_6 ⟨Nat.le_of_ble_eq_true rfl, Nat.le_of_ble_eq_true rfl⟩ (fun r80 H locs hw hP hD hS => ?_)
  have hP : va_P D cls [(h2, .inl (cI, 4096, .inl (fun _ => 0))), (h0, .inr (12, [.int 0, .int 1, .ref h1, .ref h2, .ref h3, .ref h4, .ref h5, .ref h6, .ref h7, .ref h8, .int 0, .int 0, .int 0, .int 0, .int 0, .int 0, .ref h9, .ref h10, .ref h11, .ref h12, .ref h13, .ref h14, .ref h15, .int 0])), (h3, .inl (cI, 4096, .inl (upd (fun _ => 0) 0 1)))] H := hP
  have hD : va_D A [(h2, .inl (cI, 4096, .inl (fun _ => 0))), (h0, .inr (12, [.int 0, .int 1, .ref h1, .ref h2, .ref h3, .ref h4, .ref h5, .ref h6, .ref h7, .ref h8, .int 0, .int 0, .int 0, .int 0, .int 0, .int 0, .ref h9, .ref h10, .ref h11, .ref h12, .ref h13, .ref h14, .ref h15, .int 0])), (h3, .inl (cI, 4096, .inl (upd (fun _ => 0) 0 1)))] := hD
  subst hw
  refine lv_imul hx hb dX12_lack_9 ?_
  refine lz_top (y := 0) (by decide) ?_
  refine lv_isub hx hb dX12_lack_10 ?_
  refine lz_top (y := 0) (by decide) ?_
  have hP9 := hP.sub (ws' := [(h2, .inl (cI, 4096, .inl (fun _ => 0))), (h0, .inr (12, [.int 0, .int 1, .ref h1, .ref h2, .ref h3, .ref h4, .ref h5, .ref h6, .ref h7, .ref h8, .int 0, .int 0, .int 0, .int 0, .int 0, .int 0, .ref h9, .ref h10, .ref h11, .ref h12, .ref h13, .ref h14, .ref h15, .int 0])), (h3, .inl (cI, 4096, .inl (upd (fun _ => 0) 0 1)))]) [0, 1, 2] rfl
  have hD9 := hD.sub (ws' := [(h2, .inl (cI, 4096, .inl (fun _ => 0))), (h0, .inr (12, [.int 0, .int 1, .ref h1, .ref h2, .ref h3, .ref h4, .ref h5, .ref h6, .ref h7, .ref h8, .int 0, .int 0, .int 0, .int 0, .int 0, .int 0, .ref h9, .ref h10, .ref h11, .ref h12, .ref h13, .ref h14, .ref h15, .int 0])), (h3, .inl (cI, 4096, .inl (upd (fun _ => 0) 0 1)))]) [0, 1, 2] (by decide) rfl
  subst hAe
  exact W.iret (v := 0) hx hb hr (fun t ht hW => ⟨⟨_, (), rfl, rfl, by rw [ht]; exact hP9, hD9⟩, hS.F ht⟩) hS.2.2 dX12_lack_11
set_option maxHeartbeats 4000000 in
set_option maxRecDepth 100000 in
theorem c_X12_all_1 (l : Launch) (D : va_G) (cI cS : ClassId) (h0 h1 h2 h3 h4 h5 h6 h7 h8 h9 h10 h11 h12 h13 h14 h15 : Nat) : Met l yX12_all wsX12_all ({ frames := 0, cells := 0, slots := 0, locals := 0 }) (PS D cI cS [(h0, .inr (12, [.int 0, .int 1, .ref h1, .ref h2, .ref h3, .ref h4, .ref h5, .ref h6, .ref h7, .ref h8, .int 0, .int 0, .int 0, .int 0, .int 0, .int 0, .ref h9, .ref h10, .ref h11, .ref h12, .ref h13, .ref h14, .ref h15, .int 0]))] [.ref h0]) (vp_Si (fun r => r = (0 : Int32))) 0 0 (fun _ => False) := by
  refine Met.ofW (cc := cX12_all) (maxL := 1) (ret := (some .int)) (by decide) rfl ?_
  intro p e s m args below meth c s₁ B hml hv
  obtain ⟨rfl, hP, hKK⟩ := hv
  have hx := B.exec
  have hb := B.bytes
  have hr := B.returns
  have hts := atoms_spec (ws := wsX12_all) B.pre
  have hown : s.vm.findClass RX12 = some m.cls := findClass_of_methodNamed B.named
  have hlocks := B.notSynchronized
  have hK := hKK.1
  have hN := hKK.2
  have hin12 : ∀ w ∈ wsX120, w ∈ wsX12_all := by decide +kernel
  have hl := lv_entry ([.ref h0]) (n := 1) (Nat.le_of_ble_eq_true rfl)
  rw [lg_entry_eq]
  generalize (lg_sl ([.ref h0]) ++ List.replicate (1 - (lg_sl ([.ref h0])).length) Slot.unset).toArray = ls at hl ⊢
  have hl : lv_has ls 1 [(0, .ref h0)] := hl
  refine lv_iconst (v := 1) hx hb dX12_all_0 (by decide) ?_
  refine lv_aload_n hx hb dX12_all_1 rfl (lv_at hl 0 rfl) ?_
  refine va_get (D := D) (ci := 12) (v := .int 0) (C := RX12) (T := TX12) (N := 24) hx hb hts hin12 hown hK hP 0 rfl rfl 0 (by decide) (hts (.fieldLink RX12 63 "MissedPointsModel" "many" "I") (by decide +kernel)) (fun _ h9 => h9) rfl dX12_all_2 ?_
  refine lv_ishl hx hb dX12_all_5 ?_
  refine lz_top (y := 1) (by decide) ?_
  refine lv_iconst (v := 1) hx hb dX12_all_6 (by decide) ?_
  refine lv_isub hx hb dX12_all_7 ?_
  refine lz_top (y := 0) (by decide) ?_
  exact W.iret (v := 0) hx hb hr (fun t ht hW => ⟨_, rfl, rfl, ht⟩) (fun q hq => absurd hq List.not_mem_nil) dX12_all_8
set_option maxHeartbeats 4000000 in
set_option maxRecDepth 100000 in
theorem c_X12_piecesOf_0 (l : Launch) (D : va_G) (cI cS : ClassId) (h0 h1 h2 h3 h4 h5 h6 h7 h8 h9 h10 h11 h12 h13 h14 h15 : Nat) : Met l yX12_piecesOf wsX12_piecesOf ({ frames := 0, cells := 0, slots := 0, locals := 0 }) (PS D cI cS [(h0, .inr (12, [.int 0, .int 1, .ref h1, .ref h2, .ref h3, .ref h4, .ref h5, .ref h6, .ref h7, .ref h8, .int 0, .int 0, .int 0, .int 0, .int 0, .int 0, .ref h9, .ref h10, .ref h11, .ref h12, .ref h13, .ref h14, .ref h15, .int 0]))] [.ref h0, .int 0]) (vp_Si (fun r => r = (0 : Int32))) 0 0 (fun _ => False) := by
  refine Met.ofW (cc := cX12_piecesOf) (maxL := 4) (ret := (some .int)) (by decide) rfl ?_
  intro p e s m args below meth c s₁ B hml hv
  obtain ⟨rfl, hP, hKK⟩ := hv
  have hx := B.exec
  have hb := B.bytes
  have hr := B.returns
  have hts := atoms_spec (ws := wsX12_piecesOf) B.pre
  have hown : s.vm.findClass RX12 = some m.cls := findClass_of_methodNamed B.named
  have hlocks := B.notSynchronized
  have hK := hKK.1
  have hN := hKK.2
  have hl := lv_entry ([.ref h0, .int 0]) (n := 4) (Nat.le_of_ble_eq_true rfl)
  rw [lg_entry_eq]
  generalize (lg_sl ([.ref h0, .int 0]) ++ List.replicate (4 - (lg_sl ([.ref h0, .int 0])).length) Slot.unset).toArray = ls at hl ⊢
  have hl : lv_has ls 4 [(0, .ref h0), (1, .int 0)] := hl
  refine lv_iconst (v := 0) hx hb dX12_piecesOf_0 (by decide) ?_
  refine lv_istore_n (lv' := [(2, .int 0), (0, .ref h0), (1, .int 0)]) hx hb dX12_piecesOf_1 rfl hl (by decide) rfl (fun ls hl => ?_)
  refine lv_iload_n hx hb dX12_piecesOf_2 rfl (lv_at hl 2 rfl) ?_
  refine lv_istore_n (lv' := [(3, .int 0), (2, .int 0), (0, .ref h0), (1, .int 0)]) hx hb dX12_piecesOf_3 rfl hl (by decide) rfl (fun ls hl => ?_)
  refine lv_iload_n hx hb dX12_piecesOf_4 rfl (lv_at hl 0 rfl) ?_
  refine lv_if_eq (tgt := 24) hx hb dX12_piecesOf_5 (by decide) (fun c85 => ?_) (fun c85 => ?_)
  · refine lv_iload_n hx hb dX12_piecesOf_24 rfl (lv_at hl 1 rfl) ?_
    exact W.iret (v := 0) hx hb hr (fun t ht hW => ⟨_, rfl, rfl, ht⟩) (fun q hq => absurd hq List.not_mem_nil) dX12_piecesOf_25
  · exact absurd c85 (by decide)
set_option maxHeartbeats 4000000 in
set_option maxRecDepth 100000 in
theorem c_X12_count_0 (l : Launch) (D : va_G) (cI cS : ClassId) (sz : Nat) (h0 h1 h2 h3 h4 h5 h6 h7 h8 h9 h10 h11 h12 h13 h14 h15 : Nat) (x0 : Int32) : Met l yX12_count wsX12_count ({ frames := 4, cells := 0, slots := 0, locals := 160 }) (PQ D cI cS [(h0, .inr (12, [.int 0, .int 1, .ref h1, .ref h2, .ref h3, .ref h4, .ref h5, .ref h6, .ref h7, .ref h8, .int 0, .int 0, .int 0, .int 0, .int 0, .int 0, .ref h9, .ref h10, .ref h11, .ref h12, .ref h13, .ref h14, .ref h15, .int 0])), (h2, .inl (cI, 4096, .inl (fun _ => 0))), (h3, .inl (cI, 4096, .inl (fun _ => 0)))] sz [.ref h0, .int x0]) (QI D [(h0, .inr (12, [.int 0, .int 1, .ref h1, .ref h2, .ref h3, .ref h4, .ref h5, .ref h6, .ref h7, .ref h8, .int 0, .int 0, .int 0, .int 0, .int 0, .int 0, .ref h9, .ref h10, .ref h11, .ref h12, .ref h13, .ref h14, .ref h15, .int 0])), (h2, .inl (cI, 4096, .inl (fun _ => 0))), (h3, .inl (cI, 4096, .inl (fun _ => 0)))] [] sz (fun r => r = if x0 = 0 then (0 : Int32) else (if x0 = 1 then (0 : Int32) else (if x0 = 2 then (0 : Int32) else (if x0 = 3 then (0 : Int32) else (if x0 = 4 then (0 : Int32) else (if x0 = 5 then (0 : Int32) else (if x0 = 6 then (1 : Int32) else ((-2) : Int32))))))))) 0 0 (va_A [(h0, .inr (12, [.int 0, .int 1, .ref h1, .ref h2, .ref h3, .ref h4, .ref h5, .ref h6, .ref h7, .ref h8, .int 0, .int 0, .int 0, .int 0, .int 0, .int 0, .ref h9, .ref h10, .ref h11, .ref h12, .ref h13, .ref h14, .ref h15, .int 0])), (h2, .inl (cI, 4096, .inl (fun _ => 0))), (h3, .inl (cI, 4096, .inl (fun _ => 0)))] sz) := by
  refine Met.ofW (cc := cX12_count) (maxL := 2) (ret := (some .int)) (by decide) rfl ?_
  intro p e s m args below meth c s₁ B hml hv
  obtain ⟨rfl, hsz, hP, hKK, hD0⟩ := hv
  have hx := B.exec
  have hb := B.bytes
  have hr := B.returns
  have hts := atoms_spec (ws := wsX12_count) B.pre
  have hown : s.vm.findClass RX12 = some m.cls := findClass_of_methodNamed B.named
  have hlocks := B.notSynchronized
  have hK := hKK.1
  have hN := hKK.2
  have hin12 : ∀ w ∈ wsX120, w ∈ wsX12_count := by decide +kernel
  subst hsz
  have hD := hD0.self (sz := s.heap.size)
  obtain ⟨A, hAe⟩ : ∃ A, A = va_A [(h0, .inr (12, [.int 0, .int 1, .ref h1, .ref h2, .ref h3, .ref h4, .ref h5, .ref h6, .ref h7, .ref h8, .int 0, .int 0, .int 0, .int 0, .int 0, .int 0, .ref h9, .ref h10, .ref h11, .ref h12, .ref h13, .ref h14, .ref h15, .int 0])), (h2, .inl (cI, 4096, .inl (fun _ => 0))), (h3, .inl (cI, 4096, .inl (fun _ => 0)))] s.heap.size := ⟨_, rfl⟩
  rw [← hAe] at hD
  have hA : ∀ q : Nat, s.heap.size ≤ q → A q := fun q h => by rw [hAe]; exact Or.inr h
  have hS : va_S A s.heap s.heap [] := va_S.rf
  have hl := lv_entry ([.ref h0, .int x0]) (n := 2) (Nat.le_of_ble_eq_true rfl)
  rw [lg_entry_eq]
  generalize (lg_sl ([.ref h0, .int x0]) ++ List.replicate (2 - (lg_sl ([.ref h0, .int x0])).length) Slot.unset).toArray = ls at hl ⊢
  have hl : lv_has ls 2 [(0, .ref h0), (1, .int x0)] := hl
  refine lv_iload_n hx hb dX12_count_0 rfl (lv_at hl 1 rfl) ?_
  by_cases k89 : x0 = 0
  · subst k89
    refine lv_tableIn (tgt := 44) (off := 43) hx hb dX12_count_1 (by decide) (by decide) rfl (by decide) ?_
    refine lv_aload_n hx hb dX12_count_44 rfl (lv_at hl 0 rfl) ?_
    refine va_get (D := D) (ci := 12) (v := .int 0) (C := RX12) (T := TX12) (N := 24) hx hb hts hin12 hown hK hP 0 rfl rfl 0 (by decide) (hts (.fieldLink RX12 63 "MissedPointsModel" "many" "I") (by decide +kernel)) (fun _ h9 => h9) rfl dX12_count_45 ?_
    have hP9 := hP.sub (ws' := []) [] rfl
    have hD9 := hD.sub (ws' := []) [] (by decide) rfl
    subst hAe
    exact W.iret (v := 0) hx hb hr (fun t ht hW => ⟨⟨_, (), rfl, by rw [if_pos rfl], by rw [ht]; exact hP9, hD9⟩, hS.F ht⟩) hS.2.2 dX12_count_48
  · by_cases k90 : x0 = 1
    · subst k90
      refine lv_tableIn (tgt := 49) (off := 48) hx hb dX12_count_1 (by decide) (by decide) rfl (by decide) ?_
      refine lv_aload_n hx hb dX12_count_49 rfl (lv_at hl 0 rfl) ?_
      have hPc := hP.sub (ws' := [(h0, .inr (12, [.int 0, .int 1, .ref h1, .ref h2, .ref h3, .ref h4, .ref h5, .ref h6, .ref h7, .ref h8, .int 0, .int 0, .int 0, .int 0, .int 0, .int 0, .ref h9, .ref h10, .ref h11, .ref h12, .ref h13, .ref h14, .ref h15, .int 0]))]) [0] rfl
      refine lz_sv (As := []) (rest := []) ⟨hx, hb, hml, hown, hts⟩ (c_X12_lines_0 l D cI cS h0 h1 h2 h3 h4 h5 h6 h7 h8 h9 h10 h11 h12 h13 h14 h15) hKK hPc (ci := 12) rfl rfl (cwV 0 hts gX12_count_X12_lines rfl rfl rfl (by decide +kernel) ⟨Nat.le_of_ble_eq_true rfl, Nat.le_of_ble_eq_true rfl⟩) rfl hl.1 rfl (Nat.le_of_ble_eq_true rfl) dX12_count_50 ⟨Nat.le_of_ble_eq_true rfl, Nat.le_of_ble_eq_true rfl⟩ (fun r91 hw => ?_)
      subst hw
      have hP9 := hP.sub (ws' := []) [] rfl
      have hD9 := hD.sub (ws' := []) [] (by decide) rfl
      subst hAe
      exact W.iret (v := 0) hx hb hr (fun t ht hW => ⟨⟨_, (), rfl, by rw [if_neg k89, if_pos rfl], by rw [ht]; exact hP9, hD9⟩, hS.F ht⟩) hS.2.2 dX12_count_53
    · by_cases k92 : x0 = 2
      · subst k92
        refine lv_tableIn (tgt := 54) (off := 53) hx hb dX12_count_1 (by decide) (by decide) rfl (by decide) ?_
        refine lv_aload_n hx hb dX12_count_54 rfl (lv_at hl 0 rfl) ?_
        have hPc := hP.sub (ws' := [(h0, .inr (12, [.int 0, .int 1, .ref h1, .ref h2, .ref h3, .ref h4, .ref h5, .ref h6, .ref h7, .ref h8, .int 0, .int 0, .int 0, .int 0, .int 0, .int 0, .ref h9, .ref h10, .ref h11, .ref h12, .ref h13, .ref h14, .ref h15, .int 0])), (h2, .inl (cI, 4096, .inl (fun _ => 0))), (h3, .inl (cI, 4096, .inl (fun _ => 0)))]) [0, 1, 2] rfl
        have hDc := hD.sub (ws' := [(h0, .inr (12, [.int 0, .int 1, .ref h1, .ref h2, .ref h3, .ref h4, .ref h5, .ref h6, .ref h7, .ref h8, .int 0, .int 0, .int 0, .int 0, .int 0, .int 0, .ref h9, .ref h10, .ref h11, .ref h12, .ref h13, .ref h14, .ref h15, .int 0])), (h2, .inl (cI, 4096, .inl (fun _ => 0))), (h3, .inl (cI, 4096, .inl (fun _ => 0)))]) [0, 1, 2] (by decide) rfl
        refine lz_qi (wr := []) (w1 := [(h2, .inl (cI, 4096, .inl (fun _ => 0))), (h0, .inr (12, [.int 0, .int 1, .ref h1, .ref h2, .ref h3, .ref h4, .ref h5, .ref h6, .ref h7, .ref h8, .int 0, .int 0, .int 0, .int 0, .int 0, .int 0, .ref h9, .ref h10, .ref h11, .ref h12, .ref h13, .ref h14, .ref h15, .int 0])), (h3, .inl (cI, 4096, .inl (upd (fun _ => 0) 0 1)))]) (As := []) (rest := []) ⟨hx, hb, hml, hown, hts⟩ (c_X12_greatest_0 l D cI cS _ h0 h1 h2 h3 h4 h5 h6 h7 h8 h9 h10 h11 h12 h13 h14 h15) hKK hP hD hS hA [0, 1, 2] [] (by decide) rfl rfl (by decide) (by decide) hPc hDc (ci := 12) rfl rfl (cwV 0 hts gX12_count_X12_greatest rfl rfl rfl (by decide +kernel) ⟨Nat.le_of_ble_eq_true rfl, Nat.le_of_ble_eq_true rfl⟩) rfl hl.1 rfl (Nat.le_of_ble_eq_true rfl) dX12_count_55 ⟨Nat.le_of_ble_eq_true rfl, Nat.le_of_ble_eq_true rfl⟩ (fun r93 H locs hw hP hD hS => ?_)
        have hP : va_P D cls [(h2, .inl (cI, 4096, .inl (fun _ => 0))), (h0, .inr (12, [.int 0, .int 1, .ref h1, .ref h2, .ref h3, .ref h4, .ref h5, .ref h6, .ref h7, .ref h8, .int 0, .int 0, .int 0, .int 0, .int 0, .int 0, .ref h9, .ref h10, .ref h11, .ref h12, .ref h13, .ref h14, .ref h15, .int 0])), (h3, .inl (cI, 4096, .inl (upd (fun _ => 0) 0 1)))] H := hP
        have hD : va_D A [(h2, .inl (cI, 4096, .inl (fun _ => 0))), (h0, .inr (12, [.int 0, .int 1, .ref h1, .ref h2, .ref h3, .ref h4, .ref h5, .ref h6, .ref h7, .ref h8, .int 0, .int 0, .int 0, .int 0, .int 0, .int 0, .ref h9, .ref h10, .ref h11, .ref h12, .ref h13, .ref h14, .ref h15, .int 0])), (h3, .inl (cI, 4096, .inl (upd (fun _ => 0) 0 1)))] := hD
        subst hw
        have hP9 := hP.sub (ws' := []) [] rfl
        have hD9 := hD.sub (ws' := []) [] (by decide) rfl
        subst hAe
        exact W.iret (v := 0) hx hb hr (fun t ht hW => ⟨⟨_, (), rfl, by rw [if_neg k89, if_neg k90, if_pos rfl], by rw [ht]; exact hP9, hD9⟩, hS.F ht⟩) hS.2.2 dX12_count_58
      · by_cases k94 : x0 = 3
        · subst k94
          refine lv_tableIn (tgt := 59) (off := 58) hx hb dX12_count_1 (by decide) (by decide) rfl (by decide) ?_
          refine lv_aload_n hx hb dX12_count_59 rfl (lv_at hl 0 rfl) ?_
          have hPc := hP.sub (ws' := [(h0, .inr (12, [.int 0, .int 1, .ref h1, .ref h2, .ref h3, .ref h4, .ref h5, .ref h6, .ref h7, .ref h8, .int 0, .int 0, .int 0, .int 0, .int 0, .int 0, .ref h9, .ref h10, .ref h11, .ref h12, .ref h13, .ref h14, .ref h15, .int 0])), (h2, .inl (cI, 4096, .inl (fun _ => 0))), (h3, .inl (cI, 4096, .inl (fun _ => 0)))]) [0, 1, 2] rfl
          have hDc := hD.sub (ws' := [(h0, .inr (12, [.int 0, .int 1, .ref h1, .ref h2, .ref h3, .ref h4, .ref h5, .ref h6, .ref h7, .ref h8, .int 0, .int 0, .int 0, .int 0, .int 0, .int 0, .ref h9, .ref h10, .ref h11, .ref h12, .ref h13, .ref h14, .ref h15, .int 0])), (h2, .inl (cI, 4096, .inl (fun _ => 0))), (h3, .inl (cI, 4096, .inl (fun _ => 0)))]) [0, 1, 2] (by decide) rfl
          refine lz_qi (wr := []) (w1 := [(h2, .inl (cI, 4096, .inl (fun _ => 0))), (h0, .inr (12, [.int 0, .int 1, .ref h1, .ref h2, .ref h3, .ref h4, .ref h5, .ref h6, .ref h7, .ref h8, .int 0, .int 0, .int 0, .int 0, .int 0, .int 0, .ref h9, .ref h10, .ref h11, .ref h12, .ref h13, .ref h14, .ref h15, .int 0])), (h3, .inl (cI, 4096, .inl (upd (fun _ => 0) 0 1)))]) (As := []) (rest := []) ⟨hx, hb, hml, hown, hts⟩ (c_X12_lack_0 l D cI cS _ h0 h1 h2 h3 h4 h5 h6 h7 h8 h9 h10 h11 h12 h13 h14 h15) hKK hP hD hS hA [0, 1, 2] [] (by decide) rfl rfl (by decide) (by decide) hPc hDc (ci := 12) rfl rfl (cwV 0 hts gX12_count_X12_lack rfl rfl rfl (by decide +kernel) ⟨Nat.le_of_ble_eq_true rfl, Nat.le_of_ble_eq_true rfl⟩) rfl hl.1 rfl (Nat.le_of_ble_eq_true rfl) dX12_count_60 ⟨Nat.le_of_ble_eq_true rfl, Nat.le_of_ble_eq_true rfl⟩ (fun r95 H locs hw hP hD hS => ?_)
          have hP : va_P D cls [(h2, .inl (cI, 4096, .inl (fun _ => 0))), (h0, .inr (12, [.int 0, .int 1, .ref h1, .ref h2, .ref h3, .ref h4, .ref h5, .ref h6, .ref h7, .ref h8, .int 0, .int 0, .int 0, .int 0, .int 0, .int 0, .ref h9, .ref h10, .ref h11, .ref h12, .ref h13, .ref h14, .ref h15, .int 0])), (h3, .inl (cI, 4096, .inl (upd (fun _ => 0) 0 1)))] H := hP
          have hD : va_D A [(h2, .inl (cI, 4096, .inl (fun _ => 0))), (h0, .inr (12, [.int 0, .int 1, .ref h1, .ref h2, .ref h3, .ref h4, .ref h5, .ref h6, .ref h7, .ref h8, .int 0, .int 0, .int 0, .int 0, .int 0, .int 0, .ref h9, .ref h10, .ref h11, .ref h12, .ref h13, .ref h14, .ref h15, .int 0])), (h3, .inl (cI, 4096, .inl (upd (fun _ => 0) 0 1)))] := hD
          subst hw
          have hP9 := hP.sub (ws' := []) [] rfl
          have hD9 := hD.sub (ws' := []) [] (by decide) rfl
          subst hAe
          exact W.iret (v := 0) hx hb hr (fun t ht hW => ⟨⟨_, (), rfl, by rw [if_neg k89, if_neg k90, if_neg k92, if_pos rfl], by rw [ht]; exact hP9, hD9⟩, hS.F ht⟩) hS.2.2 dX12_count_63
        · by_cases k96 : x0 = 4
          · subst k96
            refine lv_tableIn (tgt := 64) (off := 63) hx hb dX12_count_1 (by decide) (by decide) rfl (by decide) ?_
            refine lv_aload_n hx hb dX12_count_64 rfl (lv_at hl 0 rfl) ?_
            refine lv_aload_n hx hb dX12_count_65 rfl (lv_at hl 0 rfl) ?_
            have hPc := hP.sub (ws' := [(h0, .inr (12, [.int 0, .int 1, .ref h1, .ref h2, .ref h3, .ref h4, .ref h5, .ref h6, .ref h7, .ref h8, .int 0, .int 0, .int 0, .int 0, .int 0, .int 0, .ref h9, .ref h10, .ref h11, .ref h12, .ref h13, .ref h14, .ref h15, .int 0]))]) [0] rfl
            refine lz_sv (As := []) (rest := [.ref h0]) ⟨hx, hb, hml, hown, hts⟩ (c_X12_all_1 l D cI cS h0 h1 h2 h3 h4 h5 h6 h7 h8 h9 h10 h11 h12 h13 h14 h15) hKK hPc (ci := 12) rfl rfl (cwV 0 hts gX12_count_X12_all rfl rfl rfl (by decide +kernel) ⟨Nat.le_of_ble_eq_true rfl, Nat.le_of_ble_eq_true rfl⟩) rfl hl.1 rfl (Nat.le_of_ble_eq_true rfl) dX12_count_66 ⟨Nat.le_of_ble_eq_true rfl, Nat.le_of_ble_eq_true rfl⟩ (fun r97 hw => ?_)
            subst hw
            have hPc := hP.sub (ws' := [(h0, .inr (12, [.int 0, .int 1, .ref h1, .ref h2, .ref h3, .ref h4, .ref h5, .ref h6, .ref h7, .ref h8, .int 0, .int 0, .int 0, .int 0, .int 0, .int 0, .ref h9, .ref h10, .ref h11, .ref h12, .ref h13, .ref h14, .ref h15, .int 0]))]) [0] rfl
            refine lz_sv (As := [.int 0]) (rest := []) ⟨hx, hb, hml, hown, hts⟩ (c_X12_piecesOf_0 l D cI cS h0 h1 h2 h3 h4 h5 h6 h7 h8 h9 h10 h11 h12 h13 h14 h15) hKK hPc (ci := 12) rfl rfl (cwV 1 hts gX12_count_X12_piecesOf rfl rfl rfl (by decide +kernel) ⟨Nat.le_of_ble_eq_true rfl, Nat.le_of_ble_eq_true rfl⟩) rfl hl.1 rfl (Nat.le_of_ble_eq_true rfl) dX12_count_69 ⟨Nat.le_of_ble_eq_true rfl, Nat.le_of_ble_eq_true rfl⟩ (fun r98 hw => ?_)
            subst hw
            have hP9 := hP.sub (ws' := []) [] rfl
            have hD9 := hD.sub (ws' := []) [] (by decide) rfl
            subst hAe
            exact W.iret (v := 0) hx hb hr (fun t ht hW => ⟨⟨_, (), rfl, by rw [if_neg k89, if_neg k90, if_neg k92, if_neg k94, if_pos rfl], by rw [ht]; exact hP9, hD9⟩, hS.F ht⟩) hS.2.2 dX12_count_72
          · by_cases k99 : x0 = 5
            · subst k99
              refine lv_tableIn (tgt := 73) (off := 72) hx hb dX12_count_1 (by decide) (by decide) rfl (by decide) ?_
              refine lv_aload_n hx hb dX12_count_73 rfl (lv_at hl 0 rfl) ?_
              refine va_get (D := D) (ci := 12) (v := .int 0) (C := RX12) (T := TX12) (N := 24) hx hb hts hin12 hown hK hP 0 rfl rfl 10 (by decide) (hts (.fieldLink RX12 101 "MissedPointsModel" "taped" "I") (by decide +kernel)) (fun _ h9 => h9) rfl dX12_count_74 ?_
              have hP9 := hP.sub (ws' := []) [] rfl
              have hD9 := hD.sub (ws' := []) [] (by decide) rfl
              subst hAe
              exact W.iret (v := 0) hx hb hr (fun t ht hW => ⟨⟨_, (), rfl, by rw [if_neg k89, if_neg k90, if_neg k92, if_neg k94, if_neg k96, if_pos rfl], by rw [ht]; exact hP9, hD9⟩, hS.F ht⟩) hS.2.2 dX12_count_77
            · by_cases k100 : x0 = 6
              · subst k100
                refine lv_tableIn (tgt := 78) (off := 77) hx hb dX12_count_1 (by decide) (by decide) rfl (by decide) ?_
                refine lv_aload_n hx hb dX12_count_78 rfl (lv_at hl 0 rfl) ?_
                refine va_get (D := D) (ci := 12) (v := .int 1) (C := RX12) (T := TX12) (N := 24) hx hb hts hin12 hown hK hP 0 rfl rfl 1 (by decide) (hts (.fieldLink RX12 7 "MissedPointsModel" "z" "I") (by decide +kernel)) (fun _ h9 => h9) rfl dX12_count_79 ?_
                have hP9 := hP.sub (ws' := []) [] rfl
                have hD9 := hD.sub (ws' := []) [] (by decide) rfl
                subst hAe
                exact W.iret (v := 1) hx hb hr (fun t ht hW => ⟨⟨_, (), rfl, by rw [if_neg k89, if_neg k90, if_neg k92, if_neg k94, if_neg k96, if_neg k99, if_pos rfl], by rw [ht]; exact hP9, hD9⟩, hS.F ht⟩) hS.2.2 dX12_count_82
              · refine lv_tableOut (tgt := 83) hx hb dX12_count_1 (by have zf1 := mt (lz_eq x0 (0 : Int32)).mpr k89; have zf2 := mt (lz_eq x0 (1 : Int32)).mpr k90; have zf3 := mt (lz_eq x0 (2 : Int32)).mpr k92; have zf4 := mt (lz_eq x0 (3 : Int32)).mpr k94; have zf5 := mt (lz_eq x0 (4 : Int32)).mpr k96; have zf6 := mt (lz_eq x0 (5 : Int32)).mpr k99; have zf7 := mt (lz_eq x0 (6 : Int32)).mpr k100; have zn0 : (0 : Int32).toInt = 0 := (by decide); have zn1 : (1 : Int32).toInt = 1 := (by decide); have zn2 : (2 : Int32).toInt = 2 := (by decide); have zn3 : (3 : Int32).toInt = 3 := (by decide); have zn4 : (4 : Int32).toInt = 4 := (by decide); have zn5 : (5 : Int32).toInt = 5 := (by decide); have zn6 : (6 : Int32).toInt = 6 := (by decide); omega) (by decide) ?_
                refine lv_bipush (v := (-2)) hx hb dX12_count_83 (by decide) ?_
                have hP9 := hP.sub (ws' := []) [] rfl
                have hD9 := hD.sub (ws' := []) [] (by decide) rfl
                subst hAe
                exact W.iret (v := (-2)) hx hb hr (fun t ht hW => ⟨⟨_, (), rfl, by rw [if_neg k89, if_neg k90, if_neg k92, if_neg k94, if_neg k96, if_neg k99, if_neg k100], by rw [ht]; exact hP9, hD9⟩, hS.F ht⟩) hS.2.2 dX12_count_85
set_option maxHeartbeats 4000000 in
set_option maxRecDepth 100000 in
theorem c_X12_isSet_0 (l : Launch) (D : va_G) (cI cS : ClassId) (h0 h1 h2 h3 h4 h5 h6 h7 h8 h9 h10 h11 h12 h13 h14 h15 : Nat) (x0 : Int32) : Met l yX12_isSet wsX12_isSet ({ frames := 1, cells := 0, slots := 0, locals := 40 }) (PS D cI cS [(h0, .inr (12, [.int 0, .int 1, .ref h1, .ref h2, .ref h3, .ref h4, .ref h5, .ref h6, .ref h7, .ref h8, .int 0, .int 0, .int 0, .int 0, .int 0, .int 0, .ref h9, .ref h10, .ref h11, .ref h12, .ref h13, .ref h14, .ref h15, .int 0]))] [.ref h0, .int x0]) (vp_Si (fun r => r = if x0 = 0 then (1 : Int32) else (0 : Int32))) 0 0 (fun _ => False) := by
  refine Met.ofW (cc := cX12_isSet) (maxL := 2) (ret := (some .boolean)) (by decide) rfl ?_
  intro p e s m args below meth c s₁ B hml hv
  obtain ⟨rfl, hP, hKK⟩ := hv
  have hx := B.exec
  have hb := B.bytes
  have hr := B.returns
  have hts := atoms_spec (ws := wsX12_isSet) B.pre
  have hown : s.vm.findClass RX12 = some m.cls := findClass_of_methodNamed B.named
  have hlocks := B.notSynchronized
  have hK := hKK.1
  have hN := hKK.2
  have hl := lv_entry ([.ref h0, .int x0]) (n := 2) (Nat.le_of_ble_eq_true rfl)
  rw [lg_entry_eq]
  generalize (lg_sl ([.ref h0, .int x0]) ++ List.replicate (2 - (lg_sl ([.ref h0, .int x0])).length) Slot.unset).toArray = ls at hl ⊢
  have hl : lv_has ls 2 [(0, .ref h0), (1, .int x0)] := hl
  refine lv_iload_n hx hb dX12_isSet_0 rfl (lv_at hl 1 rfl) ?_
  refine lv_aload_n hx hb dX12_isSet_1 rfl (lv_at hl 0 rfl) ?_
  have hPc := hP.sub (ws' := [(h0, .inr (12, [.int 0, .int 1, .ref h1, .ref h2, .ref h3, .ref h4, .ref h5, .ref h6, .ref h7, .ref h8, .int 0, .int 0, .int 0, .int 0, .int 0, .int 0, .ref h9, .ref h10, .ref h11, .ref h12, .ref h13, .ref h14, .ref h15, .int 0]))]) [0] rfl
  refine lz_sv (As := []) (rest := [.int x0]) ⟨hx, hb, hml, hown, hts⟩ (c_X12_all_1 l D cI cS h0 h1 h2 h3 h4 h5 h6 h7 h8 h9 h10 h11 h12 h13 h14 h15) hKK hPc (ci := 12) rfl rfl (cwV 0 hts gX12_isSet_X12_all rfl rfl rfl (by decide +kernel) ⟨Nat.le_of_ble_eq_true rfl, Nat.le_of_ble_eq_true rfl⟩) rfl hl.1 rfl (Nat.le_of_ble_eq_true rfl) dX12_isSet_2 ⟨Nat.le_of_ble_eq_true rfl, Nat.le_of_ble_eq_true rfl⟩ (fun r103 hw => ?_)
  subst hw
  refine lv_iconst (v := (-1)) hx hb dX12_isSet_5 (by decide) ?_
  refine lv_ixor hx hb dX12_isSet_6 ?_
  refine lz_top (y := (-1)) (by decide) ?_
  refine lv_iand hx hb dX12_isSet_7 ?_
  refine lz_top (y := x0) (by simp) ?_
  refine lv_if_ne (tgt := 15) hx hb dX12_isSet_8 (by decide) (fun c104 => ?_) (fun c104 => ?_)
  · refine lv_iconst (v := 0) hx hb dX12_isSet_15 (by decide) ?_
    exact W.zret (v := 0) hx hb hr (by decide) (fun t ht hW => ⟨_, rfl, by rw [if_neg c104], ht⟩) (fun q hq => absurd hq List.not_mem_nil) dX12_isSet_16
  · subst c104
    refine lv_iconst (v := 1) hx hb dX12_isSet_11 (by decide) ?_
    refine lv_goto (tgt := 16) hx hb dX12_isSet_12 (by decide) ?_
    exact W.zret (v := 1) hx hb hr (by decide) (fun t ht hW => ⟨_, rfl, by rw [if_pos rfl], ht⟩) (fun q hq => absurd hq List.not_mem_nil) dX12_isSet_16
set_option maxHeartbeats 4000000 in
set_option maxRecDepth 100000 in
theorem c_X12_most_0 (l : Launch) (D : va_G) (cI cS : ClassId) (sz : Nat) (h0 h1 h2 h3 h4 h5 h6 h7 h8 h9 h10 h11 h12 h13 h14 h15 : Nat) (x0 : Int32) : Met l yX12_most wsX12_most ({ frames := 2, cells := 0, slots := 0, locals := 80 }) (PQ D cI cS [(h0, .inr (12, [.int 0, .int 1, .ref h1, .ref h2, .ref h3, .ref h4, .ref h5, .ref h6, .ref h7, .ref h8, .int 0, .int 0, .int 0, .int 0, .int 0, .int 0, .ref h9, .ref h10, .ref h11, .ref h12, .ref h13, .ref h14, .ref h15, .int 0])), (h2, .inl (cI, 4096, .inl (fun _ => 0))), (h3, .inl (cI, 4096, .inl (fun _ => 0)))] sz [.ref h0, .int x0]) (QI D [(h0, .inr (12, [.int 0, .int 1, .ref h1, .ref h2, .ref h3, .ref h4, .ref h5, .ref h6, .ref h7, .ref h8, .int 0, .int 0, .int 0, .int 0, .int 0, .int 0, .ref h9, .ref h10, .ref h11, .ref h12, .ref h13, .ref h14, .ref h15, .int 0])), (h2, .inl (cI, 4096, .inl (fun _ => 0))), (h3, .inl (cI, 4096, .inl (fun _ => 0)))] [] sz (fun r => r = if x0 = 0 then (0 : Int32) else ((-2) : Int32))) 0 0 (va_A [(h0, .inr (12, [.int 0, .int 1, .ref h1, .ref h2, .ref h3, .ref h4, .ref h5, .ref h6, .ref h7, .ref h8, .int 0, .int 0, .int 0, .int 0, .int 0, .int 0, .ref h9, .ref h10, .ref h11, .ref h12, .ref h13, .ref h14, .ref h15, .int 0])), (h2, .inl (cI, 4096, .inl (fun _ => 0))), (h3, .inl (cI, 4096, .inl (fun _ => 0)))] sz) := by
  refine Met.ofW (cc := cX12_most) (maxL := 2) (ret := (some .int)) (by decide) rfl ?_
  intro p e s m args below meth c s₁ B hml hv
  obtain ⟨rfl, hsz, hP, hKK, hD0⟩ := hv
  have hx := B.exec
  have hb := B.bytes
  have hr := B.returns
  have hts := atoms_spec (ws := wsX12_most) B.pre
  have hown : s.vm.findClass RX12 = some m.cls := findClass_of_methodNamed B.named
  have hlocks := B.notSynchronized
  have hK := hKK.1
  have hN := hKK.2
  have hin12 : ∀ w ∈ wsX120, w ∈ wsX12_most := by decide +kernel
  subst hsz
  have hD := hD0.self (sz := s.heap.size)
  obtain ⟨A, hAe⟩ : ∃ A, A = va_A [(h0, .inr (12, [.int 0, .int 1, .ref h1, .ref h2, .ref h3, .ref h4, .ref h5, .ref h6, .ref h7, .ref h8, .int 0, .int 0, .int 0, .int 0, .int 0, .int 0, .ref h9, .ref h10, .ref h11, .ref h12, .ref h13, .ref h14, .ref h15, .int 0])), (h2, .inl (cI, 4096, .inl (fun _ => 0))), (h3, .inl (cI, 4096, .inl (fun _ => 0)))] s.heap.size := ⟨_, rfl⟩
  rw [← hAe] at hD
  have hA : ∀ q : Nat, s.heap.size ≤ q → A q := fun q h => by rw [hAe]; exact Or.inr h
  have hS : va_S A s.heap s.heap [] := va_S.rf
  have hl := lv_entry ([.ref h0, .int x0]) (n := 2) (Nat.le_of_ble_eq_true rfl)
  rw [lg_entry_eq]
  generalize (lg_sl ([.ref h0, .int x0]) ++ List.replicate (2 - (lg_sl ([.ref h0, .int x0])).length) Slot.unset).toArray = ls at hl ⊢
  have hl : lv_has ls 2 [(0, .ref h0), (1, .int x0)] := hl
  refine lv_aload_n hx hb dX12_most_0 rfl (lv_at hl 0 rfl) ?_
  refine lv_iload_n hx hb dX12_most_1 rfl (lv_at hl 1 rfl) ?_
  have hPc := hP.sub (ws' := [(h0, .inr (12, [.int 0, .int 1, .ref h1, .ref h2, .ref h3, .ref h4, .ref h5, .ref h6, .ref h7, .ref h8, .int 0, .int 0, .int 0, .int 0, .int 0, .int 0, .ref h9, .ref h10, .ref h11, .ref h12, .ref h13, .ref h14, .ref h15, .int 0]))]) [0] rfl
  refine lz_sv (As := [.int x0]) (rest := []) ⟨hx, hb, hml, hown, hts⟩ (c_X12_isSet_0 l D cI cS h0 h1 h2 h3 h4 h5 h6 h7 h8 h9 h10 h11 h12 h13 h14 h15 x0) hKK hPc (ci := 12) rfl rfl (cwV 1 hts gX12_most_X12_isSet rfl rfl rfl (by decide +kernel) ⟨Nat.le_of_ble_eq_true rfl, Nat.le_of_ble_eq_true rfl⟩) rfl hl.1 rfl (Nat.le_of_ble_eq_true rfl) dX12_most_2 ⟨Nat.le_of_ble_eq_true rfl, Nat.le_of_ble_eq_true rfl⟩ (fun r110 hw => ?_)
  by_cases k111 : x0 = 0
  · rw [if_pos k111] at hw
    subst k111
    subst hw
    refine lv_if_ne (tgt := 11) hx hb dX12_most_5 (by decide) (fun c112 => ?_) (fun c112 => ?_)
    · refine lv_aload_n hx hb dX12_most_11 rfl (lv_at hl 0 rfl) ?_
      have hPc := hP.sub (ws' := [(h0, .inr (12, [.int 0, .int 1, .ref h1, .ref h2, .ref h3, .ref h4, .ref h5, .ref h6, .ref h7, .ref h8, .int 0, .int 0, .int 0, .int 0, .int 0, .int 0, .ref h9, .ref h10, .ref h11, .ref h12, .ref h13, .ref h14, .ref h15, .int 0])), (h3, .inl (cI, 4096, .inl (fun _ => 0)))]) [0, 2] rfl
      have hDc := hD.sub (ws' := [(h0, .inr (12, [.int 0, .int 1, .ref h1, .ref h2, .ref h3, .ref h4, .ref h5, .ref h6, .ref h7, .ref h8, .int 0, .int 0, .int 0, .int 0, .int 0, .int 0, .ref h9, .ref h10, .ref h11, .ref h12, .ref h13, .ref h14, .ref h15, .int 0])), (h3, .inl (cI, 4096, .inl (fun _ => 0)))]) [0, 2] (by decide) rfl
      refine lz_qv (wr := [(h2, .inl (cI, 4096, .inl (fun _ => 0)))]) (w1 := [(h0, .inr (12, [.int 0, .int 1, .ref h1, .ref h2, .ref h3, .ref h4, .ref h5, .ref h6, .ref h7, .ref h8, .int 0, .int 0, .int 0, .int 0, .int 0, .int 0, .ref h9, .ref h10, .ref h11, .ref h12, .ref h13, .ref h14, .ref h15, .int 0])), (h3, .inl (cI, 4096, .inl (upd (fun _ => 0) 0 1)))]) (As := []) (rest := []) ⟨hx, hb, hml, hown, hts⟩ (c_X12_reckons_0 l D cI cS _ h0 h1 h2 h3 h4 h5 h6 h7 h8 h9 h10 h11 h12 h13 h14 h15) hKK hP hD hS hA [0, 2] [1] (by decide) rfl rfl (by decide) (by decide) hPc hDc (ci := 12) rfl rfl (cwV 0 hts gX12_most_X12_reckons rfl rfl rfl (by decide +kernel) ⟨Nat.le_of_ble_eq_true rfl, Nat.le_of_ble_eq_true rfl⟩) rfl hl.1 rfl (Nat.le_of_ble_eq_true rfl) dX12_most_12 ⟨Nat.le_of_ble_eq_true rfl, Nat.le_of_ble_eq_true rfl⟩ (fun H locs hP hD hS => ?_)
      have hP : va_P D cls [(h2, .inl (cI, 4096, .inl (fun _ => 0))), (h0, .inr (12, [.int 0, .int 1, .ref h1, .ref h2, .ref h3, .ref h4, .ref h5, .ref h6, .ref h7, .ref h8, .int 0, .int 0, .int 0, .int 0, .int 0, .int 0, .ref h9, .ref h10, .ref h11, .ref h12, .ref h13, .ref h14, .ref h15, .int 0])), (h3, .inl (cI, 4096, .inl (upd (fun _ => 0) 0 1)))] H := hP
      have hD : va_D A [(h2, .inl (cI, 4096, .inl (fun _ => 0))), (h0, .inr (12, [.int 0, .int 1, .ref h1, .ref h2, .ref h3, .ref h4, .ref h5, .ref h6, .ref h7, .ref h8, .int 0, .int 0, .int 0, .int 0, .int 0, .int 0, .ref h9, .ref h10, .ref h11, .ref h12, .ref h13, .ref h14, .ref h15, .int 0])), (h3, .inl (cI, 4096, .inl (upd (fun _ => 0) 0 1)))] := hD
      refine lv_aload_n hx hb dX12_most_15 rfl (lv_at hl 0 rfl) ?_
      refine va_get (D := D) (ci := 12) (v := .ref h2) (C := RX12) (T := TX12) (N := 24) hx hb hts hin12 hown hK hP 1 rfl rfl 3 (by decide) (hts (.fieldLink RX12 17 "MissedPointsModel" "pairs" "[I") (by decide +kernel)) (fun _ h9 => h9) rfl dX12_most_16 ?_
      refine lv_iload_n hx hb dX12_most_19 rfl (lv_at hl 1 rfl) ?_
      refine va_iald hx hb hK hP 0 0 rfl rfl (lz_vp (x := 0) (n := 4096) (by decide) (by decide)) dX12_most_20 ?_
      refine lz_top (y := 0) rfl ?_
      have hP9 := hP.sub (ws' := []) [] rfl
      have hD9 := hD.sub (ws' := []) [] (by decide) rfl
      subst hAe
      exact W.iret (v := 0) hx hb hr (fun t ht hW => ⟨⟨_, (), rfl, by rw [if_pos rfl], by rw [ht]; exact hP9, hD9⟩, hS.F ht⟩) hS.2.2 dX12_most_21
    · exact absurd c112 (by decide)
  · rw [if_neg k111] at hw
    subst hw
    refine lv_if_ne (tgt := 11) hx hb dX12_most_5 (by decide) (fun c114 => ?_) (fun c114 => ?_)
    · exact absurd c114 (by decide)
    · refine lv_bipush (v := (-2)) hx hb dX12_most_8 (by decide) ?_
      have hP9 := hP.sub (ws' := []) [] rfl
      have hD9 := hD.sub (ws' := []) [] (by decide) rfl
      subst hAe
      exact W.iret (v := (-2)) hx hb hr (fun t ht hW => ⟨⟨_, (), rfl, by rw [if_neg k111], by rw [ht]; exact hP9, hD9⟩, hS.F ht⟩) hS.2.2 dX12_most_10
set_option maxHeartbeats 4000000 in
set_option maxRecDepth 100000 in
theorem c_X12_mate_0 (l : Launch) (D : va_G) (cI cS : ClassId) (h0 h1 h2 h3 h4 h5 h6 h7 h8 h9 h10 h11 h12 h13 h14 h15 : Nat) (x0 : Int32) : Met l yX12_mate wsX12_mate ({ frames := 2, cells := 0, slots := 0, locals := 80 }) (PS D cI cS [(h0, .inr (12, [.int 0, .int 1, .ref h1, .ref h2, .ref h3, .ref h4, .ref h5, .ref h6, .ref h7, .ref h8, .int 0, .int 0, .int 0, .int 0, .int 0, .int 0, .ref h9, .ref h10, .ref h11, .ref h12, .ref h13, .ref h14, .ref h15, .int 0]))] [.ref h0, .int x0]) (vp_Si (fun r => r = ((-2) : Int32))) 0 0 (fun _ => False) := by
  refine Met.ofW (cc := cX12_mate) (maxL := 2) (ret := (some .int)) (by decide) rfl ?_
  intro p e s m args below meth c s₁ B hml hv
  obtain ⟨rfl, hP, hKK⟩ := hv
  have hx := B.exec
  have hb := B.bytes
  have hr := B.returns
  have hts := atoms_spec (ws := wsX12_mate) B.pre
  have hown : s.vm.findClass RX12 = some m.cls := findClass_of_methodNamed B.named
  have hlocks := B.notSynchronized
  have hK := hKK.1
  have hN := hKK.2
  have hl := lv_entry ([.ref h0, .int x0]) (n := 2) (Nat.le_of_ble_eq_true rfl)
  rw [lg_entry_eq]
  generalize (lg_sl ([.ref h0, .int x0]) ++ List.replicate (2 - (lg_sl ([.ref h0, .int x0])).length) Slot.unset).toArray = ls at hl ⊢
  have hl : lv_has ls 2 [(0, .ref h0), (1, .int x0)] := hl
  refine lv_aload_n hx hb dX12_mate_0 rfl (lv_at hl 0 rfl) ?_
  refine lv_iload_n hx hb dX12_mate_1 rfl (lv_at hl 1 rfl) ?_
  have hPc := hP.sub (ws' := [(h0, .inr (12, [.int 0, .int 1, .ref h1, .ref h2, .ref h3, .ref h4, .ref h5, .ref h6, .ref h7, .ref h8, .int 0, .int 0, .int 0, .int 0, .int 0, .int 0, .ref h9, .ref h10, .ref h11, .ref h12, .ref h13, .ref h14, .ref h15, .int 0]))]) [0] rfl
  refine lz_sv (As := [.int x0]) (rest := []) ⟨hx, hb, hml, hown, hts⟩ (c_X12_isPoint_0 l D cI cS h0 h1 h2 h3 h4 h5 h6 h7 h8 h9 h10 h11 h12 h13 h14 h15 x0) hKK hPc (ci := 12) rfl rfl (cwV 1 hts gX12_mate_X12_isPoint rfl rfl rfl (by decide +kernel) ⟨Nat.le_of_ble_eq_true rfl, Nat.le_of_ble_eq_true rfl⟩) rfl hl.1 rfl (Nat.le_of_ble_eq_true rfl) dX12_mate_2 ⟨Nat.le_of_ble_eq_true rfl, Nat.le_of_ble_eq_true rfl⟩ (fun r117 hw => ?_)
  subst hw
  refine lv_if_ne (tgt := 11) hx hb dX12_mate_5 (by decide) (fun c118 => ?_) (fun c118 => ?_)
  · exact absurd c118 (by decide)
  · refine lv_bipush (v := (-2)) hx hb dX12_mate_8 (by decide) ?_
    exact W.iret (v := (-2)) hx hb hr (fun t ht hW => ⟨_, rfl, rfl, ht⟩) (fun q hq => absurd hq List.not_mem_nil) dX12_mate_10
set_option maxHeartbeats 4000000 in
set_option maxRecDepth 100000 in
theorem c_X12_in_2 (l : Launch) (D : va_G) (cI cS : ClassId) (x0 : Int32) : Met l yX12_in wsX12_in ({ frames := 0, cells := 0, slots := 0, locals := 0 }) (PS D cI cS [] [.int x0, .int 0, .int 6]) (vp_Si (fun r => r = if x0 < 0 then (0 : Int32) else (if (6 : Int32) < x0 then (0 : Int32) else (1 : Int32)))) 0 0 (fun _ => False) := by
  refine Met.ofW (cc := cX12_in) (maxL := 3) (ret := (some .boolean)) (by decide) rfl ?_
  intro p e s m args below meth c s₁ B hml hv
  obtain ⟨rfl, hP, hKK⟩ := hv
  have hx := B.exec
  have hb := B.bytes
  have hr := B.returns
  have hts := atoms_spec (ws := wsX12_in) B.pre
  have hown : s.vm.findClass RX12 = some m.cls := findClass_of_methodNamed B.named
  have hlocks := B.notSynchronized
  have hK := hKK.1
  have hN := hKK.2
  have hl := lv_entry ([.int x0, .int 0, .int 6]) (n := 3) (Nat.le_of_ble_eq_true rfl)
  rw [lg_entry_eq]
  generalize (lg_sl ([.int x0, .int 0, .int 6]) ++ List.replicate (3 - (lg_sl ([.int x0, .int 0, .int 6])).length) Slot.unset).toArray = ls at hl ⊢
  have hl : lv_has ls 3 [(0, .int x0), (1, .int 0), (2, .int 6)] := hl
  refine lv_iload_n hx hb dX12_in_0 rfl (lv_at hl 0 rfl) ?_
  refine lv_iload_n hx hb dX12_in_1 rfl (lv_at hl 1 rfl) ?_
  refine lv_icmp_lt (tgt := 14) hx hb dX12_in_2 (by decide) (fun c121 => ?_) (fun c121 => ?_)
  · refine lv_iconst (v := 0) hx hb dX12_in_14 (by decide) ?_
    exact W.zret (v := 0) hx hb hr (by decide) (fun t ht hW => ⟨_, rfl, by rw [if_pos c121], ht⟩) (fun q hq => absurd hq List.not_mem_nil) dX12_in_15
  · refine lv_iload_n hx hb dX12_in_5 rfl (lv_at hl 0 rfl) ?_
    refine lv_iload_n hx hb dX12_in_6 rfl (lv_at hl 2 rfl) ?_
    refine lv_icmp_gt (tgt := 14) hx hb dX12_in_7 (by decide) (fun c122 => ?_) (fun c122 => ?_)
    · refine lv_iconst (v := 0) hx hb dX12_in_14 (by decide) ?_
      exact W.zret (v := 0) hx hb hr (by decide) (fun t ht hW => ⟨_, rfl, by rw [if_neg c121, if_pos c122], ht⟩) (fun q hq => absurd hq List.not_mem_nil) dX12_in_15
    · refine lv_iconst (v := 1) hx hb dX12_in_10 (by decide) ?_
      refine lv_goto (tgt := 15) hx hb dX12_in_11 (by decide) ?_
      exact W.zret (v := 1) hx hb hr (by decide) (fun t ht hW => ⟨_, rfl, by rw [if_neg c121, if_neg c122], ht⟩) (fun q hq => absurd hq List.not_mem_nil) dX12_in_15
set_option maxHeartbeats 4000000 in
set_option maxRecDepth 100000 in
theorem c_X12_all_2 (l : Launch) (D : va_G) (cI cS : ClassId) (h0 h1 h2 h3 h4 h5 h6 h7 h8 h9 h10 h11 h12 h13 h14 h15 : Nat) : Met l yX12_all wsX12_all ({ frames := 0, cells := 0, slots := 0, locals := 0 }) (PS D cI cS [(h0, .inr (12, [.int 0, .int 1, .ref h1, .ref h2, .ref h3, .ref h4, .ref h5, .ref h6, .ref h7, .ref h8, .int 0, .int 0, .int 0, .int 0, .int 0, .int 0, .ref h9, .ref h10, .ref h11, .ref h12, .ref h13, .ref h14, .ref h15, .int 0]))] [.ref h0]) (vp_Si (fun r => r = (0 : Int32))) 0 0 (fun _ => False) := by
  refine Met.ofW (cc := cX12_all) (maxL := 1) (ret := (some .int)) (by decide) rfl ?_
  intro p e s m args below meth c s₁ B hml hv
  obtain ⟨rfl, hP, hKK⟩ := hv
  have hx := B.exec
  have hb := B.bytes
  have hr := B.returns
  have hts := atoms_spec (ws := wsX12_all) B.pre
  have hown : s.vm.findClass RX12 = some m.cls := findClass_of_methodNamed B.named
  have hlocks := B.notSynchronized
  have hK := hKK.1
  have hN := hKK.2
  have hin12 : ∀ w ∈ wsX120, w ∈ wsX12_all := by decide +kernel
  have hl := lv_entry ([.ref h0]) (n := 1) (Nat.le_of_ble_eq_true rfl)
  rw [lg_entry_eq]
  generalize (lg_sl ([.ref h0]) ++ List.replicate (1 - (lg_sl ([.ref h0])).length) Slot.unset).toArray = ls at hl ⊢
  have hl : lv_has ls 1 [(0, .ref h0)] := hl
  refine lv_iconst (v := 1) hx hb dX12_all_0 (by decide) ?_
  refine lv_aload_n hx hb dX12_all_1 rfl (lv_at hl 0 rfl) ?_
  refine va_get (D := D) (ci := 12) (v := .int 0) (C := RX12) (T := TX12) (N := 24) hx hb hts hin12 hown hK hP 0 rfl rfl 0 (by decide) (hts (.fieldLink RX12 63 "MissedPointsModel" "many" "I") (by decide +kernel)) (fun _ h9 => h9) rfl dX12_all_2 ?_
  refine lv_ishl hx hb dX12_all_5 ?_
  refine lz_top (y := 1) (by decide) ?_
  refine lv_iconst (v := 1) hx hb dX12_all_6 (by decide) ?_
  refine lv_isub hx hb dX12_all_7 ?_
  refine lz_top (y := 0) (by decide) ?_
  exact W.iret (v := 0) hx hb hr (fun t ht hW => ⟨_, rfl, rfl, ht⟩) (fun q hq => absurd hq List.not_mem_nil) dX12_all_8
set_option maxHeartbeats 4000000 in
set_option maxRecDepth 100000 in
theorem c_X12_ways_0 (l : Launch) (D : va_G) (cI cS : ClassId) (sz : Nat) (h0 h1 h2 h3 h4 h5 h6 h7 h8 h9 h10 h11 h12 h13 h14 h15 : Nat) (x0 : Int32) : Met l yX12_ways wsX12_ways ({ frames := 1, cells := 0, slots := 0, locals := 40 }) (PQ D cI cS [(h0, .inr (12, [.int 0, .int 1, .ref h1, .ref h2, .ref h3, .ref h4, .ref h5, .ref h6, .ref h7, .ref h8, .int 0, .int 0, .int 0, .int 0, .int 0, .int 0, .ref h9, .ref h10, .ref h11, .ref h12, .ref h13, .ref h14, .ref h15, .int 0])), (h4, .inl (cI, 28672, .inl (fun _ => 0)))] sz [.ref h0, .int x0]) (QI D [(h0, .inr (12, [.int 0, .int 1, .ref h1, .ref h2, .ref h3, .ref h4, .ref h5, .ref h6, .ref h7, .ref h8, .int 0, .int 0, .int 0, .int 0, .int 0, .int 0, .ref h9, .ref h10, .ref h11, .ref h12, .ref h13, .ref h14, .ref h15, .int 0])), (h4, .inl (cI, 28672, .inl (fun _ => 0)))] [] sz (fun r => r = if x0 < 0 then ((-2) : Int32) else (if (6 : Int32) < x0 then ((-2) : Int32) else (if x0 = 0 then (1 : Int32) else (0 : Int32))))) 0 0 (va_A [(h0, .inr (12, [.int 0, .int 1, .ref h1, .ref h2, .ref h3, .ref h4, .ref h5, .ref h6, .ref h7, .ref h8, .int 0, .int 0, .int 0, .int 0, .int 0, .int 0, .ref h9, .ref h10, .ref h11, .ref h12, .ref h13, .ref h14, .ref h15, .int 0])), (h4, .inl (cI, 28672, .inl (fun _ => 0)))] sz) := by
  refine Met.ofW (cc := cX12_ways) (maxL := 7) (ret := (some .int)) (by decide) rfl ?_
  intro p e s m args below meth c s₁ B hml hv
  obtain ⟨rfl, hsz, hP, hKK, hD0⟩ := hv
  have hx := B.exec
  have hb := B.bytes
  have hr := B.returns
  have hts := atoms_spec (ws := wsX12_ways) B.pre
  have hown : s.vm.findClass RX12 = some m.cls := findClass_of_methodNamed B.named
  have hlocks := B.notSynchronized
  have hK := hKK.1
  have hN := hKK.2
  have hin12 : ∀ w ∈ wsX120, w ∈ wsX12_ways := by decide +kernel
  subst hsz
  have hD := hD0.self (sz := s.heap.size)
  obtain ⟨A, hAe⟩ : ∃ A, A = va_A [(h0, .inr (12, [.int 0, .int 1, .ref h1, .ref h2, .ref h3, .ref h4, .ref h5, .ref h6, .ref h7, .ref h8, .int 0, .int 0, .int 0, .int 0, .int 0, .int 0, .ref h9, .ref h10, .ref h11, .ref h12, .ref h13, .ref h14, .ref h15, .int 0])), (h4, .inl (cI, 28672, .inl (fun _ => 0)))] s.heap.size := ⟨_, rfl⟩
  rw [← hAe] at hD
  have hA : ∀ q : Nat, s.heap.size ≤ q → A q := fun q h => by rw [hAe]; exact Or.inr h
  have hS : va_S A s.heap s.heap [] := va_S.rf
  have hl := lv_entry ([.ref h0, .int x0]) (n := 7) (Nat.le_of_ble_eq_true rfl)
  rw [lg_entry_eq]
  generalize (lg_sl ([.ref h0, .int x0]) ++ List.replicate (7 - (lg_sl ([.ref h0, .int x0])).length) Slot.unset).toArray = ls at hl ⊢
  have hl : lv_has ls 7 [(0, .ref h0), (1, .int x0)] := hl
  refine lv_iload_n hx hb dX12_ways_0 rfl (lv_at hl 1 rfl) ?_
  refine lv_iconst (v := 0) hx hb dX12_ways_1 (by decide) ?_
  refine lv_bipush (v := 6) hx hb dX12_ways_2 (by decide) ?_
  have hPc := hP.sub (ws' := []) [] rfl
  refine lz_ss (As := [.int x0, .int 0, .int 6]) (rest := []) ⟨hx, hb, hml, hown, hts⟩ (c_X12_in_2 l D cI cS x0) hKK hPc (va_cwS 3 hts gX12_ways_X12_in rfl rfl rfl (by decide +kernel) ⟨Nat.le_of_ble_eq_true rfl, Nat.le_of_ble_eq_true rfl⟩) rfl hl.1 rfl (Nat.le_of_ble_eq_true rfl) dX12_ways_4 ⟨Nat.le_of_ble_eq_true rfl, Nat.le_of_ble_eq_true rfl⟩ (fun r153 hw => ?_)
  by_cases k154 : x0 < 0
  · rw [if_pos k154] at hw
    subst hw
    refine lv_if_ne (tgt := 13) hx hb dX12_ways_7 (by decide) (fun c155 => ?_) (fun c155 => ?_)
    · exact absurd c155 (by decide)
    · refine lv_bipush (v := (-2)) hx hb dX12_ways_10 (by decide) ?_
      have hP9 := hP.sub (ws' := []) [] rfl
      have hD9 := hD.sub (ws' := []) [] (by decide) rfl
      subst hAe
      exact W.iret (v := (-2)) hx hb hr (fun t ht hW => ⟨⟨_, (), rfl, by rw [if_pos k154], by rw [ht]; exact hP9, hD9⟩, hS.F ht⟩) hS.2.2 dX12_ways_12
  · rw [if_neg k154] at hw
    by_cases k156 : (6 : Int32) < x0
    · rw [if_pos k156] at hw
      subst hw
      refine lv_if_ne (tgt := 13) hx hb dX12_ways_7 (by decide) (fun c157 => ?_) (fun c157 => ?_)
      · exact absurd c157 (by decide)
      · refine lv_bipush (v := (-2)) hx hb dX12_ways_10 (by decide) ?_
        have hP9 := hP.sub (ws' := []) [] rfl
        have hD9 := hD.sub (ws' := []) [] (by decide) rfl
        subst hAe
        exact W.iret (v := (-2)) hx hb hr (fun t ht hW => ⟨⟨_, (), rfl, by rw [if_neg k154, if_pos k156], by rw [ht]; exact hP9, hD9⟩, hS.F ht⟩) hS.2.2 dX12_ways_12
    · rw [if_neg k156] at hw
      subst hw
      refine lv_if_ne (tgt := 13) hx hb dX12_ways_7 (by decide) (fun c158 => ?_) (fun c158 => ?_)
      · refine lv_iconst (v := 0) hx hb dX12_ways_13 (by decide) ?_
        refine lv_istore_n (lv' := [(2, .int 0), (0, .ref h0), (1, .int x0)]) hx hb dX12_ways_14 rfl hl (by decide) rfl (fun ls hl => ?_)
        refine lv_iload_n hx hb dX12_ways_15 rfl (lv_at hl 0 rfl) ?_
        refine lv_bipush (v := 7) hx hb dX12_ways_16 (by decide) ?_
        refine lv_icmp_ge (tgt := 42) hx hb dX12_ways_18 (by decide) (fun c159 => ?_) (fun c159 => ?_)
        · exact absurd c159 (by decide)
        · refine lv_aload_n hx hb dX12_ways_21 rfl (lv_at hl 1 rfl) ?_
          refine va_get (D := D) (ci := 12) (v := .ref h4) (C := RX12) (T := TX12) (N := 24) hx hb hts hin12 hown hK hP 0 rfl rfl 5 (by decide) (hts (.fieldLink RX12 23 "MissedPointsModel" "sizedWays" "[I") (by decide +kernel)) (fun _ h9 => h9) rfl dX12_ways_22 ?_
          refine lv_iload_n hx hb dX12_ways_25 rfl (lv_at hl 0 rfl) ?_
          refine lv_iload_n hx hb dX12_ways_26 rfl (lv_at hl 0 rfl) ?_
          refine lv_if_ne (tgt := 34) hx hb dX12_ways_27 (by decide) (fun c160 => ?_) (fun c160 => ?_)
          · exact absurd c160 (by decide)
          · refine lv_iconst (v := 1) hx hb dX12_ways_30 (by decide) ?_
            refine lv_goto (tgt := 35) hx hb dX12_ways_31 (by decide) ?_
            refine va_iast hx hb hK hP hD hS 1 0 rfl rfl (lz_vp (x := 0) (n := 28672) (by decide) (by decide)) dX12_ways_35 (fun H locs hP hD hS => ?_)
            have hP : va_P D cls [(h0, .inr (12, [.int 0, .int 1, .ref h1, .ref h2, .ref h3, .ref h4, .ref h5, .ref h6, .ref h7, .ref h8, .int 0, .int 0, .int 0, .int 0, .int 0, .int 0, .ref h9, .ref h10, .ref h11, .ref h12, .ref h13, .ref h14, .ref h15, .int 0])), (h4, .inl (cI, 28672, .inl (upd (fun _ => 0) 0 1)))] H := hP
            have hD : va_D A [(h0, .inr (12, [.int 0, .int 1, .ref h1, .ref h2, .ref h3, .ref h4, .ref h5, .ref h6, .ref h7, .ref h8, .int 0, .int 0, .int 0, .int 0, .int 0, .int 0, .ref h9, .ref h10, .ref h11, .ref h12, .ref h13, .ref h14, .ref h15, .int 0])), (h4, .inl (cI, 28672, .inl (upd (fun _ => 0) 0 1)))] := hD
            refine lv_iinc (v := 1) (lv' := [(2, .int 1), (0, .ref h0), (1, .int x0)]) hx hb dX12_ways_36 hl (k := 0) rfl (by decide) (by decide) rfl (fun ls hl => ?_)
            refine lv_goto (tgt := 15) hx hb dX12_ways_39 (by decide) ?_
            refine lv_iload_n hx hb dX12_ways_15 rfl (lv_at hl 0 rfl) ?_
            refine lv_bipush (v := 7) hx hb dX12_ways_16 (by decide) ?_
            refine lv_icmp_ge (tgt := 42) hx hb dX12_ways_18 (by decide) (fun c161 => ?_) (fun c161 => ?_)
            · exact absurd c161 (by decide)
            · refine lv_aload_n hx hb dX12_ways_21 rfl (lv_at hl 1 rfl) ?_
              refine va_get (D := D) (ci := 12) (v := .ref h4) (C := RX12) (T := TX12) (N := 24) hx hb hts hin12 hown hK hP 0 rfl rfl 5 (by decide) (hts (.fieldLink RX12 23 "MissedPointsModel" "sizedWays" "[I") (by decide +kernel)) (fun _ h9 => h9) rfl dX12_ways_22 ?_
              refine lv_iload_n hx hb dX12_ways_25 rfl (lv_at hl 0 rfl) ?_
              refine lv_iload_n hx hb dX12_ways_26 rfl (lv_at hl 0 rfl) ?_
              refine lv_if_ne (tgt := 34) hx hb dX12_ways_27 (by decide) (fun c162 => ?_) (fun c162 => ?_)
              · refine lv_iconst (v := 0) hx hb dX12_ways_34 (by decide) ?_
                refine va_iast hx hb hK hP hD hS 1 0 rfl rfl (lz_vp (x := 1) (n := 28672) (by decide) (by decide)) dX12_ways_35 (fun H locs hP hD hS => ?_)
                have hP : va_P D cls [(h0, .inr (12, [.int 0, .int 1, .ref h1, .ref h2, .ref h3, .ref h4, .ref h5, .ref h6, .ref h7, .ref h8, .int 0, .int 0, .int 0, .int 0, .int 0, .int 0, .ref h9, .ref h10, .ref h11, .ref h12, .ref h13, .ref h14, .ref h15, .int 0])), (h4, .inl (cI, 28672, .inl (upd (upd (fun _ => 0) 0 1) 1 0)))] H := hP
                have hD : va_D A [(h0, .inr (12, [.int 0, .int 1, .ref h1, .ref h2, .ref h3, .ref h4, .ref h5, .ref h6, .ref h7, .ref h8, .int 0, .int 0, .int 0, .int 0, .int 0, .int 0, .ref h9, .ref h10, .ref h11, .ref h12, .ref h13, .ref h14, .ref h15, .int 0])), (h4, .inl (cI, 28672, .inl (upd (upd (fun _ => 0) 0 1) 1 0)))] := hD
                refine lv_iinc (v := 2) (lv' := [(2, .int 2), (0, .ref h0), (1, .int x0)]) hx hb dX12_ways_36 hl (k := 0) rfl (by decide) (by decide) rfl (fun ls hl => ?_)
                refine lv_goto (tgt := 15) hx hb dX12_ways_39 (by decide) ?_
                refine lv_iload_n hx hb dX12_ways_15 rfl (lv_at hl 0 rfl) ?_
                refine lv_bipush (v := 7) hx hb dX12_ways_16 (by decide) ?_
                refine lv_icmp_ge (tgt := 42) hx hb dX12_ways_18 (by decide) (fun c163 => ?_) (fun c163 => ?_)
                · exact absurd c163 (by decide)
                · refine lv_aload_n hx hb dX12_ways_21 rfl (lv_at hl 1 rfl) ?_
                  refine va_get (D := D) (ci := 12) (v := .ref h4) (C := RX12) (T := TX12) (N := 24) hx hb hts hin12 hown hK hP 0 rfl rfl 5 (by decide) (hts (.fieldLink RX12 23 "MissedPointsModel" "sizedWays" "[I") (by decide +kernel)) (fun _ h9 => h9) rfl dX12_ways_22 ?_
                  refine lv_iload_n hx hb dX12_ways_25 rfl (lv_at hl 0 rfl) ?_
                  refine lv_iload_n hx hb dX12_ways_26 rfl (lv_at hl 0 rfl) ?_
                  refine lv_if_ne (tgt := 34) hx hb dX12_ways_27 (by decide) (fun c164 => ?_) (fun c164 => ?_)
                  · refine lv_iconst (v := 0) hx hb dX12_ways_34 (by decide) ?_
                    refine va_iast hx hb hK hP hD hS 1 0 rfl rfl (lz_vp (x := 2) (n := 28672) (by decide) (by decide)) dX12_ways_35 (fun H locs hP hD hS => ?_)
                    have hP : va_P D cls [(h0, .inr (12, [.int 0, .int 1, .ref h1, .ref h2, .ref h3, .ref h4, .ref h5, .ref h6, .ref h7, .ref h8, .int 0, .int 0, .int 0, .int 0, .int 0, .int 0, .ref h9, .ref h10, .ref h11, .ref h12, .ref h13, .ref h14, .ref h15, .int 0])), (h4, .inl (cI, 28672, .inl (upd (upd (upd (fun _ => 0) 0 1) 1 0) 2 0)))] H := hP
                    have hD : va_D A [(h0, .inr (12, [.int 0, .int 1, .ref h1, .ref h2, .ref h3, .ref h4, .ref h5, .ref h6, .ref h7, .ref h8, .int 0, .int 0, .int 0, .int 0, .int 0, .int 0, .ref h9, .ref h10, .ref h11, .ref h12, .ref h13, .ref h14, .ref h15, .int 0])), (h4, .inl (cI, 28672, .inl (upd (upd (upd (fun _ => 0) 0 1) 1 0) 2 0)))] := hD
                    refine lv_iinc (v := 3) (lv' := [(2, .int 3), (0, .ref h0), (1, .int x0)]) hx hb dX12_ways_36 hl (k := 0) rfl (by decide) (by decide) rfl (fun ls hl => ?_)
                    refine lv_goto (tgt := 15) hx hb dX12_ways_39 (by decide) ?_
                    refine lv_iload_n hx hb dX12_ways_15 rfl (lv_at hl 0 rfl) ?_
                    refine lv_bipush (v := 7) hx hb dX12_ways_16 (by decide) ?_
                    refine lv_icmp_ge (tgt := 42) hx hb dX12_ways_18 (by decide) (fun c165 => ?_) (fun c165 => ?_)
                    · exact absurd c165 (by decide)
                    · refine lv_aload_n hx hb dX12_ways_21 rfl (lv_at hl 1 rfl) ?_
                      refine va_get (D := D) (ci := 12) (v := .ref h4) (C := RX12) (T := TX12) (N := 24) hx hb hts hin12 hown hK hP 0 rfl rfl 5 (by decide) (hts (.fieldLink RX12 23 "MissedPointsModel" "sizedWays" "[I") (by decide +kernel)) (fun _ h9 => h9) rfl dX12_ways_22 ?_
                      refine lv_iload_n hx hb dX12_ways_25 rfl (lv_at hl 0 rfl) ?_
                      refine lv_iload_n hx hb dX12_ways_26 rfl (lv_at hl 0 rfl) ?_
                      refine lv_if_ne (tgt := 34) hx hb dX12_ways_27 (by decide) (fun c166 => ?_) (fun c166 => ?_)
                      · refine lv_iconst (v := 0) hx hb dX12_ways_34 (by decide) ?_
                        refine va_iast hx hb hK hP hD hS 1 0 rfl rfl (lz_vp (x := 3) (n := 28672) (by decide) (by decide)) dX12_ways_35 (fun H locs hP hD hS => ?_)
                        have hP : va_P D cls [(h0, .inr (12, [.int 0, .int 1, .ref h1, .ref h2, .ref h3, .ref h4, .ref h5, .ref h6, .ref h7, .ref h8, .int 0, .int 0, .int 0, .int 0, .int 0, .int 0, .ref h9, .ref h10, .ref h11, .ref h12, .ref h13, .ref h14, .ref h15, .int 0])), (h4, .inl (cI, 28672, .inl (upd (upd (upd (upd (fun _ => 0) 0 1) 1 0) 2 0) 3 0)))] H := hP
                        have hD : va_D A [(h0, .inr (12, [.int 0, .int 1, .ref h1, .ref h2, .ref h3, .ref h4, .ref h5, .ref h6, .ref h7, .ref h8, .int 0, .int 0, .int 0, .int 0, .int 0, .int 0, .ref h9, .ref h10, .ref h11, .ref h12, .ref h13, .ref h14, .ref h15, .int 0])), (h4, .inl (cI, 28672, .inl (upd (upd (upd (upd (fun _ => 0) 0 1) 1 0) 2 0) 3 0)))] := hD
                        refine lv_iinc (v := 4) (lv' := [(2, .int 4), (0, .ref h0), (1, .int x0)]) hx hb dX12_ways_36 hl (k := 0) rfl (by decide) (by decide) rfl (fun ls hl => ?_)
                        refine lv_goto (tgt := 15) hx hb dX12_ways_39 (by decide) ?_
                        refine lv_iload_n hx hb dX12_ways_15 rfl (lv_at hl 0 rfl) ?_
                        refine lv_bipush (v := 7) hx hb dX12_ways_16 (by decide) ?_
                        refine lv_icmp_ge (tgt := 42) hx hb dX12_ways_18 (by decide) (fun c167 => ?_) (fun c167 => ?_)
                        · exact absurd c167 (by decide)
                        · refine lv_aload_n hx hb dX12_ways_21 rfl (lv_at hl 1 rfl) ?_
                          refine va_get (D := D) (ci := 12) (v := .ref h4) (C := RX12) (T := TX12) (N := 24) hx hb hts hin12 hown hK hP 0 rfl rfl 5 (by decide) (hts (.fieldLink RX12 23 "MissedPointsModel" "sizedWays" "[I") (by decide +kernel)) (fun _ h9 => h9) rfl dX12_ways_22 ?_
                          refine lv_iload_n hx hb dX12_ways_25 rfl (lv_at hl 0 rfl) ?_
                          refine lv_iload_n hx hb dX12_ways_26 rfl (lv_at hl 0 rfl) ?_
                          refine lv_if_ne (tgt := 34) hx hb dX12_ways_27 (by decide) (fun c168 => ?_) (fun c168 => ?_)
                          · refine lv_iconst (v := 0) hx hb dX12_ways_34 (by decide) ?_
                            refine va_iast hx hb hK hP hD hS 1 0 rfl rfl (lz_vp (x := 4) (n := 28672) (by decide) (by decide)) dX12_ways_35 (fun H locs hP hD hS => ?_)
                            have hP : va_P D cls [(h0, .inr (12, [.int 0, .int 1, .ref h1, .ref h2, .ref h3, .ref h4, .ref h5, .ref h6, .ref h7, .ref h8, .int 0, .int 0, .int 0, .int 0, .int 0, .int 0, .ref h9, .ref h10, .ref h11, .ref h12, .ref h13, .ref h14, .ref h15, .int 0])), (h4, .inl (cI, 28672, .inl (upd (upd (upd (upd (upd (fun _ => 0) 0 1) 1 0) 2 0) 3 0) 4 0)))] H := hP
                            have hD : va_D A [(h0, .inr (12, [.int 0, .int 1, .ref h1, .ref h2, .ref h3, .ref h4, .ref h5, .ref h6, .ref h7, .ref h8, .int 0, .int 0, .int 0, .int 0, .int 0, .int 0, .ref h9, .ref h10, .ref h11, .ref h12, .ref h13, .ref h14, .ref h15, .int 0])), (h4, .inl (cI, 28672, .inl (upd (upd (upd (upd (upd (fun _ => 0) 0 1) 1 0) 2 0) 3 0) 4 0)))] := hD
                            refine lv_iinc (v := 5) (lv' := [(2, .int 5), (0, .ref h0), (1, .int x0)]) hx hb dX12_ways_36 hl (k := 0) rfl (by decide) (by decide) rfl (fun ls hl => ?_)
                            refine lv_goto (tgt := 15) hx hb dX12_ways_39 (by decide) ?_
                            refine lv_iload_n hx hb dX12_ways_15 rfl (lv_at hl 0 rfl) ?_
                            refine lv_bipush (v := 7) hx hb dX12_ways_16 (by decide) ?_
                            refine lv_icmp_ge (tgt := 42) hx hb dX12_ways_18 (by decide) (fun c169 => ?_) (fun c169 => ?_)
                            · exact absurd c169 (by decide)
                            · refine lv_aload_n hx hb dX12_ways_21 rfl (lv_at hl 1 rfl) ?_
                              refine va_get (D := D) (ci := 12) (v := .ref h4) (C := RX12) (T := TX12) (N := 24) hx hb hts hin12 hown hK hP 0 rfl rfl 5 (by decide) (hts (.fieldLink RX12 23 "MissedPointsModel" "sizedWays" "[I") (by decide +kernel)) (fun _ h9 => h9) rfl dX12_ways_22 ?_
                              refine lv_iload_n hx hb dX12_ways_25 rfl (lv_at hl 0 rfl) ?_
                              refine lv_iload_n hx hb dX12_ways_26 rfl (lv_at hl 0 rfl) ?_
                              refine lv_if_ne (tgt := 34) hx hb dX12_ways_27 (by decide) (fun c170 => ?_) (fun c170 => ?_)
                              · refine lv_iconst (v := 0) hx hb dX12_ways_34 (by decide) ?_
                                refine va_iast hx hb hK hP hD hS 1 0 rfl rfl (lz_vp (x := 5) (n := 28672) (by decide) (by decide)) dX12_ways_35 (fun H locs hP hD hS => ?_)
                                have hP : va_P D cls [(h0, .inr (12, [.int 0, .int 1, .ref h1, .ref h2, .ref h3, .ref h4, .ref h5, .ref h6, .ref h7, .ref h8, .int 0, .int 0, .int 0, .int 0, .int 0, .int 0, .ref h9, .ref h10, .ref h11, .ref h12, .ref h13, .ref h14, .ref h15, .int 0])), (h4, .inl (cI, 28672, .inl (upd (upd (upd (upd (upd (upd (fun _ => 0) 0 1) 1 0) 2 0) 3 0) 4 0) 5 0)))] H := hP
                                have hD : va_D A [(h0, .inr (12, [.int 0, .int 1, .ref h1, .ref h2, .ref h3, .ref h4, .ref h5, .ref h6, .ref h7, .ref h8, .int 0, .int 0, .int 0, .int 0, .int 0, .int 0, .ref h9, .ref h10, .ref h11, .ref h12, .ref h13, .ref h14, .ref h15, .int 0])), (h4, .inl (cI, 28672, .inl (upd (upd (upd (upd (upd (upd (fun _ => 0) 0 1) 1 0) 2 0) 3 0) 4 0) 5 0)))] := hD
                                refine lv_iinc (v := 6) (lv' := [(2, .int 6), (0, .ref h0), (1, .int x0)]) hx hb dX12_ways_36 hl (k := 0) rfl (by decide) (by decide) rfl (fun ls hl => ?_)
                                refine lv_goto (tgt := 15) hx hb dX12_ways_39 (by decide) ?_
                                refine lv_iload_n hx hb dX12_ways_15 rfl (lv_at hl 0 rfl) ?_
                                refine lv_bipush (v := 7) hx hb dX12_ways_16 (by decide) ?_
                                refine lv_icmp_ge (tgt := 42) hx hb dX12_ways_18 (by decide) (fun c171 => ?_) (fun c171 => ?_)
                                · exact absurd c171 (by decide)
                                · refine lv_aload_n hx hb dX12_ways_21 rfl (lv_at hl 1 rfl) ?_
                                  refine va_get (D := D) (ci := 12) (v := .ref h4) (C := RX12) (T := TX12) (N := 24) hx hb hts hin12 hown hK hP 0 rfl rfl 5 (by decide) (hts (.fieldLink RX12 23 "MissedPointsModel" "sizedWays" "[I") (by decide +kernel)) (fun _ h9 => h9) rfl dX12_ways_22 ?_
                                  refine lv_iload_n hx hb dX12_ways_25 rfl (lv_at hl 0 rfl) ?_
                                  refine lv_iload_n hx hb dX12_ways_26 rfl (lv_at hl 0 rfl) ?_
                                  refine lv_if_ne (tgt := 34) hx hb dX12_ways_27 (by decide) (fun c172 => ?_) (fun c172 => ?_)
                                  · refine lv_iconst (v := 0) hx hb dX12_ways_34 (by decide) ?_
                                    refine va_iast hx hb hK hP hD hS 1 0 rfl rfl (lz_vp (x := 6) (n := 28672) (by decide) (by decide)) dX12_ways_35 (fun H locs hP hD hS => ?_)
                                    have hP : va_P D cls [(h0, .inr (12, [.int 0, .int 1, .ref h1, .ref h2, .ref h3, .ref h4, .ref h5, .ref h6, .ref h7, .ref h8, .int 0, .int 0, .int 0, .int 0, .int 0, .int 0, .ref h9, .ref h10, .ref h11, .ref h12, .ref h13, .ref h14, .ref h15, .int 0])), (h4, .inl (cI, 28672, .inl (upd (upd (upd (upd (upd (upd (upd (fun _ => 0) 0 1) 1 0) 2 0) 3 0) 4 0) 5 0) 6 0)))] H := hP
                                    have hD : va_D A [(h0, .inr (12, [.int 0, .int 1, .ref h1, .ref h2, .ref h3, .ref h4, .ref h5, .ref h6, .ref h7, .ref h8, .int 0, .int 0, .int 0, .int 0, .int 0, .int 0, .ref h9, .ref h10, .ref h11, .ref h12, .ref h13, .ref h14, .ref h15, .int 0])), (h4, .inl (cI, 28672, .inl (upd (upd (upd (upd (upd (upd (upd (fun _ => 0) 0 1) 1 0) 2 0) 3 0) 4 0) 5 0) 6 0)))] := hD
                                    refine lv_iinc (v := 7) (lv' := [(2, .int 7), (0, .ref h0), (1, .int x0)]) hx hb dX12_ways_36 hl (k := 0) rfl (by decide) (by decide) rfl (fun ls hl => ?_)
                                    refine lv_goto (tgt := 15) hx hb dX12_ways_39 (by decide) ?_
                                    refine lv_iload_n hx hb dX12_ways_15 rfl (lv_at hl 0 rfl) ?_
                                    refine lv_bipush (v := 7) hx hb dX12_ways_16 (by decide) ?_
                                    refine lv_icmp_ge (tgt := 42) hx hb dX12_ways_18 (by decide) (fun c173 => ?_) (fun c173 => ?_)
                                    · refine lv_iconst (v := 1) hx hb dX12_ways_42 (by decide) ?_
                                      refine lv_istore_n (lv' := [(2, .int 1), (0, .ref h0), (1, .int x0)]) hx hb dX12_ways_43 rfl hl (by decide) rfl (fun ls hl => ?_)
                                      refine lv_iload_n hx hb dX12_ways_44 rfl (lv_at hl 0 rfl) ?_
                                      refine lv_aload_n hx hb dX12_ways_45 rfl (lv_at hl 1 rfl) ?_
                                      have hPc := hP.sub (ws' := [(h0, .inr (12, [.int 0, .int 1, .ref h1, .ref h2, .ref h3, .ref h4, .ref h5, .ref h6, .ref h7, .ref h8, .int 0, .int 0, .int 0, .int 0, .int 0, .int 0, .ref h9, .ref h10, .ref h11, .ref h12, .ref h13, .ref h14, .ref h15, .int 0]))]) [0] rfl
                                      refine lz_sv (As := []) (rest := [.int 1]) ⟨hx, hb, hml, hown, hts⟩ (c_X12_all_2 l D cI cS h0 h1 h2 h3 h4 h5 h6 h7 h8 h9 h10 h11 h12 h13 h14 h15) hKK hPc (ci := 12) rfl rfl (cwV 0 hts gX12_ways_X12_all rfl rfl rfl (by decide +kernel) ⟨Nat.le_of_ble_eq_true rfl, Nat.le_of_ble_eq_true rfl⟩) rfl hl.1 rfl (Nat.le_of_ble_eq_true rfl) dX12_ways_46 ⟨Nat.le_of_ble_eq_true rfl, Nat.le_of_ble_eq_true rfl⟩ (fun r174 hw => ?_)
                                      subst hw
                                      refine lv_icmp_gt (tgt := 204) hx hb dX12_ways_49 (by decide) (fun c175 => ?_) (fun c175 => ?_)
                                      · refine lv_aload_n hx hb dX12_ways_204 rfl (lv_at hl 1 rfl) ?_
                                        refine va_get (D := D) (ci := 12) (v := .ref h4) (C := RX12) (T := TX12) (N := 24) hx hb hts hin12 hown hK hP 0 rfl rfl 5 (by decide) (hts (.fieldLink RX12 23 "MissedPointsModel" "sizedWays" "[I") (by decide +kernel)) (fun _ h9 => h9) rfl dX12_ways_205 ?_
                                        refine lv_bipush (v := 7) hx hb dX12_ways_208 (by decide) ?_
                                        refine lv_aload_n hx hb dX12_ways_210 rfl (lv_at hl 1 rfl) ?_
                                        have hPc := hP.sub (ws' := [(h0, .inr (12, [.int 0, .int 1, .ref h1, .ref h2, .ref h3, .ref h4, .ref h5, .ref h6, .ref h7, .ref h8, .int 0, .int 0, .int 0, .int 0, .int 0, .int 0, .ref h9, .ref h10, .ref h11, .ref h12, .ref h13, .ref h14, .ref h15, .int 0]))]) [0] rfl
                                        refine lz_sv (As := []) (rest := [.int 7, .ref h4]) ⟨hx, hb, hml, hown, hts⟩ (c_X12_all_2 l D cI cS h0 h1 h2 h3 h4 h5 h6 h7 h8 h9 h10 h11 h12 h13 h14 h15) hKK hPc (ci := 12) rfl rfl (cwV 0 hts gX12_ways_X12_all rfl rfl rfl (by decide +kernel) ⟨Nat.le_of_ble_eq_true rfl, Nat.le_of_ble_eq_true rfl⟩) rfl hl.1 rfl (Nat.le_of_ble_eq_true rfl) dX12_ways_211 ⟨Nat.le_of_ble_eq_true rfl, Nat.le_of_ble_eq_true rfl⟩ (fun r176 hw => ?_)
                                        subst hw
                                        refine lv_imul hx hb dX12_ways_214 ?_
                                        refine lz_top (y := 0) (by decide) ?_
                                        refine lv_iload_n hx hb dX12_ways_215 rfl (lv_at hl 2 rfl) ?_
                                        refine lv_iadd hx hb dX12_ways_216 ?_
                                        refine lz_top (y := x0) (by simp) ?_
                                        by_cases k177 : x0 = 0
                                        · subst k177
                                          refine va_iald hx hb hK hP 1 0 rfl rfl (lz_vp (x := 0) (n := 28672) (by decide) (by decide)) dX12_ways_217 ?_
                                          refine lz_top (y := 1) (by simp [upd]; try rfl) ?_
                                          have hP9 := hP.sub (ws' := []) [] rfl
                                          have hD9 := hD.sub (ws' := []) [] (by decide) rfl
                                          subst hAe
                                          exact W.iret (v := 1) hx hb hr (fun t ht hW => ⟨⟨_, (), rfl, by rw [if_neg k154, if_neg k156, if_pos rfl], by rw [ht]; exact hP9, hD9⟩, hS.F ht⟩) hS.2.2 dX12_ways_218
                                        · by_cases k178 : x0 = 1
                                          · subst k178
                                            refine va_iald hx hb hK hP 1 0 rfl rfl (lz_vp (x := 1) (n := 28672) (by decide) (by decide)) dX12_ways_217 ?_
                                            refine lz_top (y := 0) (by simp [upd]; try rfl) ?_
                                            have hP9 := hP.sub (ws' := []) [] rfl
                                            have hD9 := hD.sub (ws' := []) [] (by decide) rfl
                                            subst hAe
                                            exact W.iret (v := 0) hx hb hr (fun t ht hW => ⟨⟨_, (), rfl, by rw [if_neg k154, if_neg k156, if_neg k177], by rw [ht]; exact hP9, hD9⟩, hS.F ht⟩) hS.2.2 dX12_ways_218
                                          · by_cases k179 : x0 = 2
                                            · subst k179
                                              refine va_iald hx hb hK hP 1 0 rfl rfl (lz_vp (x := 2) (n := 28672) (by decide) (by decide)) dX12_ways_217 ?_
                                              refine lz_top (y := 0) (by simp [upd]; try rfl) ?_
                                              have hP9 := hP.sub (ws' := []) [] rfl
                                              have hD9 := hD.sub (ws' := []) [] (by decide) rfl
                                              subst hAe
                                              exact W.iret (v := 0) hx hb hr (fun t ht hW => ⟨⟨_, (), rfl, by rw [if_neg k154, if_neg k156, if_neg k177], by rw [ht]; exact hP9, hD9⟩, hS.F ht⟩) hS.2.2 dX12_ways_218
                                            · by_cases k180 : x0 = 3
                                              · subst k180
                                                refine va_iald hx hb hK hP 1 0 rfl rfl (lz_vp (x := 3) (n := 28672) (by decide) (by decide)) dX12_ways_217 ?_
                                                refine lz_top (y := 0) (by simp [upd]; try rfl) ?_
                                                have hP9 := hP.sub (ws' := []) [] rfl
                                                have hD9 := hD.sub (ws' := []) [] (by decide) rfl
                                                subst hAe
                                                exact W.iret (v := 0) hx hb hr (fun t ht hW => ⟨⟨_, (), rfl, by rw [if_neg k154, if_neg k156, if_neg k177], by rw [ht]; exact hP9, hD9⟩, hS.F ht⟩) hS.2.2 dX12_ways_218
                                              · by_cases k181 : x0 = 4
                                                · subst k181
                                                  refine va_iald hx hb hK hP 1 0 rfl rfl (lz_vp (x := 4) (n := 28672) (by decide) (by decide)) dX12_ways_217 ?_
                                                  refine lz_top (y := 0) (by simp [upd]; try rfl) ?_
                                                  have hP9 := hP.sub (ws' := []) [] rfl
                                                  have hD9 := hD.sub (ws' := []) [] (by decide) rfl
                                                  subst hAe
                                                  exact W.iret (v := 0) hx hb hr (fun t ht hW => ⟨⟨_, (), rfl, by rw [if_neg k154, if_neg k156, if_neg k177], by rw [ht]; exact hP9, hD9⟩, hS.F ht⟩) hS.2.2 dX12_ways_218
                                                · by_cases k182 : x0 = 5
                                                  · subst k182
                                                    refine va_iald hx hb hK hP 1 0 rfl rfl (lz_vp (x := 5) (n := 28672) (by decide) (by decide)) dX12_ways_217 ?_
                                                    refine lz_top (y := 0) (by simp [upd]; try rfl) ?_
                                                    have hP9 := hP.sub (ws' := []) [] rfl
                                                    have hD9 := hD.sub (ws' := []) [] (by decide) rfl
                                                    subst hAe
                                                    exact W.iret (v := 0) hx hb hr (fun t ht hW => ⟨⟨_, (), rfl, by rw [if_neg k154, if_neg k156, if_neg k177], by rw [ht]; exact hP9, hD9⟩, hS.F ht⟩) hS.2.2 dX12_ways_218
                                                  · obtain rfl : x0 = 6 := by have zf1 := mt (lz_lt x0 (0 : Int32)).mpr k154; have zf2 := mt (lz_lt (6 : Int32) x0).mpr k156; have zf3 := mt (lz_eq x0 (0 : Int32)).mpr k177; have zf4 := mt (lz_eq x0 (1 : Int32)).mpr k178; have zf5 := mt (lz_eq x0 (2 : Int32)).mpr k179; have zf6 := mt (lz_eq x0 (3 : Int32)).mpr k180; have zf7 := mt (lz_eq x0 (4 : Int32)).mpr k181; have zf8 := mt (lz_eq x0 (5 : Int32)).mpr k182; have zn0 : (0 : Int32).toInt = 0 := (by decide); have zn1 : (1 : Int32).toInt = 1 := (by decide); have zn2 : (2 : Int32).toInt = 2 := (by decide); have zn3 : (3 : Int32).toInt = 3 := (by decide); have zn4 : (4 : Int32).toInt = 4 := (by decide); have zn5 : (5 : Int32).toInt = 5 := (by decide); have zn6 : (6 : Int32).toInt = 6 := (by decide); rw [lz_eq]; omega
                                                    refine va_iald hx hb hK hP 1 0 rfl rfl (lz_vp (x := 6) (n := 28672) (by decide) (by decide)) dX12_ways_217 ?_
                                                    refine lz_top (y := 0) (by simp [upd]; try rfl) ?_
                                                    have hP9 := hP.sub (ws' := []) [] rfl
                                                    have hD9 := hD.sub (ws' := []) [] (by decide) rfl
                                                    subst hAe
                                                    exact W.iret (v := 0) hx hb hr (fun t ht hW => ⟨⟨_, (), rfl, by rw [if_neg k154, if_neg k156, if_neg k177], by rw [ht]; exact hP9, hD9⟩, hS.F ht⟩) hS.2.2 dX12_ways_218
                                      · exact absurd c175 (by decide)
                                    · exact absurd c173 (by decide)
                                  · exact absurd c172 (by decide)
                              · exact absurd c170 (by decide)
                          · exact absurd c168 (by decide)
                      · exact absurd c166 (by decide)
                  · exact absurd c164 (by decide)
              · exact absurd c162 (by decide)
      · exact absurd c158 (by decide)
set_option maxHeartbeats 4000000 in
set_option maxRecDepth 100000 in
theorem c_X12_alone_0 (l : Launch) (D : va_G) (cI cS : ClassId) (h0 h1 h2 h3 h4 h5 h6 h7 h8 h9 h10 h11 h12 h13 h14 h15 : Nat) (x0 x1 : Int32) : Met l yX12_alone wsX12_alone ({ frames := 2, cells := 0, slots := 0, locals := 80 }) (PS D cI cS [(h0, .inr (12, [.int 0, .int 1, .ref h1, .ref h2, .ref h3, .ref h4, .ref h5, .ref h6, .ref h7, .ref h8, .int 0, .int 0, .int 0, .int 0, .int 0, .int 0, .ref h9, .ref h10, .ref h11, .ref h12, .ref h13, .ref h14, .ref h15, .int 0]))] [.ref h0, .int x0, .int x1]) (vp_Si (fun r => r = ((-2) : Int32))) 0 0 (fun _ => False) := by
  refine Met.ofW (cc := cX12_alone) (maxL := 5) (ret := (some .int)) (by decide) rfl ?_
  intro p e s m args below meth c s₁ B hml hv
  obtain ⟨rfl, hP, hKK⟩ := hv
  have hx := B.exec
  have hb := B.bytes
  have hr := B.returns
  have hts := atoms_spec (ws := wsX12_alone) B.pre
  have hown : s.vm.findClass RX12 = some m.cls := findClass_of_methodNamed B.named
  have hlocks := B.notSynchronized
  have hK := hKK.1
  have hN := hKK.2
  have hl := lv_entry ([.ref h0, .int x0, .int x1]) (n := 5) (Nat.le_of_ble_eq_true rfl)
  rw [lg_entry_eq]
  generalize (lg_sl ([.ref h0, .int x0, .int x1]) ++ List.replicate (5 - (lg_sl ([.ref h0, .int x0, .int x1])).length) Slot.unset).toArray = ls at hl ⊢
  have hl : lv_has ls 5 [(0, .ref h0), (1, .int x0), (2, .int x1)] := hl
  refine lv_aload_n hx hb dX12_alone_0 rfl (lv_at hl 0 rfl) ?_
  refine lv_iload_n hx hb dX12_alone_1 rfl (lv_at hl 1 rfl) ?_
  have hPc := hP.sub (ws' := [(h0, .inr (12, [.int 0, .int 1, .ref h1, .ref h2, .ref h3, .ref h4, .ref h5, .ref h6, .ref h7, .ref h8, .int 0, .int 0, .int 0, .int 0, .int 0, .int 0, .ref h9, .ref h10, .ref h11, .ref h12, .ref h13, .ref h14, .ref h15, .int 0]))]) [0] rfl
  refine lz_sv (As := [.int x0]) (rest := []) ⟨hx, hb, hml, hown, hts⟩ (c_X12_isPoint_0 l D cI cS h0 h1 h2 h3 h4 h5 h6 h7 h8 h9 h10 h11 h12 h13 h14 h15 x0) hKK hPc (ci := 12) rfl rfl (cwV 1 hts gX12_alone_X12_isPoint rfl rfl rfl (by decide +kernel) ⟨Nat.le_of_ble_eq_true rfl, Nat.le_of_ble_eq_true rfl⟩) rfl hl.1 rfl (Nat.le_of_ble_eq_true rfl) dX12_alone_2 ⟨Nat.le_of_ble_eq_true rfl, Nat.le_of_ble_eq_true rfl⟩ (fun r185 hw => ?_)
  subst hw
  refine lv_if_eq (tgt := 17) hx hb dX12_alone_5 (by decide) (fun c186 => ?_) (fun c186 => ?_)
  · refine lv_bipush (v := (-2)) hx hb dX12_alone_17 (by decide) ?_
    exact W.iret (v := (-2)) hx hb hr (fun t ht hW => ⟨_, rfl, rfl, ht⟩) (fun q hq => absurd hq List.not_mem_nil) dX12_alone_19
  · exact absurd c186 (by decide)
set_option maxHeartbeats 4000000 in
set_option maxRecDepth 100000 in
theorem c_X12_mark_0 (l : Launch) (D : va_G) (cI cS : ClassId) (h0 h1 h2 h3 h4 h5 h6 h7 h8 h9 h10 h11 h12 h13 h14 h15 : Nat) (x0 : Int32) : Met l yX12_mark wsX12_mark ({ frames := 2, cells := 0, slots := 0, locals := 80 }) (PS D cI cS [(h0, .inr (12, [.int 0, .int 1, .ref h1, .ref h2, .ref h3, .ref h4, .ref h5, .ref h6, .ref h7, .ref h8, .int 0, .int 0, .int 0, .int 0, .int 0, .int 0, .ref h9, .ref h10, .ref h11, .ref h12, .ref h13, .ref h14, .ref h15, .int 0]))] [.ref h0, .int x0]) (vp_Si (fun r => r = ((-2) : Int32))) 0 0 (fun _ => False) := by
  refine Met.ofW (cc := cX12_mark) (maxL := 2) (ret := (some .int)) (by decide) rfl ?_
  intro p e s m args below meth c s₁ B hml hv
  obtain ⟨rfl, hP, hKK⟩ := hv
  have hx := B.exec
  have hb := B.bytes
  have hr := B.returns
  have hts := atoms_spec (ws := wsX12_mark) B.pre
  have hown : s.vm.findClass RX12 = some m.cls := findClass_of_methodNamed B.named
  have hlocks := B.notSynchronized
  have hK := hKK.1
  have hN := hKK.2
  have hl := lv_entry ([.ref h0, .int x0]) (n := 2) (Nat.le_of_ble_eq_true rfl)
  rw [lg_entry_eq]
  generalize (lg_sl ([.ref h0, .int x0]) ++ List.replicate (2 - (lg_sl ([.ref h0, .int x0])).length) Slot.unset).toArray = ls at hl ⊢
  have hl : lv_has ls 2 [(0, .ref h0), (1, .int x0)] := hl
  refine lv_aload_n hx hb dX12_mark_0 rfl (lv_at hl 0 rfl) ?_
  refine lv_iload_n hx hb dX12_mark_1 rfl (lv_at hl 1 rfl) ?_
  have hPc := hP.sub (ws' := [(h0, .inr (12, [.int 0, .int 1, .ref h1, .ref h2, .ref h3, .ref h4, .ref h5, .ref h6, .ref h7, .ref h8, .int 0, .int 0, .int 0, .int 0, .int 0, .int 0, .ref h9, .ref h10, .ref h11, .ref h12, .ref h13, .ref h14, .ref h15, .int 0]))]) [0] rfl
  refine lz_sv (As := [.int x0]) (rest := []) ⟨hx, hb, hml, hown, hts⟩ (c_X12_isPoint_0 l D cI cS h0 h1 h2 h3 h4 h5 h6 h7 h8 h9 h10 h11 h12 h13 h14 h15 x0) hKK hPc (ci := 12) rfl rfl (cwV 1 hts gX12_mark_X12_isPoint rfl rfl rfl (by decide +kernel) ⟨Nat.le_of_ble_eq_true rfl, Nat.le_of_ble_eq_true rfl⟩) rfl hl.1 rfl (Nat.le_of_ble_eq_true rfl) dX12_mark_2 ⟨Nat.le_of_ble_eq_true rfl, Nat.le_of_ble_eq_true rfl⟩ (fun r189 hw => ?_)
  subst hw
  refine lv_if_ne (tgt := 11) hx hb dX12_mark_5 (by decide) (fun c190 => ?_) (fun c190 => ?_)
  · exact absurd c190 (by decide)
  · refine lv_bipush (v := (-2)) hx hb dX12_mark_8 (by decide) ?_
    exact W.iret (v := (-2)) hx hb hr (fun t ht hW => ⟨_, rfl, rfl, ht⟩) (fun q hq => absurd hq List.not_mem_nil) dX12_mark_10
set_option maxHeartbeats 4000000 in
set_option maxRecDepth 100000 in
theorem c_X12_in_3 (l : Launch) (D : va_G) (cI cS : ClassId) (x0 : Int32) : Met l yX12_in wsX12_in ({ frames := 0, cells := 0, slots := 0, locals := 0 }) (PS D cI cS [] [.int x0, .int 0, .int 2]) (vp_Si (fun r => r = if x0 < 0 then (0 : Int32) else (if (2 : Int32) < x0 then (0 : Int32) else (1 : Int32)))) 0 0 (fun _ => False) := by
  refine Met.ofW (cc := cX12_in) (maxL := 3) (ret := (some .boolean)) (by decide) rfl ?_
  intro p e s m args below meth c s₁ B hml hv
  obtain ⟨rfl, hP, hKK⟩ := hv
  have hx := B.exec
  have hb := B.bytes
  have hr := B.returns
  have hts := atoms_spec (ws := wsX12_in) B.pre
  have hown : s.vm.findClass RX12 = some m.cls := findClass_of_methodNamed B.named
  have hlocks := B.notSynchronized
  have hK := hKK.1
  have hN := hKK.2
  have hl := lv_entry ([.int x0, .int 0, .int 2]) (n := 3) (Nat.le_of_ble_eq_true rfl)
  rw [lg_entry_eq]
  generalize (lg_sl ([.int x0, .int 0, .int 2]) ++ List.replicate (3 - (lg_sl ([.int x0, .int 0, .int 2])).length) Slot.unset).toArray = ls at hl ⊢
  have hl : lv_has ls 3 [(0, .int x0), (1, .int 0), (2, .int 2)] := hl
  refine lv_iload_n hx hb dX12_in_0 rfl (lv_at hl 0 rfl) ?_
  refine lv_iload_n hx hb dX12_in_1 rfl (lv_at hl 1 rfl) ?_
  refine lv_icmp_lt (tgt := 14) hx hb dX12_in_2 (by decide) (fun c193 => ?_) (fun c193 => ?_)
  · refine lv_iconst (v := 0) hx hb dX12_in_14 (by decide) ?_
    exact W.zret (v := 0) hx hb hr (by decide) (fun t ht hW => ⟨_, rfl, by rw [if_pos c193], ht⟩) (fun q hq => absurd hq List.not_mem_nil) dX12_in_15
  · refine lv_iload_n hx hb dX12_in_5 rfl (lv_at hl 0 rfl) ?_
    refine lv_iload_n hx hb dX12_in_6 rfl (lv_at hl 2 rfl) ?_
    refine lv_icmp_gt (tgt := 14) hx hb dX12_in_7 (by decide) (fun c194 => ?_) (fun c194 => ?_)
    · refine lv_iconst (v := 0) hx hb dX12_in_14 (by decide) ?_
      exact W.zret (v := 0) hx hb hr (by decide) (fun t ht hW => ⟨_, rfl, by rw [if_neg c193, if_pos c194], ht⟩) (fun q hq => absurd hq List.not_mem_nil) dX12_in_15
    · refine lv_iconst (v := 1) hx hb dX12_in_10 (by decide) ?_
      refine lv_goto (tgt := 15) hx hb dX12_in_11 (by decide) ?_
      exact W.zret (v := 1) hx hb hr (by decide) (fun t ht hW => ⟨_, rfl, by rw [if_neg c193, if_neg c194], ht⟩) (fun q hq => absurd hq List.not_mem_nil) dX12_in_15
set_option maxHeartbeats 4000000 in
set_option maxRecDepth 100000 in
theorem c_X12_markedSet_0 (l : Launch) (D : va_G) (cI cS : ClassId) (h0 h1 h2 h3 h4 h5 h6 h7 h8 h9 h10 h11 h12 h13 h14 h15 : Nat) (x0 : Int32) : Met l yX12_markedSet wsX12_markedSet ({ frames := 1, cells := 0, slots := 0, locals := 40 }) (PS D cI cS [(h0, .inr (12, [.int 0, .int 1, .ref h1, .ref h2, .ref h3, .ref h4, .ref h5, .ref h6, .ref h7, .ref h8, .int 0, .int 0, .int 0, .int 0, .int 0, .int 0, .ref h9, .ref h10, .ref h11, .ref h12, .ref h13, .ref h14, .ref h15, .int 0]))] [.ref h0, .int x0]) (vp_Si (fun r => r = (0 : Int32))) 0 0 (fun _ => False) := by
  refine Met.ofW (cc := cX12_markedSet) (maxL := 5) (ret := (some .int)) (by decide) rfl ?_
  intro p e s m args below meth c s₁ B hml hv
  obtain ⟨rfl, hP, hKK⟩ := hv
  have hx := B.exec
  have hb := B.bytes
  have hr := B.returns
  have hts := atoms_spec (ws := wsX12_markedSet) B.pre
  have hown : s.vm.findClass RX12 = some m.cls := findClass_of_methodNamed B.named
  have hlocks := B.notSynchronized
  have hK := hKK.1
  have hN := hKK.2
  have hin12 : ∀ w ∈ wsX120, w ∈ wsX12_markedSet := by decide +kernel
  have hl := lv_entry ([.ref h0, .int x0]) (n := 5) (Nat.le_of_ble_eq_true rfl)
  rw [lg_entry_eq]
  generalize (lg_sl ([.ref h0, .int x0]) ++ List.replicate (5 - (lg_sl ([.ref h0, .int x0])).length) Slot.unset).toArray = ls at hl ⊢
  have hl : lv_has ls 5 [(0, .ref h0), (1, .int x0)] := hl
  refine lv_iconst (v := 0) hx hb dX12_markedSet_0 (by decide) ?_
  refine lv_istore_n (lv' := [(2, .int 0), (0, .ref h0), (1, .int x0)]) hx hb dX12_markedSet_1 rfl hl (by decide) rfl (fun ls hl => ?_)
  refine lv_iconst (v := 0) hx hb dX12_markedSet_2 (by decide) ?_
  refine lv_istore_n (lv' := [(3, .int 0), (2, .int 0), (0, .ref h0), (1, .int x0)]) hx hb dX12_markedSet_3 rfl hl (by decide) rfl (fun ls hl => ?_)
  refine lv_iconst (v := 0) hx hb dX12_markedSet_4 (by decide) ?_
  refine lv_istore (lv' := [(4, .int 0), (3, .int 0), (2, .int 0), (0, .ref h0), (1, .int x0)]) hx hb dX12_markedSet_5 hl (by decide) rfl (fun ls hl => ?_)
  refine lv_iload hx hb dX12_markedSet_7 (lv_at hl 0 rfl) ?_
  refine lv_aload_n hx hb dX12_markedSet_9 rfl (lv_at hl 3 rfl) ?_
  refine va_get (D := D) (ci := 12) (v := .int 0) (C := RX12) (T := TX12) (N := 24) hx hb hts hin12 hown hK hP 0 rfl rfl 0 (by decide) (hts (.fieldLink RX12 63 "MissedPointsModel" "many" "I") (by decide +kernel)) (fun _ h9 => h9) rfl dX12_markedSet_10 ?_
  refine lv_icmp_ge (tgt := 65) hx hb dX12_markedSet_13 (by decide) (fun c206 => ?_) (fun c206 => ?_)
  · refine lv_iload_n hx hb dX12_markedSet_65 rfl (lv_at hl 1 rfl) ?_
    refine lv_iload_n hx hb dX12_markedSet_66 rfl (lv_at hl 2 rfl) ?_
    refine lv_iconst (v := (-1)) hx hb dX12_markedSet_67 (by decide) ?_
    refine lv_ixor hx hb dX12_markedSet_68 ?_
    refine lz_top (y := (-1)) (by decide) ?_
    refine lv_iand hx hb dX12_markedSet_69 ?_
    refine lz_top (y := 0) (by decide) ?_
    refine lv_istore (lv' := [(4, .int 0), (3, .int 0), (2, .int 0), (0, .ref h0), (1, .int x0)]) hx hb dX12_markedSet_70 hl (by decide) rfl (fun ls hl => ?_)
    refine lv_iload_n hx hb dX12_markedSet_72 rfl (lv_at hl 4 rfl) ?_
    refine lv_if_ne (tgt := 80) hx hb dX12_markedSet_73 (by decide) (fun c207 => ?_) (fun c207 => ?_)
    · refine lv_iload_n hx hb dX12_markedSet_80 rfl (lv_at hl 4 rfl) ?_
      refine lv_iconst (v := 1) hx hb dX12_markedSet_81 (by decide) ?_
      refine lv_icmp_ne (tgt := 90) hx hb dX12_markedSet_82 (by decide) (fun c208 => ?_) (fun c208 => ?_)
      · refine lv_aload_n hx hb dX12_markedSet_90 rfl (lv_at hl 3 rfl) ?_
        have hPc := hP.sub (ws' := [(h0, .inr (12, [.int 0, .int 1, .ref h1, .ref h2, .ref h3, .ref h4, .ref h5, .ref h6, .ref h7, .ref h8, .int 0, .int 0, .int 0, .int 0, .int 0, .int 0, .ref h9, .ref h10, .ref h11, .ref h12, .ref h13, .ref h14, .ref h15, .int 0]))]) [0] rfl
        refine lz_sv (As := []) (rest := []) ⟨hx, hb, hml, hown, hts⟩ (c_X12_all_0 l D cI cS h0 h1 h2 h3 h4 h5 h6 h7 h8 h9 h10 h11 h12 h13 h14 h15) hKK hPc (ci := 12) rfl rfl (cwV 0 hts gX12_markedSet_X12_all rfl rfl rfl (by decide +kernel) ⟨Nat.le_of_ble_eq_true rfl, Nat.le_of_ble_eq_true rfl⟩) rfl hl.1 rfl (Nat.le_of_ble_eq_true rfl) dX12_markedSet_91 ⟨Nat.le_of_ble_eq_true rfl, Nat.le_of_ble_eq_true rfl⟩ (fun r209 hw => ?_)
        subst hw
        refine lv_iload_n hx hb dX12_markedSet_94 rfl (lv_at hl 2 rfl) ?_
        refine lv_iconst (v := (-1)) hx hb dX12_markedSet_95 (by decide) ?_
        refine lv_ixor hx hb dX12_markedSet_96 ?_
        refine lz_top (y := (-1)) (by decide) ?_
        refine lv_iand hx hb dX12_markedSet_97 ?_
        refine lz_top (y := 0) (by decide) ?_
        refine lv_iload hx hb dX12_markedSet_98 (lv_at hl 0 rfl) ?_
        refine lv_iconst (v := (-1)) hx hb dX12_markedSet_100 (by decide) ?_
        refine lv_ixor hx hb dX12_markedSet_101 ?_
        refine lz_top (y := (-1)) (by decide) ?_
        refine lv_iand hx hb dX12_markedSet_102 ?_
        refine lz_top (y := 0) (by decide) ?_
        exact W.iret (v := 0) hx hb hr (fun t ht hW => ⟨_, rfl, rfl, ht⟩) (fun q hq => absurd hq List.not_mem_nil) dX12_markedSet_103
      · subst c208
        refine lv_iload hx hb dX12_markedSet_85 (lv_at hl 0 rfl) ?_
        refine lv_goto (tgt := 103) hx hb dX12_markedSet_87 (by decide) ?_
        exact W.iret (v := 0) hx hb hr (fun t ht hW => ⟨_, rfl, rfl, ht⟩) (fun q hq => absurd hq List.not_mem_nil) dX12_markedSet_103
    · subst c207
      refine lv_iload_n hx hb dX12_markedSet_76 rfl (lv_at hl 2 rfl) ?_
      refine lv_goto (tgt := 103) hx hb dX12_markedSet_77 (by decide) ?_
      exact W.iret (v := 0) hx hb hr (fun t ht hW => ⟨_, rfl, rfl, ht⟩) (fun q hq => absurd hq List.not_mem_nil) dX12_markedSet_103
  · exact absurd c206 (by decide)
set_option maxHeartbeats 4000000 in
set_option maxRecDepth 100000 in
theorem c_X12_marked_0 (l : Launch) (D : va_G) (cI cS : ClassId) (sz : Nat) (h0 h1 h2 h3 h4 h5 h6 h7 h8 h9 h10 h11 h12 h13 h14 h15 : Nat) (x0 : Int32) : Met l yX12_marked wsX12_marked ({ frames := 2, cells := 0, slots := 0, locals := 80 }) (PQ D cI cS [(h0, .inr (12, [.int 0, .int 1, .ref h1, .ref h2, .ref h3, .ref h4, .ref h5, .ref h6, .ref h7, .ref h8, .int 0, .int 0, .int 0, .int 0, .int 0, .int 0, .ref h9, .ref h10, .ref h11, .ref h12, .ref h13, .ref h14, .ref h15, .int 0])), (h3, .inl (cI, 4096, .inl (fun _ => 0)))] sz [.ref h0, .int x0]) (QI D [(h0, .inr (12, [.int 0, .int 1, .ref h1, .ref h2, .ref h3, .ref h4, .ref h5, .ref h6, .ref h7, .ref h8, .int 0, .int 0, .int 0, .int 0, .int 0, .int 0, .ref h9, .ref h10, .ref h11, .ref h12, .ref h13, .ref h14, .ref h15, .int 0])), (h3, .inl (cI, 4096, .inl (fun _ => 0)))] [] sz (fun r => r = if x0 < 0 then ((-2) : Int32) else (if (2 : Int32) < x0 then ((-2) : Int32) else (0 : Int32)))) 0 0 (va_A [(h0, .inr (12, [.int 0, .int 1, .ref h1, .ref h2, .ref h3, .ref h4, .ref h5, .ref h6, .ref h7, .ref h8, .int 0, .int 0, .int 0, .int 0, .int 0, .int 0, .ref h9, .ref h10, .ref h11, .ref h12, .ref h13, .ref h14, .ref h15, .int 0])), (h3, .inl (cI, 4096, .inl (fun _ => 0)))] sz) := by
  refine Met.ofW (cc := cX12_marked) (maxL := 2) (ret := (some .int)) (by decide) rfl ?_
  intro p e s m args below meth c s₁ B hml hv
  obtain ⟨rfl, hsz, hP, hKK, hD0⟩ := hv
  have hx := B.exec
  have hb := B.bytes
  have hr := B.returns
  have hts := atoms_spec (ws := wsX12_marked) B.pre
  have hown : s.vm.findClass RX12 = some m.cls := findClass_of_methodNamed B.named
  have hlocks := B.notSynchronized
  have hK := hKK.1
  have hN := hKK.2
  subst hsz
  have hD := hD0.self (sz := s.heap.size)
  obtain ⟨A, hAe⟩ : ∃ A, A = va_A [(h0, .inr (12, [.int 0, .int 1, .ref h1, .ref h2, .ref h3, .ref h4, .ref h5, .ref h6, .ref h7, .ref h8, .int 0, .int 0, .int 0, .int 0, .int 0, .int 0, .ref h9, .ref h10, .ref h11, .ref h12, .ref h13, .ref h14, .ref h15, .int 0])), (h3, .inl (cI, 4096, .inl (fun _ => 0)))] s.heap.size := ⟨_, rfl⟩
  rw [← hAe] at hD
  have hA : ∀ q : Nat, s.heap.size ≤ q → A q := fun q h => by rw [hAe]; exact Or.inr h
  have hS : va_S A s.heap s.heap [] := va_S.rf
  have hl := lv_entry ([.ref h0, .int x0]) (n := 2) (Nat.le_of_ble_eq_true rfl)
  rw [lg_entry_eq]
  generalize (lg_sl ([.ref h0, .int x0]) ++ List.replicate (2 - (lg_sl ([.ref h0, .int x0])).length) Slot.unset).toArray = ls at hl ⊢
  have hl : lv_has ls 2 [(0, .ref h0), (1, .int x0)] := hl
  refine lv_iload_n hx hb dX12_marked_0 rfl (lv_at hl 1 rfl) ?_
  refine lv_iconst (v := 0) hx hb dX12_marked_1 (by decide) ?_
  refine lv_iconst (v := 2) hx hb dX12_marked_2 (by decide) ?_
  have hPc := hP.sub (ws' := []) [] rfl
  refine lz_ss (As := [.int x0, .int 0, .int 2]) (rest := []) ⟨hx, hb, hml, hown, hts⟩ (c_X12_in_3 l D cI cS x0) hKK hPc (va_cwS 3 hts gX12_marked_X12_in rfl rfl rfl (by decide +kernel) ⟨Nat.le_of_ble_eq_true rfl, Nat.le_of_ble_eq_true rfl⟩) rfl hl.1 rfl (Nat.le_of_ble_eq_true rfl) dX12_marked_3 ⟨Nat.le_of_ble_eq_true rfl, Nat.le_of_ble_eq_true rfl⟩ (fun r211 hw => ?_)
  by_cases k212 : x0 < 0
  · rw [if_pos k212] at hw
    subst hw
    refine lv_if_ne (tgt := 12) hx hb dX12_marked_6 (by decide) (fun c213 => ?_) (fun c213 => ?_)
    · exact absurd c213 (by decide)
    · refine lv_bipush (v := (-2)) hx hb dX12_marked_9 (by decide) ?_
      have hP9 := hP.sub (ws' := []) [] rfl
      have hD9 := hD.sub (ws' := []) [] (by decide) rfl
      subst hAe
      exact W.iret (v := (-2)) hx hb hr (fun t ht hW => ⟨⟨_, (), rfl, by rw [if_pos k212], by rw [ht]; exact hP9, hD9⟩, hS.F ht⟩) hS.2.2 dX12_marked_11
  · rw [if_neg k212] at hw
    by_cases k214 : (2 : Int32) < x0
    · rw [if_pos k214] at hw
      subst hw
      refine lv_if_ne (tgt := 12) hx hb dX12_marked_6 (by decide) (fun c215 => ?_) (fun c215 => ?_)
      · exact absurd c215 (by decide)
      · refine lv_bipush (v := (-2)) hx hb dX12_marked_9 (by decide) ?_
        have hP9 := hP.sub (ws' := []) [] rfl
        have hD9 := hD.sub (ws' := []) [] (by decide) rfl
        subst hAe
        exact W.iret (v := (-2)) hx hb hr (fun t ht hW => ⟨⟨_, (), rfl, by rw [if_neg k212, if_pos k214], by rw [ht]; exact hP9, hD9⟩, hS.F ht⟩) hS.2.2 dX12_marked_11
    · rw [if_neg k214] at hw
      subst hw
      refine lv_if_ne (tgt := 12) hx hb dX12_marked_6 (by decide) (fun c216 => ?_) (fun c216 => ?_)
      · refine lv_aload_n hx hb dX12_marked_12 rfl (lv_at hl 0 rfl) ?_
        have hPc := hP.sub (ws' := [(h0, .inr (12, [.int 0, .int 1, .ref h1, .ref h2, .ref h3, .ref h4, .ref h5, .ref h6, .ref h7, .ref h8, .int 0, .int 0, .int 0, .int 0, .int 0, .int 0, .ref h9, .ref h10, .ref h11, .ref h12, .ref h13, .ref h14, .ref h15, .int 0])), (h3, .inl (cI, 4096, .inl (fun _ => 0)))]) [0, 1] rfl
        have hDc := hD.sub (ws' := [(h0, .inr (12, [.int 0, .int 1, .ref h1, .ref h2, .ref h3, .ref h4, .ref h5, .ref h6, .ref h7, .ref h8, .int 0, .int 0, .int 0, .int 0, .int 0, .int 0, .ref h9, .ref h10, .ref h11, .ref h12, .ref h13, .ref h14, .ref h15, .int 0])), (h3, .inl (cI, 4096, .inl (fun _ => 0)))]) [0, 1] (by decide) rfl
        refine lz_qv (wr := []) (w1 := [(h0, .inr (12, [.int 0, .int 1, .ref h1, .ref h2, .ref h3, .ref h4, .ref h5, .ref h6, .ref h7, .ref h8, .int 0, .int 0, .int 0, .int 0, .int 0, .int 0, .ref h9, .ref h10, .ref h11, .ref h12, .ref h13, .ref h14, .ref h15, .int 0])), (h3, .inl (cI, 4096, .inl (upd (fun _ => 0) 0 1)))]) (As := []) (rest := []) ⟨hx, hb, hml, hown, hts⟩ (c_X12_reckons_0 l D cI cS _ h0 h1 h2 h3 h4 h5 h6 h7 h8 h9 h10 h11 h12 h13 h14 h15) hKK hP hD hS hA [0, 1] [] (by decide) rfl rfl (by decide) (by decide) hPc hDc (ci := 12) rfl rfl (cwV 0 hts gX12_marked_X12_reckons rfl rfl rfl (by decide +kernel) ⟨Nat.le_of_ble_eq_true rfl, Nat.le_of_ble_eq_true rfl⟩) rfl hl.1 rfl (Nat.le_of_ble_eq_true rfl) dX12_marked_13 ⟨Nat.le_of_ble_eq_true rfl, Nat.le_of_ble_eq_true rfl⟩ (fun H locs hP hD hS => ?_)
        have hP : va_P D cls [(h0, .inr (12, [.int 0, .int 1, .ref h1, .ref h2, .ref h3, .ref h4, .ref h5, .ref h6, .ref h7, .ref h8, .int 0, .int 0, .int 0, .int 0, .int 0, .int 0, .ref h9, .ref h10, .ref h11, .ref h12, .ref h13, .ref h14, .ref h15, .int 0])), (h3, .inl (cI, 4096, .inl (upd (fun _ => 0) 0 1)))] H := hP
        have hD : va_D A [(h0, .inr (12, [.int 0, .int 1, .ref h1, .ref h2, .ref h3, .ref h4, .ref h5, .ref h6, .ref h7, .ref h8, .int 0, .int 0, .int 0, .int 0, .int 0, .int 0, .ref h9, .ref h10, .ref h11, .ref h12, .ref h13, .ref h14, .ref h15, .int 0])), (h3, .inl (cI, 4096, .inl (upd (fun _ => 0) 0 1)))] := hD
        refine lv_aload_n hx hb dX12_marked_16 rfl (lv_at hl 0 rfl) ?_
        refine lv_iload_n hx hb dX12_marked_17 rfl (lv_at hl 1 rfl) ?_
        have hPc := hP.sub (ws' := [(h0, .inr (12, [.int 0, .int 1, .ref h1, .ref h2, .ref h3, .ref h4, .ref h5, .ref h6, .ref h7, .ref h8, .int 0, .int 0, .int 0, .int 0, .int 0, .int 0, .ref h9, .ref h10, .ref h11, .ref h12, .ref h13, .ref h14, .ref h15, .int 0]))]) [0] rfl
        refine lz_sv (As := [.int x0]) (rest := []) ⟨hx, hb, hml, hown, hts⟩ (c_X12_markedSet_0 l D cI cS h0 h1 h2 h3 h4 h5 h6 h7 h8 h9 h10 h11 h12 h13 h14 h15 x0) hKK hPc (ci := 12) rfl rfl (cwV 1 hts gX12_marked_X12_markedSet rfl rfl rfl (by decide +kernel) ⟨Nat.le_of_ble_eq_true rfl, Nat.le_of_ble_eq_true rfl⟩) rfl hl.1 rfl (Nat.le_of_ble_eq_true rfl) dX12_marked_18 ⟨Nat.le_of_ble_eq_true rfl, Nat.le_of_ble_eq_true rfl⟩ (fun r218 hw => ?_)
        subst hw
        have hP9 := hP.sub (ws' := []) [] rfl
        have hD9 := hD.sub (ws' := []) [] (by decide) rfl
        subst hAe
        exact W.iret (v := 0) hx hb hr (fun t ht hW => ⟨⟨_, (), rfl, by rw [if_neg k212, if_neg k214], by rw [ht]; exact hP9, hD9⟩, hS.F ht⟩) hS.2.2 dX12_marked_21
      · exact absurd c216 (by decide)
set_option maxHeartbeats 4000000 in
set_option maxRecDepth 100000 in
theorem c_X12_in_4 (l : Launch) (D : va_G) (cI cS : ClassId) (x0 : Int32) : Met l yX12_in wsX12_in ({ frames := 0, cells := 0, slots := 0, locals := 0 }) (PS D cI cS [] [.int x0, .int 0, .int 1]) (vp_Si (fun r => r = if x0 < 0 then (0 : Int32) else (if (1 : Int32) < x0 then (0 : Int32) else (1 : Int32)))) 0 0 (fun _ => False) := by
  refine Met.ofW (cc := cX12_in) (maxL := 3) (ret := (some .boolean)) (by decide) rfl ?_
  intro p e s m args below meth c s₁ B hml hv
  obtain ⟨rfl, hP, hKK⟩ := hv
  have hx := B.exec
  have hb := B.bytes
  have hr := B.returns
  have hts := atoms_spec (ws := wsX12_in) B.pre
  have hown : s.vm.findClass RX12 = some m.cls := findClass_of_methodNamed B.named
  have hlocks := B.notSynchronized
  have hK := hKK.1
  have hN := hKK.2
  have hl := lv_entry ([.int x0, .int 0, .int 1]) (n := 3) (Nat.le_of_ble_eq_true rfl)
  rw [lg_entry_eq]
  generalize (lg_sl ([.int x0, .int 0, .int 1]) ++ List.replicate (3 - (lg_sl ([.int x0, .int 0, .int 1])).length) Slot.unset).toArray = ls at hl ⊢
  have hl : lv_has ls 3 [(0, .int x0), (1, .int 0), (2, .int 1)] := hl
  refine lv_iload_n hx hb dX12_in_0 rfl (lv_at hl 0 rfl) ?_
  refine lv_iload_n hx hb dX12_in_1 rfl (lv_at hl 1 rfl) ?_
  refine lv_icmp_lt (tgt := 14) hx hb dX12_in_2 (by decide) (fun c221 => ?_) (fun c221 => ?_)
  · refine lv_iconst (v := 0) hx hb dX12_in_14 (by decide) ?_
    exact W.zret (v := 0) hx hb hr (by decide) (fun t ht hW => ⟨_, rfl, by rw [if_pos c221], ht⟩) (fun q hq => absurd hq List.not_mem_nil) dX12_in_15
  · refine lv_iload_n hx hb dX12_in_5 rfl (lv_at hl 0 rfl) ?_
    refine lv_iload_n hx hb dX12_in_6 rfl (lv_at hl 2 rfl) ?_
    refine lv_icmp_gt (tgt := 14) hx hb dX12_in_7 (by decide) (fun c222 => ?_) (fun c222 => ?_)
    · refine lv_iconst (v := 0) hx hb dX12_in_14 (by decide) ?_
      exact W.zret (v := 0) hx hb hr (by decide) (fun t ht hW => ⟨_, rfl, by rw [if_neg c221, if_pos c222], ht⟩) (fun q hq => absurd hq List.not_mem_nil) dX12_in_15
    · refine lv_iconst (v := 1) hx hb dX12_in_10 (by decide) ?_
      refine lv_goto (tgt := 15) hx hb dX12_in_11 (by decide) ?_
      exact W.zret (v := 1) hx hb hr (by decide) (fun t ht hW => ⟨_, rfl, by rw [if_neg c221, if_neg c222], ht⟩) (fun q hq => absurd hq List.not_mem_nil) dX12_in_15
set_option maxHeartbeats 4000000 in
set_option maxRecDepth 100000 in
theorem c_X12_markedSet_1 (l : Launch) (D : va_G) (cI cS : ClassId) (h0 h1 h2 h3 h4 h5 h6 h7 h8 h9 h10 h11 h12 h13 h14 h15 : Nat) : Met l yX12_markedSet wsX12_markedSet ({ frames := 1, cells := 0, slots := 0, locals := 40 }) (PS D cI cS [(h0, .inr (12, [.int 0, .int 1, .ref h1, .ref h2, .ref h3, .ref h4, .ref h5, .ref h6, .ref h7, .ref h8, .int 0, .int 0, .int 0, .int 0, .int 0, .int 0, .ref h9, .ref h10, .ref h11, .ref h12, .ref h13, .ref h14, .ref h15, .int 0]))] [.ref h0, .int 2]) (vp_Si (fun r => r = (0 : Int32))) 0 0 (fun _ => False) := by
  refine Met.ofW (cc := cX12_markedSet) (maxL := 5) (ret := (some .int)) (by decide) rfl ?_
  intro p e s m args below meth c s₁ B hml hv
  obtain ⟨rfl, hP, hKK⟩ := hv
  have hx := B.exec
  have hb := B.bytes
  have hr := B.returns
  have hts := atoms_spec (ws := wsX12_markedSet) B.pre
  have hown : s.vm.findClass RX12 = some m.cls := findClass_of_methodNamed B.named
  have hlocks := B.notSynchronized
  have hK := hKK.1
  have hN := hKK.2
  have hin12 : ∀ w ∈ wsX120, w ∈ wsX12_markedSet := by decide +kernel
  have hl := lv_entry ([.ref h0, .int 2]) (n := 5) (Nat.le_of_ble_eq_true rfl)
  rw [lg_entry_eq]
  generalize (lg_sl ([.ref h0, .int 2]) ++ List.replicate (5 - (lg_sl ([.ref h0, .int 2])).length) Slot.unset).toArray = ls at hl ⊢
  have hl : lv_has ls 5 [(0, .ref h0), (1, .int 2)] := hl
  refine lv_iconst (v := 0) hx hb dX12_markedSet_0 (by decide) ?_
  refine lv_istore_n (lv' := [(2, .int 0), (0, .ref h0), (1, .int 2)]) hx hb dX12_markedSet_1 rfl hl (by decide) rfl (fun ls hl => ?_)
  refine lv_iconst (v := 0) hx hb dX12_markedSet_2 (by decide) ?_
  refine lv_istore_n (lv' := [(3, .int 0), (2, .int 0), (0, .ref h0), (1, .int 2)]) hx hb dX12_markedSet_3 rfl hl (by decide) rfl (fun ls hl => ?_)
  refine lv_iconst (v := 0) hx hb dX12_markedSet_4 (by decide) ?_
  refine lv_istore (lv' := [(4, .int 0), (3, .int 0), (2, .int 0), (0, .ref h0), (1, .int 2)]) hx hb dX12_markedSet_5 hl (by decide) rfl (fun ls hl => ?_)
  refine lv_iload hx hb dX12_markedSet_7 (lv_at hl 0 rfl) ?_
  refine lv_aload_n hx hb dX12_markedSet_9 rfl (lv_at hl 3 rfl) ?_
  refine va_get (D := D) (ci := 12) (v := .int 0) (C := RX12) (T := TX12) (N := 24) hx hb hts hin12 hown hK hP 0 rfl rfl 0 (by decide) (hts (.fieldLink RX12 63 "MissedPointsModel" "many" "I") (by decide +kernel)) (fun _ h9 => h9) rfl dX12_markedSet_10 ?_
  refine lv_icmp_ge (tgt := 65) hx hb dX12_markedSet_13 (by decide) (fun c235 => ?_) (fun c235 => ?_)
  · refine lv_iload_n hx hb dX12_markedSet_65 rfl (lv_at hl 1 rfl) ?_
    refine lv_iload_n hx hb dX12_markedSet_66 rfl (lv_at hl 2 rfl) ?_
    refine lv_iconst (v := (-1)) hx hb dX12_markedSet_67 (by decide) ?_
    refine lv_ixor hx hb dX12_markedSet_68 ?_
    refine lz_top (y := (-1)) (by decide) ?_
    refine lv_iand hx hb dX12_markedSet_69 ?_
    refine lz_top (y := 0) (by decide) ?_
    refine lv_istore (lv' := [(4, .int 0), (3, .int 0), (2, .int 0), (0, .ref h0), (1, .int 2)]) hx hb dX12_markedSet_70 hl (by decide) rfl (fun ls hl => ?_)
    refine lv_iload_n hx hb dX12_markedSet_72 rfl (lv_at hl 4 rfl) ?_
    refine lv_if_ne (tgt := 80) hx hb dX12_markedSet_73 (by decide) (fun c236 => ?_) (fun c236 => ?_)
    · refine lv_iload_n hx hb dX12_markedSet_80 rfl (lv_at hl 4 rfl) ?_
      refine lv_iconst (v := 1) hx hb dX12_markedSet_81 (by decide) ?_
      refine lv_icmp_ne (tgt := 90) hx hb dX12_markedSet_82 (by decide) (fun c237 => ?_) (fun c237 => ?_)
      · refine lv_aload_n hx hb dX12_markedSet_90 rfl (lv_at hl 3 rfl) ?_
        have hPc := hP.sub (ws' := [(h0, .inr (12, [.int 0, .int 1, .ref h1, .ref h2, .ref h3, .ref h4, .ref h5, .ref h6, .ref h7, .ref h8, .int 0, .int 0, .int 0, .int 0, .int 0, .int 0, .ref h9, .ref h10, .ref h11, .ref h12, .ref h13, .ref h14, .ref h15, .int 0]))]) [0] rfl
        refine lz_sv (As := []) (rest := []) ⟨hx, hb, hml, hown, hts⟩ (c_X12_all_0 l D cI cS h0 h1 h2 h3 h4 h5 h6 h7 h8 h9 h10 h11 h12 h13 h14 h15) hKK hPc (ci := 12) rfl rfl (cwV 0 hts gX12_markedSet_X12_all rfl rfl rfl (by decide +kernel) ⟨Nat.le_of_ble_eq_true rfl, Nat.le_of_ble_eq_true rfl⟩) rfl hl.1 rfl (Nat.le_of_ble_eq_true rfl) dX12_markedSet_91 ⟨Nat.le_of_ble_eq_true rfl, Nat.le_of_ble_eq_true rfl⟩ (fun r238 hw => ?_)
        subst hw
        refine lv_iload_n hx hb dX12_markedSet_94 rfl (lv_at hl 2 rfl) ?_
        refine lv_iconst (v := (-1)) hx hb dX12_markedSet_95 (by decide) ?_
        refine lv_ixor hx hb dX12_markedSet_96 ?_
        refine lz_top (y := (-1)) (by decide) ?_
        refine lv_iand hx hb dX12_markedSet_97 ?_
        refine lz_top (y := 0) (by decide) ?_
        refine lv_iload hx hb dX12_markedSet_98 (lv_at hl 0 rfl) ?_
        refine lv_iconst (v := (-1)) hx hb dX12_markedSet_100 (by decide) ?_
        refine lv_ixor hx hb dX12_markedSet_101 ?_
        refine lz_top (y := (-1)) (by decide) ?_
        refine lv_iand hx hb dX12_markedSet_102 ?_
        refine lz_top (y := 0) (by decide) ?_
        exact W.iret (v := 0) hx hb hr (fun t ht hW => ⟨_, rfl, rfl, ht⟩) (fun q hq => absurd hq List.not_mem_nil) dX12_markedSet_103
      · exact absurd c237 (by decide)
    · exact absurd c236 (by decide)
  · exact absurd c235 (by decide)
set_option maxHeartbeats 4000000 in
set_option maxRecDepth 100000 in
theorem c_X12_markedSet_2 (l : Launch) (D : va_G) (cI cS : ClassId) (h0 h1 h2 h3 h4 h5 h6 h7 h8 h9 h10 h11 h12 h13 h14 h15 : Nat) : Met l yX12_markedSet wsX12_markedSet ({ frames := 0, cells := 0, slots := 0, locals := 0 }) (PS D cI cS [(h0, .inr (12, [.int 0, .int 1, .ref h1, .ref h2, .ref h3, .ref h4, .ref h5, .ref h6, .ref h7, .ref h8, .int 0, .int 0, .int 0, .int 0, .int 0, .int 0, .ref h9, .ref h10, .ref h11, .ref h12, .ref h13, .ref h14, .ref h15, .int 0]))] [.ref h0, .int 0]) (vp_Si (fun r => r = (0 : Int32))) 0 0 (fun _ => False) := by
  refine Met.ofW (cc := cX12_markedSet) (maxL := 5) (ret := (some .int)) (by decide) rfl ?_
  intro p e s m args below meth c s₁ B hml hv
  obtain ⟨rfl, hP, hKK⟩ := hv
  have hx := B.exec
  have hb := B.bytes
  have hr := B.returns
  have hts := atoms_spec (ws := wsX12_markedSet) B.pre
  have hown : s.vm.findClass RX12 = some m.cls := findClass_of_methodNamed B.named
  have hlocks := B.notSynchronized
  have hK := hKK.1
  have hN := hKK.2
  have hin12 : ∀ w ∈ wsX120, w ∈ wsX12_markedSet := by decide +kernel
  have hl := lv_entry ([.ref h0, .int 0]) (n := 5) (Nat.le_of_ble_eq_true rfl)
  rw [lg_entry_eq]
  generalize (lg_sl ([.ref h0, .int 0]) ++ List.replicate (5 - (lg_sl ([.ref h0, .int 0])).length) Slot.unset).toArray = ls at hl ⊢
  have hl : lv_has ls 5 [(0, .ref h0), (1, .int 0)] := hl
  refine lv_iconst (v := 0) hx hb dX12_markedSet_0 (by decide) ?_
  refine lv_istore_n (lv' := [(2, .int 0), (0, .ref h0), (1, .int 0)]) hx hb dX12_markedSet_1 rfl hl (by decide) rfl (fun ls hl => ?_)
  refine lv_iconst (v := 0) hx hb dX12_markedSet_2 (by decide) ?_
  refine lv_istore_n (lv' := [(3, .int 0), (2, .int 0), (0, .ref h0), (1, .int 0)]) hx hb dX12_markedSet_3 rfl hl (by decide) rfl (fun ls hl => ?_)
  refine lv_iconst (v := 0) hx hb dX12_markedSet_4 (by decide) ?_
  refine lv_istore (lv' := [(4, .int 0), (3, .int 0), (2, .int 0), (0, .ref h0), (1, .int 0)]) hx hb dX12_markedSet_5 hl (by decide) rfl (fun ls hl => ?_)
  refine lv_iload hx hb dX12_markedSet_7 (lv_at hl 0 rfl) ?_
  refine lv_aload_n hx hb dX12_markedSet_9 rfl (lv_at hl 3 rfl) ?_
  refine va_get (D := D) (ci := 12) (v := .int 0) (C := RX12) (T := TX12) (N := 24) hx hb hts hin12 hown hK hP 0 rfl rfl 0 (by decide) (hts (.fieldLink RX12 63 "MissedPointsModel" "many" "I") (by decide +kernel)) (fun _ h9 => h9) rfl dX12_markedSet_10 ?_
  refine lv_icmp_ge (tgt := 65) hx hb dX12_markedSet_13 (by decide) (fun c242 => ?_) (fun c242 => ?_)
  · refine lv_iload_n hx hb dX12_markedSet_65 rfl (lv_at hl 1 rfl) ?_
    refine lv_iload_n hx hb dX12_markedSet_66 rfl (lv_at hl 2 rfl) ?_
    refine lv_iconst (v := (-1)) hx hb dX12_markedSet_67 (by decide) ?_
    refine lv_ixor hx hb dX12_markedSet_68 ?_
    refine lz_top (y := (-1)) (by decide) ?_
    refine lv_iand hx hb dX12_markedSet_69 ?_
    refine lz_top (y := 0) (by decide) ?_
    refine lv_istore (lv' := [(4, .int 0), (3, .int 0), (2, .int 0), (0, .ref h0), (1, .int 0)]) hx hb dX12_markedSet_70 hl (by decide) rfl (fun ls hl => ?_)
    refine lv_iload_n hx hb dX12_markedSet_72 rfl (lv_at hl 4 rfl) ?_
    refine lv_if_ne (tgt := 80) hx hb dX12_markedSet_73 (by decide) (fun c243 => ?_) (fun c243 => ?_)
    · exact absurd c243 (by decide)
    · refine lv_iload_n hx hb dX12_markedSet_76 rfl (lv_at hl 2 rfl) ?_
      refine lv_goto (tgt := 103) hx hb dX12_markedSet_77 (by decide) ?_
      exact W.iret (v := 0) hx hb hr (fun t ht hW => ⟨_, rfl, rfl, ht⟩) (fun q hq => absurd hq List.not_mem_nil) dX12_markedSet_103
  · exact absurd c242 (by decide)
set_option maxHeartbeats 4000000 in
set_option maxRecDepth 100000 in
theorem c_X12_setOf_0 (l : Launch) (D : va_G) (cI cS : ClassId) (sz : Nat) (h0 h1 h2 h3 h4 h5 h6 h7 h8 h9 h10 h11 h12 h13 h14 h15 : Nat) (x0 : Int32) : Met l yX12_setOf wsX12_setOf ({ frames := 2, cells := 0, slots := 0, locals := 80 }) (PQ D cI cS [(h0, .inr (12, [.int 0, .int 1, .ref h1, .ref h2, .ref h3, .ref h4, .ref h5, .ref h6, .ref h7, .ref h8, .int 0, .int 0, .int 0, .int 0, .int 0, .int 0, .ref h9, .ref h10, .ref h11, .ref h12, .ref h13, .ref h14, .ref h15, .int 0])), (h3, .inl (cI, 4096, .inl (fun _ => 0)))] sz [.ref h0, .int x0]) (QI D [(h0, .inr (12, [.int 0, .int 1, .ref h1, .ref h2, .ref h3, .ref h4, .ref h5, .ref h6, .ref h7, .ref h8, .int 0, .int 0, .int 0, .int 0, .int 0, .int 0, .ref h9, .ref h10, .ref h11, .ref h12, .ref h13, .ref h14, .ref h15, .int 0])), (h3, .inl (cI, 4096, .inl (fun _ => 0)))] [(h0, .inr (12, [.int 0, .int 1, .ref h1, .ref h2, .ref h3, .ref h4, .ref h5, .ref h6, .ref h7, .ref h8, .int 0, .int 0, .int 0, .int 0, .int 0, .int 0, .ref h9, .ref h10, .ref h11, .ref h12, .ref h13, .ref h14, .ref h15, .int 0])), (h3, .inl (cI, 4096, .inl (upd (fun _ => 0) 0 1)))] sz (fun r => r = (0 : Int32))) 0 0 (va_A [(h0, .inr (12, [.int 0, .int 1, .ref h1, .ref h2, .ref h3, .ref h4, .ref h5, .ref h6, .ref h7, .ref h8, .int 0, .int 0, .int 0, .int 0, .int 0, .int 0, .ref h9, .ref h10, .ref h11, .ref h12, .ref h13, .ref h14, .ref h15, .int 0])), (h3, .inl (cI, 4096, .inl (fun _ => 0)))] sz) := by
  refine Met.ofW (cc := cX12_setOf) (maxL := 2) (ret := (some .int)) (by decide) rfl ?_
  intro p e s m args below meth c s₁ B hml hv
  obtain ⟨rfl, hsz, hP, hKK, hD0⟩ := hv
  have hx := B.exec
  have hb := B.bytes
  have hr := B.returns
  have hts := atoms_spec (ws := wsX12_setOf) B.pre
  have hown : s.vm.findClass RX12 = some m.cls := findClass_of_methodNamed B.named
  have hlocks := B.notSynchronized
  have hK := hKK.1
  have hN := hKK.2
  subst hsz
  have hD := hD0.self (sz := s.heap.size)
  obtain ⟨A, hAe⟩ : ∃ A, A = va_A [(h0, .inr (12, [.int 0, .int 1, .ref h1, .ref h2, .ref h3, .ref h4, .ref h5, .ref h6, .ref h7, .ref h8, .int 0, .int 0, .int 0, .int 0, .int 0, .int 0, .ref h9, .ref h10, .ref h11, .ref h12, .ref h13, .ref h14, .ref h15, .int 0])), (h3, .inl (cI, 4096, .inl (fun _ => 0)))] s.heap.size := ⟨_, rfl⟩
  rw [← hAe] at hD
  have hA : ∀ q : Nat, s.heap.size ≤ q → A q := fun q h => by rw [hAe]; exact Or.inr h
  have hS : va_S A s.heap s.heap [] := va_S.rf
  have hl := lv_entry ([.ref h0, .int x0]) (n := 2) (Nat.le_of_ble_eq_true rfl)
  rw [lg_entry_eq]
  generalize (lg_sl ([.ref h0, .int x0]) ++ List.replicate (2 - (lg_sl ([.ref h0, .int x0])).length) Slot.unset).toArray = ls at hl ⊢
  have hl : lv_has ls 2 [(0, .ref h0), (1, .int x0)] := hl
  refine lv_aload_n hx hb dX12_setOf_0 rfl (lv_at hl 0 rfl) ?_
  have hPc := hP.sub (ws' := [(h0, .inr (12, [.int 0, .int 1, .ref h1, .ref h2, .ref h3, .ref h4, .ref h5, .ref h6, .ref h7, .ref h8, .int 0, .int 0, .int 0, .int 0, .int 0, .int 0, .ref h9, .ref h10, .ref h11, .ref h12, .ref h13, .ref h14, .ref h15, .int 0])), (h3, .inl (cI, 4096, .inl (fun _ => 0)))]) [0, 1] rfl
  have hDc := hD.sub (ws' := [(h0, .inr (12, [.int 0, .int 1, .ref h1, .ref h2, .ref h3, .ref h4, .ref h5, .ref h6, .ref h7, .ref h8, .int 0, .int 0, .int 0, .int 0, .int 0, .int 0, .ref h9, .ref h10, .ref h11, .ref h12, .ref h13, .ref h14, .ref h15, .int 0])), (h3, .inl (cI, 4096, .inl (fun _ => 0)))]) [0, 1] (by decide) rfl
  refine lz_qv (wr := []) (w1 := [(h0, .inr (12, [.int 0, .int 1, .ref h1, .ref h2, .ref h3, .ref h4, .ref h5, .ref h6, .ref h7, .ref h8, .int 0, .int 0, .int 0, .int 0, .int 0, .int 0, .ref h9, .ref h10, .ref h11, .ref h12, .ref h13, .ref h14, .ref h15, .int 0])), (h3, .inl (cI, 4096, .inl (upd (fun _ => 0) 0 1)))]) (As := []) (rest := []) ⟨hx, hb, hml, hown, hts⟩ (c_X12_reckons_0 l D cI cS _ h0 h1 h2 h3 h4 h5 h6 h7 h8 h9 h10 h11 h12 h13 h14 h15) hKK hP hD hS hA [0, 1] [] (by decide) rfl rfl (by decide) (by decide) hPc hDc (ci := 12) rfl rfl (cwV 0 hts gX12_setOf_X12_reckons rfl rfl rfl (by decide +kernel) ⟨Nat.le_of_ble_eq_true rfl, Nat.le_of_ble_eq_true rfl⟩) rfl hl.1 rfl (Nat.le_of_ble_eq_true rfl) dX12_setOf_1 ⟨Nat.le_of_ble_eq_true rfl, Nat.le_of_ble_eq_true rfl⟩ (fun H locs hP hD hS => ?_)
  have hP : va_P D cls [(h0, .inr (12, [.int 0, .int 1, .ref h1, .ref h2, .ref h3, .ref h4, .ref h5, .ref h6, .ref h7, .ref h8, .int 0, .int 0, .int 0, .int 0, .int 0, .int 0, .ref h9, .ref h10, .ref h11, .ref h12, .ref h13, .ref h14, .ref h15, .int 0])), (h3, .inl (cI, 4096, .inl (upd (fun _ => 0) 0 1)))] H := hP
  have hD : va_D A [(h0, .inr (12, [.int 0, .int 1, .ref h1, .ref h2, .ref h3, .ref h4, .ref h5, .ref h6, .ref h7, .ref h8, .int 0, .int 0, .int 0, .int 0, .int 0, .int 0, .ref h9, .ref h10, .ref h11, .ref h12, .ref h13, .ref h14, .ref h15, .int 0])), (h3, .inl (cI, 4096, .inl (upd (fun _ => 0) 0 1)))] := hD
  refine lv_aload_n hx hb dX12_setOf_4 rfl (lv_at hl 0 rfl) ?_
  refine lv_iload_n hx hb dX12_setOf_5 rfl (lv_at hl 1 rfl) ?_
  refine lv_if_ne (tgt := 13) hx hb dX12_setOf_6 (by decide) (fun c246 => ?_) (fun c246 => ?_)
  · refine lv_iconst (v := 2) hx hb dX12_setOf_13 (by decide) ?_
    have hPc := hP.sub (ws' := [(h0, .inr (12, [.int 0, .int 1, .ref h1, .ref h2, .ref h3, .ref h4, .ref h5, .ref h6, .ref h7, .ref h8, .int 0, .int 0, .int 0, .int 0, .int 0, .int 0, .ref h9, .ref h10, .ref h11, .ref h12, .ref h13, .ref h14, .ref h15, .int 0]))]) [0] rfl
    refine lz_sv (As := [.int 2]) (rest := []) ⟨hx, hb, hml, hown, hts⟩ (c_X12_markedSet_1 l D cI cS h0 h1 h2 h3 h4 h5 h6 h7 h8 h9 h10 h11 h12 h13 h14 h15) hKK hPc (ci := 12) rfl rfl (cwV 1 hts gX12_setOf_X12_markedSet rfl rfl rfl (by decide +kernel) ⟨Nat.le_of_ble_eq_true rfl, Nat.le_of_ble_eq_true rfl⟩) rfl hl.1 rfl (Nat.le_of_ble_eq_true rfl) dX12_setOf_14 ⟨Nat.le_of_ble_eq_true rfl, Nat.le_of_ble_eq_true rfl⟩ (fun r247 hw => ?_)
    subst hw
    have hP9 := hP.sub (ws' := [(h0, .inr (12, [.int 0, .int 1, .ref h1, .ref h2, .ref h3, .ref h4, .ref h5, .ref h6, .ref h7, .ref h8, .int 0, .int 0, .int 0, .int 0, .int 0, .int 0, .ref h9, .ref h10, .ref h11, .ref h12, .ref h13, .ref h14, .ref h15, .int 0])), (h3, .inl (cI, 4096, .inl (upd (fun _ => 0) 0 1)))]) [0, 1] rfl
    have hD9 := hD.sub (ws' := [(h0, .inr (12, [.int 0, .int 1, .ref h1, .ref h2, .ref h3, .ref h4, .ref h5, .ref h6, .ref h7, .ref h8, .int 0, .int 0, .int 0, .int 0, .int 0, .int 0, .ref h9, .ref h10, .ref h11, .ref h12, .ref h13, .ref h14, .ref h15, .int 0])), (h3, .inl (cI, 4096, .inl (upd (fun _ => 0) 0 1)))]) [0, 1] (by decide) rfl
    subst hAe
    exact W.iret (v := 0) hx hb hr (fun t ht hW => ⟨⟨_, (), rfl, rfl, by rw [ht]; exact hP9, hD9⟩, hS.F ht⟩) hS.2.2 dX12_setOf_17
  · subst c246
    refine lv_iconst (v := 0) hx hb dX12_setOf_9 (by decide) ?_
    refine lv_goto (tgt := 14) hx hb dX12_setOf_10 (by decide) ?_
    have hPc := hP.sub (ws' := [(h0, .inr (12, [.int 0, .int 1, .ref h1, .ref h2, .ref h3, .ref h4, .ref h5, .ref h6, .ref h7, .ref h8, .int 0, .int 0, .int 0, .int 0, .int 0, .int 0, .ref h9, .ref h10, .ref h11, .ref h12, .ref h13, .ref h14, .ref h15, .int 0]))]) [0] rfl
    refine lz_sv (As := [.int 0]) (rest := []) ⟨hx, hb, hml, hown, hts⟩ (c_X12_markedSet_2 l D cI cS h0 h1 h2 h3 h4 h5 h6 h7 h8 h9 h10 h11 h12 h13 h14 h15) hKK hPc (ci := 12) rfl rfl (cwV 1 hts gX12_setOf_X12_markedSet rfl rfl rfl (by decide +kernel) ⟨Nat.le_of_ble_eq_true rfl, Nat.le_of_ble_eq_true rfl⟩) rfl hl.1 rfl (Nat.le_of_ble_eq_true rfl) dX12_setOf_14 ⟨Nat.le_of_ble_eq_true rfl, Nat.le_of_ble_eq_true rfl⟩ (fun r248 hw => ?_)
    subst hw
    have hP9 := hP.sub (ws' := [(h0, .inr (12, [.int 0, .int 1, .ref h1, .ref h2, .ref h3, .ref h4, .ref h5, .ref h6, .ref h7, .ref h8, .int 0, .int 0, .int 0, .int 0, .int 0, .int 0, .ref h9, .ref h10, .ref h11, .ref h12, .ref h13, .ref h14, .ref h15, .int 0])), (h3, .inl (cI, 4096, .inl (upd (fun _ => 0) 0 1)))]) [0, 1] rfl
    have hD9 := hD.sub (ws' := [(h0, .inr (12, [.int 0, .int 1, .ref h1, .ref h2, .ref h3, .ref h4, .ref h5, .ref h6, .ref h7, .ref h8, .int 0, .int 0, .int 0, .int 0, .int 0, .int 0, .ref h9, .ref h10, .ref h11, .ref h12, .ref h13, .ref h14, .ref h15, .int 0])), (h3, .inl (cI, 4096, .inl (upd (fun _ => 0) 0 1)))]) [0, 1] (by decide) rfl
    subst hAe
    exact W.iret (v := 0) hx hb hr (fun t ht hW => ⟨⟨_, (), rfl, rfl, by rw [ht]; exact hP9, hD9⟩, hS.F ht⟩) hS.2.2 dX12_setOf_17
set_option maxHeartbeats 4000000 in
set_option maxRecDepth 100000 in
theorem c_X12_piecesOf_1 (l : Launch) (D : va_G) (cI cS : ClassId) (h0 h1 h2 h3 h4 h5 h6 h7 h8 h9 h10 h11 h12 h13 h14 h15 : Nat) : Met l yX12_piecesOf wsX12_piecesOf ({ frames := 0, cells := 0, slots := 0, locals := 0 }) (PS D cI cS [(h0, .inr (12, [.int 0, .int 1, .ref h1, .ref h2, .ref h3, .ref h4, .ref h5, .ref h6, .ref h7, .ref h8, .int 0, .int 0, .int 0, .int 0, .int 0, .int 0, .ref h9, .ref h10, .ref h11, .ref h12, .ref h13, .ref h14, .ref h15, .int 0]))] [.ref h0, .int 0]) (vp_Si (fun r => r = (0 : Int32))) 0 0 (fun _ => False) := by
  refine Met.ofW (cc := cX12_piecesOf) (maxL := 4) (ret := (some .int)) (by decide) rfl ?_
  intro p e s m args below meth c s₁ B hml hv
  obtain ⟨rfl, hP, hKK⟩ := hv
  have hx := B.exec
  have hb := B.bytes
  have hr := B.returns
  have hts := atoms_spec (ws := wsX12_piecesOf) B.pre
  have hown : s.vm.findClass RX12 = some m.cls := findClass_of_methodNamed B.named
  have hlocks := B.notSynchronized
  have hK := hKK.1
  have hN := hKK.2
  have hl := lv_entry ([.ref h0, .int 0]) (n := 4) (Nat.le_of_ble_eq_true rfl)
  rw [lg_entry_eq]
  generalize (lg_sl ([.ref h0, .int 0]) ++ List.replicate (4 - (lg_sl ([.ref h0, .int 0])).length) Slot.unset).toArray = ls at hl ⊢
  have hl : lv_has ls 4 [(0, .ref h0), (1, .int 0)] := hl
  refine lv_iconst (v := 0) hx hb dX12_piecesOf_0 (by decide) ?_
  refine lv_istore_n (lv' := [(2, .int 0), (0, .ref h0), (1, .int 0)]) hx hb dX12_piecesOf_1 rfl hl (by decide) rfl (fun ls hl => ?_)
  refine lv_iload_n hx hb dX12_piecesOf_2 rfl (lv_at hl 2 rfl) ?_
  refine lv_istore_n (lv' := [(3, .int 0), (2, .int 0), (0, .ref h0), (1, .int 0)]) hx hb dX12_piecesOf_3 rfl hl (by decide) rfl (fun ls hl => ?_)
  refine lv_iload_n hx hb dX12_piecesOf_4 rfl (lv_at hl 0 rfl) ?_
  refine lv_if_eq (tgt := 24) hx hb dX12_piecesOf_5 (by decide) (fun c251 => ?_) (fun c251 => ?_)
  · refine lv_iload_n hx hb dX12_piecesOf_24 rfl (lv_at hl 1 rfl) ?_
    exact W.iret (v := 0) hx hb hr (fun t ht hW => ⟨_, rfl, rfl, ht⟩) (fun q hq => absurd hq List.not_mem_nil) dX12_piecesOf_25
  · exact absurd c251 (by decide)
