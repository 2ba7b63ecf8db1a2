theorem dX12_in_0 : decode cX12_in 0 = .ok (.iload_n 0, 1) := by decide +kernel
theorem dX12_in_1 : decode cX12_in 1 = .ok (.iload_n 1, 1) := by decide +kernel
theorem dX12_in_10 : decode cX12_in 10 = .ok (.iconst 1, 1) := by decide +kernel
theorem dX12_in_11 : decode cX12_in 11 = .ok (.goto 4, 3) := by decide +kernel
theorem dX12_in_14 : decode cX12_in 14 = .ok (.iconst 0, 1) := by decide +kernel
theorem dX12_in_15 : decode cX12_in 15 = .ok (.ireturn, 1) := by decide +kernel
theorem dX12_in_2 : decode cX12_in 2 = .ok (.if_icmp .lt 12, 3) := by decide +kernel
theorem dX12_in_5 : decode cX12_in 5 = .ok (.iload_n 0, 1) := by decide +kernel
theorem dX12_in_6 : decode cX12_in 6 = .ok (.iload_n 2, 1) := by decide +kernel
theorem dX12_in_7 : decode cX12_in 7 = .ok (.if_icmp .gt 7, 3) := by decide +kernel
set_option maxRecDepth 20000 in
theorem ggX12_points_X12_in : GoodIn wsX12_points wsX12_in := goodIn_r _ [6] rfl (by decide +kernel)
set_option maxRecDepth 20000 in
theorem gX12_points_X12_in : GoodIn wsX12_points (va_wsS RX12 66 yX12_in wsX12_in) := goodIn_app (goodIn_of _ (by decide +kernel)) ggX12_points_X12_in
theorem dX12_points_0 : decode cX12_points 0 = .ok (.iload_n 1, 1) := by decide +kernel
theorem dX12_points_1 : decode cX12_points 1 = .ok (.iconst 1, 1) := by decide +kernel
theorem dX12_points_10 : decode cX12_points 10 = .ok (.bipush (-2), 2) := by decide +kernel
theorem dX12_points_12 : decode cX12_points 12 = .ok (.ireturn, 1) := by decide +kernel
theorem dX12_points_13 : decode cX12_points 13 = .ok (.aload_n 0, 1) := by decide +kernel
theorem dX12_points_14 : decode cX12_points 14 = .ok (.getfield 63, 3) := by decide +kernel
theorem dX12_points_17 : decode cX12_points 17 = .ok (.iload_n 1, 1) := by decide +kernel
theorem dX12_points_18 : decode cX12_points 18 = .ok (.iadd, 1) := by decide +kernel
theorem dX12_points_19 : decode cX12_points 19 = .ok (.bipush 12, 2) := by decide +kernel
theorem dX12_points_2 : decode cX12_points 2 = .ok (.bipush 12, 2) := by decide +kernel
theorem dX12_points_21 : decode cX12_points 21 = .ok (.if_icmp .le 6, 3) := by decide +kernel
theorem dX12_points_27 : decode cX12_points 27 = .ok (.iconst 0, 1) := by decide +kernel
theorem dX12_points_28 : decode cX12_points 28 = .ok (.istore_n 2, 1) := by decide +kernel
theorem dX12_points_29 : decode cX12_points 29 = .ok (.iload_n 2, 1) := by decide +kernel
theorem dX12_points_30 : decode cX12_points 30 = .ok (.iload_n 1, 1) := by decide +kernel
theorem dX12_points_31 : decode cX12_points 31 = .ok (.if_icmp .ge 29, 3) := by decide +kernel
theorem dX12_points_34 : decode cX12_points 34 = .ok (.aload_n 0, 1) := by decide +kernel
theorem dX12_points_35 : decode cX12_points 35 = .ok (.getfield 13, 3) := by decide +kernel
theorem dX12_points_38 : decode cX12_points 38 = .ok (.aload_n 0, 1) := by decide +kernel
theorem dX12_points_39 : decode cX12_points 39 = .ok (.getfield 63, 3) := by decide +kernel
theorem dX12_points_4 : decode cX12_points 4 = .ok (.invokestatic 66, 3) := by decide +kernel
theorem dX12_points_42 : decode cX12_points 42 = .ok (.iconst 0, 1) := by decide +kernel
theorem dX12_points_43 : decode cX12_points 43 = .ok (.iastore, 1) := by decide +kernel
theorem dX12_points_44 : decode cX12_points 44 = .ok (.aload_n 0, 1) := by decide +kernel
theorem dX12_points_45 : decode cX12_points 45 = .ok (.dup, 1) := by decide +kernel
theorem dX12_points_46 : decode cX12_points 46 = .ok (.getfield 63, 3) := by decide +kernel
theorem dX12_points_49 : decode cX12_points 49 = .ok (.iconst 1, 1) := by decide +kernel
theorem dX12_points_50 : decode cX12_points 50 = .ok (.iadd, 1) := by decide +kernel
theorem dX12_points_51 : decode cX12_points 51 = .ok (.putfield 63, 3) := by decide +kernel
theorem dX12_points_54 : decode cX12_points 54 = .ok (.iinc 2 1, 3) := by decide +kernel
theorem dX12_points_57 : decode cX12_points 57 = .ok (.goto (-28), 3) := by decide +kernel
theorem dX12_points_60 : decode cX12_points 60 = .ok (.aload_n 0, 1) := by decide +kernel
theorem dX12_points_61 : decode cX12_points 61 = .ok (.getfield 63, 3) := by decide +kernel
theorem dX12_points_64 : decode cX12_points 64 = .ok (.ireturn, 1) := by decide +kernel
theorem dX12_points_7 : decode cX12_points 7 = .ok (.ifCond .ne 6, 3) := by decide +kernel
set_option maxRecDepth 20000 in
theorem ggX12_isPoint_X12_in : GoodIn wsX12_isPoint wsX12_in := goodIn_r _ [5] rfl (by decide +kernel)
set_option maxRecDepth 20000 in
theorem gX12_isPoint_X12_in : GoodIn wsX12_isPoint (va_wsS RX12 66 yX12_in wsX12_in) := goodIn_app (goodIn_of _ (by decide +kernel)) ggX12_isPoint_X12_in
theorem dX12_isPoint_0 : decode cX12_isPoint 0 = .ok (.iload_n 1, 1) := by decide +kernel
theorem dX12_isPoint_1 : decode cX12_isPoint 1 = .ok (.iconst 0, 1) := by decide +kernel
theorem dX12_isPoint_11 : decode cX12_isPoint 11 = .ok (.ireturn, 1) := by decide +kernel
theorem dX12_isPoint_2 : decode cX12_isPoint 2 = .ok (.aload_n 0, 1) := by decide +kernel
theorem dX12_isPoint_3 : decode cX12_isPoint 3 = .ok (.getfield 63, 3) := by decide +kernel
theorem dX12_isPoint_6 : decode cX12_isPoint 6 = .ok (.iconst 1, 1) := by decide +kernel
theorem dX12_isPoint_7 : decode cX12_isPoint 7 = .ok (.isub, 1) := by decide +kernel
theorem dX12_isPoint_8 : decode cX12_isPoint 8 = .ok (.invokestatic 66, 3) := by decide +kernel
set_option maxRecDepth 20000 in
theorem ggX12_areTwo_X12_isPoint : GoodIn wsX12_areTwo wsX12_isPoint := goodIn_r _ [5, 6, 7, 8, 4, 9, 10, 11, 12, 13, 14, 15, 16, 17, 18, 19, 20, 21, 22, 23, 24, 25, 26, 27, 28, 29, 30, 31, 32, 33] rfl (by decide +kernel)
set_option maxRecDepth 20000 in
theorem gX12_areTwo_X12_isPoint : GoodIn wsX12_areTwo (wsV RX12 74 RX12 yX12_isPoint wsX12_isPoint) := goodIn_app (goodIn_of _ (by decide +kernel)) ggX12_areTwo_X12_isPoint
theorem dX12_areTwo_0 : decode cX12_areTwo 0 = .ok (.aload_n 0, 1) := by decide +kernel
theorem dX12_areTwo_1 : decode cX12_areTwo 1 = .ok (.iload_n 1, 1) := by decide +kernel
theorem dX12_areTwo_2 : decode cX12_areTwo 2 = .ok (.invokevirtual 74, 3) := by decide +kernel
theorem dX12_areTwo_25 : decode cX12_areTwo 25 = .ok (.iconst 0, 1) := by decide +kernel
theorem dX12_areTwo_26 : decode cX12_areTwo 26 = .ok (.ireturn, 1) := by decide +kernel
theorem dX12_areTwo_5 : decode cX12_areTwo 5 = .ok (.ifCond .eq 20, 3) := by decide +kernel
set_option maxRecDepth 20000 in
theorem ggX12_line_X12_areTwo : GoodIn wsX12_line wsX12_areTwo := goodIn_r _ [6, 7, 8, 9, 5, 10, 11, 12, 13, 14, 19, 20, 21, 22, 23, 24, 25, 26, 27, 28, 29, 30, 31, 32, 33, 34, 35, 36, 37, 38, 39, 40, 41, 42] rfl (by decide +kernel)
set_option maxRecDepth 20000 in
theorem gX12_line_X12_areTwo : GoodIn wsX12_line (wsV RX12 78 RX12 yX12_areTwo wsX12_areTwo) := goodIn_app (goodIn_of _ (by decide +kernel)) ggX12_line_X12_areTwo
theorem dX12_line_0 : decode cX12_line 0 = .ok (.aload_n 0, 1) := by decide +kernel
theorem dX12_line_1 : decode cX12_line 1 = .ok (.iload_n 1, 1) := by decide +kernel
theorem dX12_line_18 : decode cX12_line 18 = .ok (.bipush (-2), 2) := by decide +kernel
theorem dX12_line_2 : decode cX12_line 2 = .ok (.iload_n 2, 1) := by decide +kernel
theorem dX12_line_20 : decode cX12_line 20 = .ok (.ireturn, 1) := by decide +kernel
theorem dX12_line_3 : decode cX12_line 3 = .ok (.invokevirtual 78, 3) := by decide +kernel
theorem dX12_line_6 : decode cX12_line 6 = .ok (.ifCond .eq 12, 3) := by decide +kernel
set_option maxRecDepth 20000 in
theorem ggX12_next_X12_isPoint : GoodIn wsX12_next wsX12_isPoint := goodIn_r _ [6, 7, 8, 9, 5, 10, 11, 12, 13, 14, 15, 16, 17, 18, 19, 20, 21, 22, 23, 24, 25, 26, 27, 28, 29, 30, 31, 32, 33, 34] rfl (by decide +kernel)
set_option maxRecDepth 20000 in
theorem gX12_next_X12_isPoint : GoodIn wsX12_next (wsV RX12 74 RX12 yX12_isPoint wsX12_isPoint) := goodIn_app (goodIn_of _ (by decide +kernel)) ggX12_next_X12_isPoint
theorem dX12_next_0 : decode cX12_next 0 = .ok (.aload_n 0, 1) := by decide +kernel
theorem dX12_next_1 : decode cX12_next 1 = .ok (.iload_n 1, 1) := by decide +kernel
theorem dX12_next_17 : decode cX12_next 17 = .ok (.bipush (-2), 2) := by decide +kernel
theorem dX12_next_19 : decode cX12_next 19 = .ok (.ireturn, 1) := by decide +kernel
theorem dX12_next_2 : decode cX12_next 2 = .ok (.invokevirtual 74, 3) := by decide +kernel
theorem dX12_next_5 : decode cX12_next 5 = .ok (.ifCond .eq 12, 3) := by decide +kernel
theorem dX12_lines_0 : decode cX12_lines 0 = .ok (.iconst 0, 1) := by decide +kernel
theorem dX12_lines_1 : decode cX12_lines 1 = .ok (.istore_n 1, 1) := by decide +kernel
theorem dX12_lines_2 : decode cX12_lines 2 = .ok (.iconst 0, 1) := by decide +kernel
theorem dX12_lines_3 : decode cX12_lines 3 = .ok (.istore_n 2, 1) := by decide +kernel
theorem dX12_lines_30 : decode cX12_lines 30 = .ok (.iload_n 1, 1) := by decide +kernel
theorem dX12_lines_31 : decode cX12_lines 31 = .ok (.iconst 2, 1) := by decide +kernel
theorem dX12_lines_32 : decode cX12_lines 32 = .ok (.idiv, 1) := by decide +kernel
theorem dX12_lines_33 : decode cX12_lines 33 = .ok (.ireturn, 1) := by decide +kernel
theorem dX12_lines_4 : decode cX12_lines 4 = .ok (.iload_n 2, 1) := by decide +kernel
theorem dX12_lines_5 : decode cX12_lines 5 = .ok (.aload_n 0, 1) := by decide +kernel
theorem dX12_lines_6 : decode cX12_lines 6 = .ok (.getfield 63, 3) := by decide +kernel
theorem dX12_lines_9 : decode cX12_lines 9 = .ok (.if_icmp .ge 21, 3) := by decide +kernel
theorem dX12_all_0 : decode cX12_all 0 = .ok (.iconst 1, 1) := by decide +kernel
theorem dX12_all_1 : decode cX12_all 1 = .ok (.aload_n 0, 1) := by decide +kernel
theorem dX12_all_2 : decode cX12_all 2 = .ok (.getfield 63, 3) := by decide +kernel
theorem dX12_all_5 : decode cX12_all 5 = .ok (.ishl, 1) := by decide +kernel
theorem dX12_all_6 : decode cX12_all 6 = .ok (.iconst 1, 1) := by decide +kernel
theorem dX12_all_7 : decode cX12_all 7 = .ok (.isub, 1) := by decide +kernel
theorem dX12_all_8 : decode cX12_all 8 = .ok (.ireturn, 1) := by decide +kernel
set_option maxRecDepth 20000 in
theorem ggX12_reckons_X12_all : GoodIn wsX12_reckons wsX12_all := goodIn_r _ [9, 3, 16, 17, 18, 19, 20, 21, 22, 23, 24, 25, 26, 27, 28, 29, 30, 31, 32, 33, 34, 35, 36, 37, 38, 39] rfl (by decide +kernel)
set_option maxRecDepth 20000 in
theorem gX12_reckons_X12_all : GoodIn wsX12_reckons (wsV RX12 70 RX12 yX12_all wsX12_all) := goodIn_app (goodIn_of _ (by decide +kernel)) ggX12_reckons_X12_all
theorem dX12_reckons_0 : decode cX12_reckons 0 = .ok (.aload_n 0, 1) := by decide +kernel
theorem dX12_reckons_1 : decode cX12_reckons 1 = .ok (.getfield 20, 3) := by decide +kernel
theorem dX12_reckons_10 : decode cX12_reckons 10 = .ok (.aload_n 0, 1) := by decide +kernel
theorem dX12_reckons_11 : decode cX12_reckons 11 = .ok (.invokevirtual 70, 3) := by decide +kernel
theorem dX12_reckons_14 : decode cX12_reckons 14 = .ok (.if_icmp .gt 224, 3) := by decide +kernel
theorem dX12_reckons_238 : decode cX12_reckons 238 = .ok (.return_, 1) := by decide +kernel
theorem dX12_reckons_4 : decode cX12_reckons 4 = .ok (.iconst 0, 1) := by decide +kernel
theorem dX12_reckons_5 : decode cX12_reckons 5 = .ok (.iconst 1, 1) := by decide +kernel
theorem dX12_reckons_6 : decode cX12_reckons 6 = .ok (.iastore, 1) := by decide +kernel
theorem dX12_reckons_7 : decode cX12_reckons 7 = .ok (.iconst 1, 1) := by decide +kernel
theorem dX12_reckons_8 : decode cX12_reckons 8 = .ok (.istore_n 1, 1) := by decide +kernel
theorem dX12_reckons_9 : decode cX12_reckons 9 = .ok (.iload_n 1, 1) := by decide +kernel
set_option maxRecDepth 20000 in
theorem ggX12_greatest_X12_all : GoodIn wsX12_greatest wsX12_all := goodIn_r _ [13, 8, 20, 21, 22, 23, 24, 25, 26, 27, 28, 29, 30, 31, 32, 33, 34, 35, 36, 37, 38, 39, 40, 41, 42, 43] rfl (by decide +kernel)
set_option maxRecDepth 20000 in
theorem gX12_greatest_X12_all : GoodIn wsX12_greatest (wsV RX12 70 RX12 yX12_all wsX12_all) := goodIn_app (goodIn_of _ (by decide +kernel)) ggX12_greatest_X12_all
set_option maxRecDepth 20000 in
theorem ggX12_greatest_X12_reckons : GoodIn wsX12_greatest wsX12_reckons := goodIn_r _ [6, 7, 1, 8, 9, 10, 11, 12, 5, 13, 14, 15, 16, 17, 18, 19, 20, 21, 22, 23, 24, 25, 26, 27, 28, 29, 30, 31, 32, 33, 34, 35, 36, 37, 38, 39, 40, 41, 42, 43] rfl (by decide +kernel)
set_option maxRecDepth 20000 in
theorem gX12_greatest_X12_reckons : GoodIn wsX12_greatest (wsV RX12 107 RX12 yX12_reckons wsX12_reckons) := goodIn_app (goodIn_of _ (by decide +kernel)) ggX12_greatest_X12_reckons
theorem dX12_greatest_0 : decode cX12_greatest 0 = .ok (.aload_n 0, 1) := by decide +kernel
theorem dX12_greatest_1 : decode cX12_greatest 1 = .ok (.invokevirtual 107, 3) := by decide +kernel
theorem dX12_greatest_12 : decode cX12_greatest 12 = .ok (.iaload, 1) := by decide +kernel
theorem dX12_greatest_13 : decode cX12_greatest 13 = .ok (.ireturn, 1) := by decide +kernel
theorem dX12_greatest_4 : decode cX12_greatest 4 = .ok (.aload_n 0, 1) := by decide +kernel
theorem dX12_greatest_5 : decode cX12_greatest 5 = .ok (.getfield 17, 3) := by decide +kernel
theorem dX12_greatest_8 : decode cX12_greatest 8 = .ok (.aload_n 0, 1) := by decide +kernel
theorem dX12_greatest_9 : decode cX12_greatest 9 = .ok (.invokevirtual 70, 3) := by decide +kernel
set_option maxRecDepth 20000 in
theorem ggX12_lack_X12_greatest : GoodIn wsX12_lack wsX12_greatest := goodIn_r _ [6, 7, 8, 9, 10, 5, 11, 12, 1, 13, 14, 15, 16, 17, 18, 19, 20, 21, 22, 23, 24, 25, 26, 27, 28, 29, 30, 31, 32, 33, 34, 35, 36, 37, 38, 39, 40, 41, 42, 43, 44, 45, 46, 47] rfl (by decide +kernel)
set_option maxRecDepth 20000 in
theorem gX12_lack_X12_greatest : GoodIn wsX12_lack (wsV RX12 92 RX12 yX12_greatest wsX12_greatest) := goodIn_app (goodIn_of _ (by decide +kernel)) ggX12_lack_X12_greatest
theorem dX12_lack_0 : decode cX12_lack 0 = .ok (.aload_n 0, 1) := by decide +kernel
theorem dX12_lack_1 : decode cX12_lack 1 = .ok (.getfield 63, 3) := by decide +kernel
theorem dX12_lack_10 : decode cX12_lack 10 = .ok (.isub, 1) := by decide +kernel
theorem dX12_lack_11 : decode cX12_lack 11 = .ok (.ireturn, 1) := by decide +kernel
theorem dX12_lack_4 : decode cX12_lack 4 = .ok (.iconst 2, 1) := by decide +kernel
theorem dX12_lack_5 : decode cX12_lack 5 = .ok (.aload_n 0, 1) := by decide +kernel
theorem dX12_lack_6 : decode cX12_lack 6 = .ok (.invokevirtual 92, 3) := by decide +kernel
theorem dX12_lack_9 : decode cX12_lack 9 = .ok (.imul, 1) := by decide +kernel
theorem dX12_piecesOf_0 : decode cX12_piecesOf 0 = .ok (.iconst 0, 1) := by decide +kernel
theorem dX12_piecesOf_1 : decode cX12_piecesOf 1 = .ok (.istore_n 2, 1) := by decide +kernel
theorem dX12_piecesOf_2 : decode cX12_piecesOf 2 = .ok (.iload_n 1, 1) := by decide +kernel
theorem dX12_piecesOf_24 : decode cX12_piecesOf 24 = .ok (.iload_n 2, 1) := by decide +kernel
theorem dX12_piecesOf_25 : decode cX12_piecesOf 25 = .ok (.ireturn, 1) := by decide +kernel
theorem dX12_piecesOf_3 : decode cX12_piecesOf 3 = .ok (.istore_n 3, 1) := by decide +kernel
theorem dX12_piecesOf_4 : decode cX12_piecesOf 4 = .ok (.iload_n 3, 1) := by decide +kernel
theorem dX12_piecesOf_5 : decode cX12_piecesOf 5 = .ok (.ifCond .eq 19, 3) := by decide +kernel
set_option maxRecDepth 20000 in
theorem ggX12_count_X12_all : GoodIn wsX12_count wsX12_all := goodIn_r _ [26, 1, 45, 46, 47, 48, 49, 50, 51, 52, 53, 54, 55, 56, 57, 58, 59, 60, 61, 62, 63, 64, 65, 66, 67, 68] rfl (by decide +kernel)
set_option maxRecDepth 20000 in
theorem gX12_count_X12_all : GoodIn wsX12_count (wsV RX12 70 RX12 yX12_all wsX12_all) := goodIn_app (goodIn_of _ (by decide +kernel)) ggX12_count_X12_all
set_option maxRecDepth 20000 in
theorem ggX12_count_X12_greatest : GoodIn wsX12_count wsX12_greatest := goodIn_r _ [16, 17, 18, 19, 20, 7, 21, 22, 1, 9, 23, 24, 25, 26, 27, 28, 29, 30, 31, 32, 45, 46, 47, 48, 49, 50, 51, 52, 53, 54, 55, 56, 57, 58, 59, 60, 61, 62, 63, 64, 65, 66, 67, 68] rfl (by decide +kernel)
set_option maxRecDepth 20000 in
theorem gX12_count_X12_greatest : GoodIn wsX12_count (wsV RX12 92 RX12 yX12_greatest wsX12_greatest) := goodIn_app (goodIn_of _ (by decide +kernel)) ggX12_count_X12_greatest
set_option maxRecDepth 20000 in
theorem ggX12_count_X12_lack : GoodIn wsX12_count wsX12_lack := goodIn_r _ [36, 1, 13, 14, 15, 7, 16, 17, 18, 19, 20, 21, 22, 9, 23, 24, 25, 26, 27, 28, 29, 30, 31, 32, 45, 46, 47, 48, 49, 50, 51, 52, 53, 54, 55, 56, 57, 58, 59, 60, 61, 62, 63, 64, 65, 66, 67, 68] rfl (by decide +kernel)
set_option maxRecDepth 20000 in
theorem gX12_count_X12_lack : GoodIn wsX12_count (wsV RX12 95 RX12 yX12_lack wsX12_lack) := goodIn_app (goodIn_of _ (by decide +kernel)) ggX12_count_X12_lack
set_option maxRecDepth 20000 in
theorem ggX12_count_X12_lines : GoodIn wsX12_count wsX12_lines := goodIn_r _ [8, 1, 9, 10, 11, 7, 12, 45, 46, 47, 48, 49, 50, 51, 52, 53, 54, 55, 56, 57, 58, 59, 60, 61, 62, 63, 64, 65, 66, 67, 68] rfl (by decide +kernel)
set_option maxRecDepth 20000 in
theorem gX12_count_X12_lines : GoodIn wsX12_count (wsV RX12 89 RX12 yX12_lines wsX12_lines) := goodIn_app (goodIn_of _ (by decide +kernel)) ggX12_count_X12_lines
set_option maxRecDepth 20000 in
theorem ggX12_count_X12_piecesOf : GoodIn wsX12_count wsX12_piecesOf := goodIn_r _ [40, 41, 42, 43, 7, 44, 1, 9, 30, 31, 32, 45, 46, 47, 48, 49, 50, 51, 52, 53, 54, 55, 56, 57, 58, 59, 60, 61, 62, 63, 64, 65, 66, 67, 68] rfl (by decide +kernel)
set_option maxRecDepth 20000 in
theorem gX12_count_X12_piecesOf : GoodIn wsX12_count (wsV RX12 98 RX12 yX12_piecesOf wsX12_piecesOf) := goodIn_app (goodIn_of _ (by decide +kernel)) ggX12_count_X12_piecesOf
theorem dX12_count_0 : decode cX12_count 0 = .ok (.iload_n 1, 1) := by decide +kernel
theorem dX12_count_1 : decode cX12_count 1 = .ok (.tableswitch 82 0 6 #[43, 48, 53, 58, 63, 72, 77], 43) := by decide +kernel
theorem dX12_count_44 : decode cX12_count 44 = .ok (.aload_n 0, 1) := by decide +kernel
theorem dX12_count_45 : decode cX12_count 45 = .ok (.getfield 63, 3) := by decide +kernel
theorem dX12_count_48 : decode cX12_count 48 = .ok (.ireturn, 1) := by decide +kernel
theorem dX12_count_49 : decode cX12_count 49 = .ok (.aload_n 0, 1) := by decide +kernel
theorem dX12_count_50 : decode cX12_count 50 = .ok (.invokevirtual 89, 3) := by decide +kernel
theorem dX12_count_53 : decode cX12_count 53 = .ok (.ireturn, 1) := by decide +kernel
theorem dX12_count_54 : decode cX12_count 54 = .ok (.aload_n 0, 1) := by decide +kernel
theorem dX12_count_55 : decode cX12_count 55 = .ok (.invokevirtual 92, 3) := by decide +kernel
theorem dX12_count_58 : decode cX12_count 58 = .ok (.ireturn, 1) := by decide +kernel
theorem dX12_count_59 : decode cX12_count 59 = .ok (.aload_n 0, 1) := by decide +kernel
theorem dX12_count_60 : decode cX12_count 60 = .ok (.invokevirtual 95, 3) := by decide +kernel
theorem dX12_count_63 : decode cX12_count 63 = .ok (.ireturn, 1) := by decide +kernel
theorem dX12_count_64 : decode cX12_count 64 = .ok (.aload_n 0, 1) := by decide +kernel
theorem dX12_count_65 : decode cX12_count 65 = .ok (.aload_n 0, 1) := by decide +kernel
theorem dX12_count_66 : decode cX12_count 66 = .ok (.invokevirtual 70, 3) := by decide +kernel
theorem dX12_count_69 : decode cX12_count 69 = .ok (.invokevirtual 98, 3) := by decide +kernel
theorem dX12_count_72 : decode cX12_count 72 = .ok (.ireturn, 1) := by decide +kernel
theorem dX12_count_73 : decode cX12_count 73 = .ok (.aload_n 0, 1) := by decide +kernel
theorem dX12_count_74 : decode cX12_count 74 = .ok (.getfield 101, 3) := by decide +kernel
theorem dX12_count_77 : decode cX12_count 77 = .ok (.ireturn, 1) := by decide +kernel
theorem dX12_count_78 : decode cX12_count 78 = .ok (.aload_n 0, 1) := by decide +kernel
theorem dX12_count_79 : decode cX12_count 79 = .ok (.getfield 7, 3) := by decide +kernel
theorem dX12_count_82 : decode cX12_count 82 = .ok (.ireturn, 1) := by decide +kernel
theorem dX12_count_83 : decode cX12_count 83 = .ok (.bipush (-2), 2) := by decide +kernel
theorem dX12_count_85 : decode cX12_count 85 = .ok (.ireturn, 1) := by decide +kernel
set_option maxRecDepth 20000 in
theorem ggX12_isSet_X12_all : GoodIn wsX12_isSet wsX12_all := goodIn_r _ [5, 6, 7, 8, 9, 10, 11, 12, 13, 14, 15, 16, 17, 18, 19, 20, 21, 22, 23, 24, 25, 26, 27, 28, 29, 30] rfl (by decide +kernel)
set_option maxRecDepth 20000 in
theorem gX12_isSet_X12_all : GoodIn wsX12_isSet (wsV RX12 70 RX12 yX12_all wsX12_all) := goodIn_app (goodIn_of _ (by decide +kernel)) ggX12_isSet_X12_all
theorem dX12_isSet_0 : decode cX12_isSet 0 = .ok (.iload_n 1, 1) := by decide +kernel
theorem dX12_isSet_1 : decode cX12_isSet 1 = .ok (.aload_n 0, 1) := by decide +kernel
theorem dX12_isSet_11 : decode cX12_isSet 11 = .ok (.iconst 1, 1) := by decide +kernel
theorem dX12_isSet_12 : decode cX12_isSet 12 = .ok (.goto 4, 3) := by decide +kernel
theorem dX12_isSet_15 : decode cX12_isSet 15 = .ok (.iconst 0, 1) := by decide +kernel
theorem dX12_isSet_16 : decode cX12_isSet 16 = .ok (.ireturn, 1) := by decide +kernel
theorem dX12_isSet_2 : decode cX12_isSet 2 = .ok (.invokevirtual 70, 3) := by decide +kernel
theorem dX12_isSet_5 : decode cX12_isSet 5 = .ok (.iconst (-1), 1) := by decide +kernel
theorem dX12_isSet_6 : decode cX12_isSet 6 = .ok (.ixor, 1) := by decide +kernel
theorem dX12_isSet_7 : decode cX12_isSet 7 = .ok (.iand, 1) := by decide +kernel
theorem dX12_isSet_8 : decode cX12_isSet 8 = .ok (.ifCond .ne 7, 3) := by decide +kernel
set_option maxRecDepth 20000 in
theorem ggX12_most_X12_isSet : GoodIn wsX12_most wsX12_isSet := goodIn_r _ [6, 7, 8, 9, 5, 10, 11, 24, 25, 26, 27, 28, 29, 30, 31, 32, 33, 34, 35, 36, 37, 38, 39, 40, 41, 42, 43, 44, 45, 46, 47] rfl (by decide +kernel)
set_option maxRecDepth 20000 in
theorem gX12_most_X12_isSet : GoodIn wsX12_most (wsV RX12 110 RX12 yX12_isSet wsX12_isSet) := goodIn_app (goodIn_of _ (by decide +kernel)) ggX12_most_X12_isSet
set_option maxRecDepth 20000 in
theorem ggX12_most_X12_reckons : GoodIn wsX12_most wsX12_reckons := goodIn_r _ [15, 16, 1, 11, 17, 7, 8, 9, 5, 10, 18, 19, 20, 21, 22, 23, 24, 25, 26, 27, 28, 29, 30, 31, 32, 33, 34, 35, 36, 37, 38, 39, 40, 41, 42, 43, 44, 45, 46, 47] rfl (by decide +kernel)
set_option maxRecDepth 20000 in
theorem gX12_most_X12_reckons : GoodIn wsX12_most (wsV RX12 107 RX12 yX12_reckons wsX12_reckons) := goodIn_app (goodIn_of _ (by decide +kernel)) ggX12_most_X12_reckons
theorem dX12_most_0 : decode cX12_most 0 = .ok (.aload_n 0, 1) := by decide +kernel
theorem dX12_most_1 : decode cX12_most 1 = .ok (.iload_n 1, 1) := by decide +kernel
theorem dX12_most_10 : decode cX12_most 10 = .ok (.ireturn, 1) := by decide +kernel
theorem dX12_most_11 : decode cX12_most 11 = .ok (.aload_n 0, 1) := by decide +kernel
theorem dX12_most_12 : decode cX12_most 12 = .ok (.invokevirtual 107, 3) := by decide +kernel
theorem dX12_most_15 : decode cX12_most 15 = .ok (.aload_n 0, 1) := by decide +kernel
theorem dX12_most_16 : decode cX12_most 16 = .ok (.getfield 17, 3) := by decide +kernel
theorem dX12_most_19 : decode cX12_most 19 = .ok (.iload_n 1, 1) := by decide +kernel
theorem dX12_most_2 : decode cX12_most 2 = .ok (.invokevirtual 110, 3) := by decide +kernel
theorem dX12_most_20 : decode cX12_most 20 = .ok (.iaload, 1) := by decide +kernel
theorem dX12_most_21 : decode cX12_most 21 = .ok (.ireturn, 1) := by decide +kernel
theorem dX12_most_5 : decode cX12_most 5 = .ok (.ifCond .ne 6, 3) := by decide +kernel
theorem dX12_most_8 : decode cX12_most 8 = .ok (.bipush (-2), 2) := by decide +kernel
set_option maxRecDepth 20000 in
theorem ggX12_mate_X12_isPoint : GoodIn wsX12_mate wsX12_isPoint := goodIn_r _ [6, 7, 8, 9, 5, 10, 36, 37, 38, 39, 40, 41, 42, 43, 44, 45, 46, 47, 48, 49, 50, 51, 52, 53, 54, 55, 56, 57, 58, 59] rfl (by decide +kernel)
set_option maxRecDepth 20000 in
theorem gX12_mate_X12_isPoint : GoodIn wsX12_mate (wsV RX12 74 RX12 yX12_isPoint wsX12_isPoint) := goodIn_app (goodIn_of _ (by decide +kernel)) ggX12_mate_X12_isPoint
theorem dX12_mate_0 : decode cX12_mate 0 = .ok (.aload_n 0, 1) := by decide +kernel
theorem dX12_mate_1 : decode cX12_mate 1 = .ok (.iload_n 1, 1) := by decide +kernel
theorem dX12_mate_10 : decode cX12_mate 10 = .ok (.ireturn, 1) := by decide +kernel
theorem dX12_mate_2 : decode cX12_mate 2 = .ok (.invokevirtual 74, 3) := by decide +kernel
theorem dX12_mate_5 : decode cX12_mate 5 = .ok (.ifCond .ne 6, 3) := by decide +kernel
theorem dX12_mate_8 : decode cX12_mate 8 = .ok (.bipush (-2), 2) := by decide +kernel
set_option maxRecDepth 20000 in
theorem ggX12_ways_X12_all : GoodIn wsX12_ways wsX12_all := goodIn_r _ [11, 2, 18, 19, 20, 21, 22, 23, 24, 25, 26, 27, 28, 29, 30, 31, 32, 33, 34, 35, 36, 37, 38, 39, 40, 41] rfl (by decide +kernel)
set_option maxRecDepth 20000 in
theorem gX12_ways_X12_all : GoodIn wsX12_ways (wsV RX12 70 RX12 yX12_all wsX12_all) := goodIn_app (goodIn_of _ (by decide +kernel)) ggX12_ways_X12_all
set_option maxRecDepth 20000 in
theorem ggX12_ways_X12_in : GoodIn wsX12_ways wsX12_in := goodIn_r _ [7] rfl (by decide +kernel)
set_option maxRecDepth 20000 in
theorem gX12_ways_X12_in : GoodIn wsX12_ways (va_wsS RX12 66 yX12_in wsX12_in) := goodIn_app (goodIn_of _ (by decide +kernel)) ggX12_ways_X12_in
theorem dX12_ways_0 : decode cX12_ways 0 = .ok (.iload_n 1, 1) := by decide +kernel
theorem dX12_ways_1 : decode cX12_ways 1 = .ok (.iconst 0, 1) := by decide +kernel
theorem dX12_ways_10 : decode cX12_ways 10 = .ok (.bipush (-2), 2) := by decide +kernel
theorem dX12_ways_12 : decode cX12_ways 12 = .ok (.ireturn, 1) := by decide +kernel
theorem dX12_ways_13 : decode cX12_ways 13 = .ok (.iconst 0, 1) := by decide +kernel
theorem dX12_ways_14 : decode cX12_ways 14 = .ok (.istore_n 2, 1) := by decide +kernel
theorem dX12_ways_15 : decode cX12_ways 15 = .ok (.iload_n 2, 1) := by decide +kernel
theorem dX12_ways_16 : decode cX12_ways 16 = .ok (.bipush 7, 2) := by decide +kernel
theorem dX12_ways_18 : decode cX12_ways 18 = .ok (.if_icmp .ge 24, 3) := by decide +kernel
theorem dX12_ways_2 : decode cX12_ways 2 = .ok (.bipush 6, 2) := by decide +kernel
theorem dX12_ways_204 : decode cX12_ways 204 = .ok (.aload_n 0, 1) := by decide +kernel
theorem dX12_ways_205 : decode cX12_ways 205 = .ok (.getfield 23, 3) := by decide +kernel
theorem dX12_ways_208 : decode cX12_ways 208 = .ok (.bipush 7, 2) := by decide +kernel
theorem dX12_ways_21 : decode cX12_ways 21 = .ok (.aload_n 0, 1) := by decide +kernel
theorem dX12_ways_210 : decode cX12_ways 210 = .ok (.aload_n 0, 1) := by decide +kernel
theorem dX12_ways_211 : decode cX12_ways 211 = .ok (.invokevirtual 70, 3) := by decide +kernel
theorem dX12_ways_214 : decode cX12_ways 214 = .ok (.imul, 1) := by decide +kernel
theorem dX12_ways_215 : decode cX12_ways 215 = .ok (.iload_n 1, 1) := by decide +kernel
theorem dX12_ways_216 : decode cX12_ways 216 = .ok (.iadd, 1) := by decide +kernel
theorem dX12_ways_217 : decode cX12_ways 217 = .ok (.iaload, 1) := by decide +kernel
theorem dX12_ways_218 : decode cX12_ways 218 = .ok (.ireturn, 1) := by decide +kernel
theorem dX12_ways_22 : decode cX12_ways 22 = .ok (.getfield 23, 3) := by decide +kernel
theorem dX12_ways_25 : decode cX12_ways 25 = .ok (.iload_n 2, 1) := by decide +kernel
theorem dX12_ways_26 : decode cX12_ways 26 = .ok (.iload_n 2, 1) := by decide +kernel
theorem dX12_ways_27 : decode cX12_ways 27 = .ok (.ifCond .ne 7, 3) := by decide +kernel
theorem dX12_ways_30 : decode cX12_ways 30 = .ok (.iconst 1, 1) := by decide +kernel
theorem dX12_ways_31 : decode cX12_ways 31 = .ok (.goto 4, 3) := by decide +kernel
theorem dX12_ways_34 : decode cX12_ways 34 = .ok (.iconst 0, 1) := by decide +kernel
theorem dX12_ways_35 : decode cX12_ways 35 = .ok (.iastore, 1) := by decide +kernel
theorem dX12_ways_36 : decode cX12_ways 36 = .ok (.iinc 2 1, 3) := by decide +kernel
theorem dX12_ways_39 : decode cX12_ways 39 = .ok (.goto (-24), 3) := by decide +kernel
theorem dX12_ways_4 : decode cX12_ways 4 = .ok (.invokestatic 66, 3) := by decide +kernel
theorem dX12_ways_42 : decode cX12_ways 42 = .ok (.iconst 1, 1) := by decide +kernel
theorem dX12_ways_43 : decode cX12_ways 43 = .ok (.istore_n 2, 1) := by decide +kernel
theorem dX12_ways_44 : decode cX12_ways 44 = .ok (.iload_n 2, 1) := by decide +kernel
theorem dX12_ways_45 : decode cX12_ways 45 = .ok (.aload_n 0, 1) := by decide +kernel
theorem dX12_ways_46 : decode cX12_ways 46 = .ok (.invokevirtual 70, 3) := by decide +kernel
theorem dX12_ways_49 : decode cX12_ways 49 = .ok (.if_icmp .gt 155, 3) := by decide +kernel
theorem dX12_ways_7 : decode cX12_ways 7 = .ok (.ifCond .ne 6, 3) := by decide +kernel
set_option maxRecDepth 20000 in
theorem ggX12_alone_X12_isPoint : GoodIn wsX12_alone wsX12_isPoint := goodIn_r _ [6, 7, 8, 9, 5, 10, 34, 35, 36, 37, 38, 39, 40, 41, 42, 43, 44, 45, 46, 47, 48, 49, 50, 51, 52, 53, 54, 55, 56, 57] rfl (by decide +kernel)
set_option maxRecDepth 20000 in
theorem gX12_alone_X12_isPoint : GoodIn wsX12_alone (wsV RX12 74 RX12 yX12_isPoint wsX12_isPoint) := goodIn_app (goodIn_of _ (by decide +kernel)) ggX12_alone_X12_isPoint
theorem dX12_alone_0 : decode cX12_alone 0 = .ok (.aload_n 0, 1) := by decide +kernel
theorem dX12_alone_1 : decode cX12_alone 1 = .ok (.iload_n 1, 1) := by decide +kernel
theorem dX12_alone_17 : decode cX12_alone 17 = .ok (.bipush (-2), 2) := by decide +kernel
theorem dX12_alone_19 : decode cX12_alone 19 = .ok (.ireturn, 1) := by decide +kernel
theorem dX12_alone_2 : decode cX12_alone 2 = .ok (.invokevirtual 74, 3) := by decide +kernel
theorem dX12_alone_5 : decode cX12_alone 5 = .ok (.ifCond .eq 12, 3) := by decide +kernel
set_option maxRecDepth 20000 in
theorem ggX12_mark_X12_isPoint : GoodIn wsX12_mark wsX12_isPoint := goodIn_r _ [5, 6, 7, 8, 4, 9, 35, 36, 37, 38, 39, 40, 41, 42, 43, 44, 45, 46, 47, 48, 49, 50, 51, 52, 53, 54, 55, 56, 57, 58] rfl (by decide +kernel)
set_option maxRecDepth 20000 in
theorem gX12_mark_X12_isPoint : GoodIn wsX12_mark (wsV RX12 74 RX12 yX12_isPoint wsX12_isPoint) := goodIn_app (goodIn_of _ (by decide +kernel)) ggX12_mark_X12_isPoint
theorem dX12_mark_0 : decode cX12_mark 0 = .ok (.aload_n 0, 1) := by decide +kernel
theorem dX12_mark_1 : decode cX12_mark 1 = .ok (.iload_n 1, 1) := by decide +kernel
theorem dX12_mark_10 : decode cX12_mark 10 = .ok (.ireturn, 1) := by decide +kernel
theorem dX12_mark_2 : decode cX12_mark 2 = .ok (.invokevirtual 74, 3) := by decide +kernel
theorem dX12_mark_5 : decode cX12_mark 5 = .ok (.ifCond .ne 6, 3) := by decide +kernel
theorem dX12_mark_8 : decode cX12_mark 8 = .ok (.bipush (-2), 2) := by decide +kernel
set_option maxRecDepth 20000 in
theorem ggX12_markedSet_X12_all : GoodIn wsX12_markedSet wsX12_all := goodIn_r _ [12, 1, 13, 14, 15, 16, 17, 18, 19, 20, 21, 22, 23, 24, 25, 26, 27, 28, 29, 30, 31, 32, 33, 34, 35, 36] rfl (by decide +kernel)
set_option maxRecDepth 20000 in
theorem gX12_markedSet_X12_all : GoodIn wsX12_markedSet (wsV RX12 70 RX12 yX12_all wsX12_all) := goodIn_app (goodIn_of _ (by decide +kernel)) ggX12_markedSet_X12_all
theorem dX12_markedSet_0 : decode cX12_markedSet 0 = .ok (.iconst 0, 1) := by decide +kernel
theorem dX12_markedSet_1 : decode cX12_markedSet 1 = .ok (.istore_n 2, 1) := by decide +kernel
theorem dX12_markedSet_10 : decode cX12_markedSet 10 = .ok (.getfield 63, 3) := by decide +kernel
theorem dX12_markedSet_100 : decode cX12_markedSet 100 = .ok (.iconst (-1), 1) := by decide +kernel
theorem dX12_markedSet_101 : decode cX12_markedSet 101 = .ok (.ixor, 1) := by decide +kernel
theorem dX12_markedSet_102 : decode cX12_markedSet 102 = .ok (.iand, 1) := by decide +kernel
theorem dX12_markedSet_103 : decode cX12_markedSet 103 = .ok (.ireturn, 1) := by decide +kernel
theorem dX12_markedSet_13 : decode cX12_markedSet 13 = .ok (.if_icmp .ge 52, 3) := by decide +kernel
theorem dX12_markedSet_2 : decode cX12_markedSet 2 = .ok (.iconst 0, 1) := by decide +kernel
theorem dX12_markedSet_3 : decode cX12_markedSet 3 = .ok (.istore_n 3, 1) := by decide +kernel
theorem dX12_markedSet_4 : decode cX12_markedSet 4 = .ok (.iconst 0, 1) := by decide +kernel
theorem dX12_markedSet_5 : decode cX12_markedSet 5 = .ok (.istore 4, 2) := by decide +kernel
theorem dX12_markedSet_65 : decode cX12_markedSet 65 = .ok (.iload_n 3, 1) := by decide +kernel
theorem dX12_markedSet_66 : decode cX12_markedSet 66 = .ok (.iload_n 2, 1) := by decide +kernel
theorem dX12_markedSet_67 : decode cX12_markedSet 67 = .ok (.iconst (-1), 1) := by decide +kernel
theorem dX12_markedSet_68 : decode cX12_markedSet 68 = .ok (.ixor, 1) := by decide +kernel
theorem dX12_markedSet_69 : decode cX12_markedSet 69 = .ok (.iand, 1) := by decide +kernel
theorem dX12_markedSet_7 : decode cX12_markedSet 7 = .ok (.iload 4, 2) := by decide +kernel
theorem dX12_markedSet_70 : decode cX12_markedSet 70 = .ok (.istore 4, 2) := by decide +kernel
theorem dX12_markedSet_72 : decode cX12_markedSet 72 = .ok (.iload_n 1, 1) := by decide +kernel
theorem dX12_markedSet_73 : decode cX12_markedSet 73 = .ok (.ifCond .ne 7, 3) := by decide +kernel
theorem dX12_markedSet_76 : decode cX12_markedSet 76 = .ok (.iload_n 2, 1) := by decide +kernel
theorem dX12_markedSet_77 : decode cX12_markedSet 77 = .ok (.goto 26, 3) := by decide +kernel
theorem dX12_markedSet_80 : decode cX12_markedSet 80 = .ok (.iload_n 1, 1) := by decide +kernel
theorem dX12_markedSet_81 : decode cX12_markedSet 81 = .ok (.iconst 1, 1) := by decide +kernel
theorem dX12_markedSet_82 : decode cX12_markedSet 82 = .ok (.if_icmp .ne 8, 3) := by decide +kernel
theorem dX12_markedSet_85 : decode cX12_markedSet 85 = .ok (.iload 4, 2) := by decide +kernel
theorem dX12_markedSet_87 : decode cX12_markedSet 87 = .ok (.goto 16, 3) := by decide +kernel
theorem dX12_markedSet_9 : decode cX12_markedSet 9 = .ok (.aload_n 0, 1) := by decide +kernel
theorem dX12_markedSet_90 : decode cX12_markedSet 90 = .ok (.aload_n 0, 1) := by decide +kernel
theorem dX12_markedSet_91 : decode cX12_markedSet 91 = .ok (.invokevirtual 70, 3) := by decide +kernel
theorem dX12_markedSet_94 : decode cX12_markedSet 94 = .ok (.iload_n 2, 1) := by decide +kernel
theorem dX12_markedSet_95 : decode cX12_markedSet 95 = .ok (.iconst (-1), 1) := by decide +kernel
theorem dX12_markedSet_96 : decode cX12_markedSet 96 = .ok (.ixor, 1) := by decide +kernel
theorem dX12_markedSet_97 : decode cX12_markedSet 97 = .ok (.iand, 1) := by decide +kernel
theorem dX12_markedSet_98 : decode cX12_markedSet 98 = .ok (.iload 4, 2) := by decide +kernel
set_option maxRecDepth 20000 in
theorem ggX12_marked_X12_in : GoodIn wsX12_marked wsX12_in := goodIn_r _ [4] rfl (by decide +kernel)
set_option maxRecDepth 20000 in
theorem gX12_marked_X12_in : GoodIn wsX12_marked (va_wsS RX12 66 yX12_in wsX12_in) := goodIn_app (goodIn_of _ (by decide +kernel)) ggX12_marked_X12_in
set_option maxRecDepth 20000 in
theorem ggX12_marked_X12_markedSet : GoodIn wsX12_marked wsX12_markedSet := goodIn_r _ [26, 11, 12, 27, 28, 29, 3, 30, 10, 13, 14, 15, 16, 31, 32, 33, 34, 35, 36, 37, 38, 39, 40, 41, 42, 43, 44, 45, 46, 47, 48, 49, 50, 51, 52, 53, 54] rfl (by decide +kernel)
set_option maxRecDepth 20000 in
theorem gX12_marked_X12_markedSet : GoodIn wsX12_marked (wsV RX12 126 RX12 yX12_markedSet wsX12_markedSet) := goodIn_app (goodIn_of _ (by decide +kernel)) ggX12_marked_X12_markedSet
set_option maxRecDepth 20000 in
theorem ggX12_marked_X12_reckons : GoodIn wsX12_marked wsX12_reckons := goodIn_r _ [8, 9, 10, 11, 12, 13, 14, 15, 3, 16, 17, 18, 19, 20, 21, 22, 31, 32, 33, 34, 35, 36, 37, 38, 39, 40, 41, 42, 43, 44, 45, 46, 47, 48, 49, 50, 51, 52, 53, 54] rfl (by decide +kernel)
set_option maxRecDepth 20000 in
theorem gX12_marked_X12_reckons : GoodIn wsX12_marked (wsV RX12 107 RX12 yX12_reckons wsX12_reckons) := goodIn_app (goodIn_of _ (by decide +kernel)) ggX12_marked_X12_reckons
theorem dX12_marked_0 : decode cX12_marked 0 = .ok (.iload_n 1, 1) := by decide +kernel
theorem dX12_marked_1 : decode cX12_marked 1 = .ok (.iconst 0, 1) := by decide +kernel
theorem dX12_marked_11 : decode cX12_marked 11 = .ok (.ireturn, 1) := by decide +kernel
theorem dX12_marked_12 : decode cX12_marked 12 = .ok (.aload_n 0, 1) := by decide +kernel
theorem dX12_marked_13 : decode cX12_marked 13 = .ok (.invokevirtual 107, 3) := by decide +kernel
theorem dX12_marked_16 : decode cX12_marked 16 = .ok (.aload_n 0, 1) := by decide +kernel
theorem dX12_marked_17 : decode cX12_marked 17 = .ok (.iload_n 1, 1) := by decide +kernel
theorem dX12_marked_18 : decode cX12_marked 18 = .ok (.invokevirtual 126, 3) := by decide +kernel
theorem dX12_marked_2 : decode cX12_marked 2 = .ok (.iconst 2, 1) := by decide +kernel
theorem dX12_marked_21 : decode cX12_marked 21 = .ok (.ireturn, 1) := by decide +kernel
theorem dX12_marked_3 : decode cX12_marked 3 = .ok (.invokestatic 66, 3) := by decide +kernel
theorem dX12_marked_6 : decode cX12_marked 6 = .ok (.ifCond .ne 6, 3) := by decide +kernel
theorem dX12_marked_9 : decode cX12_marked 9 = .ok (.bipush (-2), 2) := by decide +kernel
set_option maxRecDepth 20000 in
theorem ggX12_setOf_X12_markedSet : GoodIn wsX12_setOf wsX12_markedSet := goodIn_r _ [23, 8, 9, 24, 25, 26, 4, 27, 7, 10, 11, 12, 13, 28, 29, 30, 31, 32, 33, 34, 35, 36, 37, 38, 39, 40, 41, 42, 43, 44, 45, 46, 47, 48, 49, 50, 51] rfl (by decide +kernel)
set_option maxRecDepth 20000 in
theorem gX12_setOf_X12_markedSet : GoodIn wsX12_setOf (wsV RX12 126 RX12 yX12_markedSet wsX12_markedSet) := goodIn_app (goodIn_of _ (by decide +kernel)) ggX12_setOf_X12_markedSet
set_option maxRecDepth 20000 in
theorem ggX12_setOf_X12_reckons : GoodIn wsX12_setOf wsX12_reckons := goodIn_r _ [5, 6, 7, 8, 9, 10, 11, 12, 4, 13, 14, 15, 16, 17, 18, 19, 28, 29, 30, 31, 32, 33, 34, 35, 36, 37, 38, 39, 40, 41, 42, 43, 44, 45, 46, 47, 48, 49, 50, 51] rfl (by decide +kernel)
set_option maxRecDepth 20000 in
theorem gX12_setOf_X12_reckons : GoodIn wsX12_setOf (wsV RX12 107 RX12 yX12_reckons wsX12_reckons) := goodIn_app (goodIn_of _ (by decide +kernel)) ggX12_setOf_X12_reckons
theorem dX12_setOf_0 : decode cX12_setOf 0 = .ok (.aload_n 0, 1) := by decide +kernel
theorem dX12_setOf_1 : decode cX12_setOf 1 = .ok (.invokevirtual 107, 3) := by decide +kernel
theorem dX12_setOf_10 : decode cX12_setOf 10 = .ok (.goto 4, 3) := by decide +kernel
theorem dX12_setOf_13 : decode cX12_setOf 13 = .ok (.iconst 2, 1) := by decide +kernel
theorem dX12_setOf_14 : decode cX12_setOf 14 = .ok (.invokevirtual 126, 3) := by decide +kernel
theorem dX12_setOf_17 : decode cX12_setOf 17 = .ok (.ireturn, 1) := by decide +kernel
theorem dX12_setOf_4 : decode cX12_setOf 4 = .ok (.aload_n 0, 1) := by decide +kernel
theorem dX12_setOf_5 : decode cX12_setOf 5 = .ok (.iload_n 1, 1) := by decide +kernel
theorem dX12_setOf_6 : decode cX12_setOf 6 = .ok (.ifCond .ne 7, 3) := by decide +kernel
theorem dX12_setOf_9 : decode cX12_setOf 9 = .ok (.iconst 0, 1) := by decide +kernel
set_option maxRecDepth 20000 in
theorem ggX12_pieces_X12_in : GoodIn wsX12_pieces wsX12_in := goodIn_r _ [4] rfl (by decide +kernel)
set_option maxRecDepth 20000 in
theorem gX12_pieces_X12_in : GoodIn wsX12_pieces (va_wsS RX12 66 yX12_in wsX12_in) := goodIn_app (goodIn_of _ (by decide +kernel)) ggX12_pieces_X12_in
set_option maxRecDepth 20000 in
theorem ggX12_pieces_X12_piecesOf : GoodIn wsX12_pieces wsX12_piecesOf := goodIn_r _ [38, 39, 40, 41, 3, 42, 15, 16, 24, 25, 26, 43, 44, 45, 46, 47, 48, 49, 50, 51, 52, 53, 54, 55, 56, 57, 58, 59, 60, 61, 62, 63, 64, 65, 66] rfl (by decide +kernel)
set_option maxRecDepth 20000 in
theorem gX12_pieces_X12_piecesOf : GoodIn wsX12_pieces (wsV RX12 98 RX12 yX12_piecesOf wsX12_piecesOf) := goodIn_app (goodIn_of _ (by decide +kernel)) ggX12_pieces_X12_piecesOf
set_option maxRecDepth 20000 in
theorem ggX12_pieces_X12_setOf : GoodIn wsX12_pieces wsX12_setOf := goodIn_r _ [8, 9, 10, 11, 3, 12, 13, 14, 15, 16, 17, 18, 19, 20, 21, 22, 23, 24, 25, 26, 27, 28, 29, 30, 31, 32, 33, 34, 43, 44, 45, 46, 47, 48, 49, 50, 51, 52, 53, 54, 55, 56, 57, 58, 59, 60, 61, 62, 63, 64, 65, 66] rfl (by decide +kernel)
set_option maxRecDepth 20000 in
theorem gX12_pieces_X12_setOf : GoodIn wsX12_pieces (wsV RX12 132 RX12 yX12_setOf wsX12_setOf) := goodIn_app (goodIn_of _ (by decide +kernel)) ggX12_pieces_X12_setOf
theorem dX12_pieces_0 : decode cX12_pieces 0 = .ok (.iload_n 1, 1) := by decide +kernel
theorem dX12_pieces_1 : decode cX12_pieces 1 = .ok (.iconst 0, 1) := by decide +kernel
theorem dX12_pieces_10 : decode cX12_pieces 10 = .ok (.aload_n 0, 1) := by decide +kernel
theorem dX12_pieces_11 : decode cX12_pieces 11 = .ok (.iload_n 1, 1) := by decide +kernel
theorem dX12_pieces_12 : decode cX12_pieces 12 = .ok (.invokevirtual 132, 3) := by decide +kernel
theorem dX12_pieces_15 : decode cX12_pieces 15 = .ok (.invokevirtual 98, 3) := by decide +kernel
theorem dX12_pieces_18 : decode cX12_pieces 18 = .ok (.goto 5, 3) := by decide +kernel
theorem dX12_pieces_2 : decode cX12_pieces 2 = .ok (.iconst 1, 1) := by decide +kernel
theorem dX12_pieces_21 : decode cX12_pieces 21 = .ok (.bipush (-2), 2) := by decide +kernel
theorem dX12_pieces_23 : decode cX12_pieces 23 = .ok (.ireturn, 1) := by decide +kernel
theorem dX12_pieces_3 : decode cX12_pieces 3 = .ok (.invokestatic 66, 3) := by decide +kernel
theorem dX12_pieces_6 : decode cX12_pieces 6 = .ok (.ifCond .eq 15, 3) := by decide +kernel
theorem dX12_pieces_9 : decode cX12_pieces 9 = .ok (.aload_n 0, 1) := by decide +kernel
set_option maxRecDepth 20000 in
theorem ggX12_pieceAt_X12_setOf : GoodIn wsX12_pieceAt wsX12_setOf := goodIn_r _ [5, 6, 7, 8, 4, 9, 10, 11, 12, 13, 14, 15, 16, 17, 18, 19, 20, 21, 22, 23, 24, 25, 26, 27, 28, 29, 30, 31, 36, 37, 38, 39, 40, 41, 42, 43, 44, 45, 46, 47, 48, 49, 50, 51, 52, 53, 54, 55, 56, 57, 58, 59] rfl (by decide +kernel)
set_option maxRecDepth 20000 in
theorem gX12_pieceAt_X12_setOf : GoodIn wsX12_pieceAt (wsV RX12 132 RX12 yX12_setOf wsX12_setOf) := goodIn_app (goodIn_of _ (by decide +kernel)) ggX12_pieceAt_X12_setOf
theorem dX12_pieceAt_0 : decode cX12_pieceAt 0 = .ok (.aload_n 0, 1) := by decide +kernel
theorem dX12_pieceAt_1 : decode cX12_pieceAt 1 = .ok (.iload_n 1, 1) := by decide +kernel
theorem dX12_pieceAt_11 : decode cX12_pieceAt 11 = .ok (.iload_n 2, 1) := by decide +kernel
theorem dX12_pieceAt_12 : decode cX12_pieceAt 12 = .ok (.if_icmp .ge 23, 3) := by decide +kernel
theorem dX12_pieceAt_15 : decode cX12_pieceAt 15 = .ok (.iload_n 3, 1) := by decide +kernel
theorem dX12_pieceAt_16 : decode cX12_pieceAt 16 = .ok (.ifCond .eq 19, 3) := by decide +kernel
theorem dX12_pieceAt_2 : decode cX12_pieceAt 2 = .ok (.invokevirtual 132, 3) := by decide +kernel
theorem dX12_pieceAt_35 : decode cX12_pieceAt 35 = .ok (.iload_n 2, 1) := by decide +kernel
theorem dX12_pieceAt_36 : decode cX12_pieceAt 36 = .ok (.ifCond .lt 7, 3) := by decide +kernel
theorem dX12_pieceAt_39 : decode cX12_pieceAt 39 = .ok (.iload_n 3, 1) := by decide +kernel
theorem dX12_pieceAt_40 : decode cX12_pieceAt 40 = .ok (.ifCond .ne 7, 3) := by decide +kernel
theorem dX12_pieceAt_43 : decode cX12_pieceAt 43 = .ok (.iconst 0, 1) := by decide +kernel
theorem dX12_pieceAt_44 : decode cX12_pieceAt 44 = .ok (.goto 8, 3) := by decide +kernel
theorem dX12_pieceAt_5 : decode cX12_pieceAt 5 = .ok (.istore_n 3, 1) := by decide +kernel
theorem dX12_pieceAt_52 : decode cX12_pieceAt 52 = .ok (.ireturn, 1) := by decide +kernel
theorem dX12_pieceAt_6 : decode cX12_pieceAt 6 = .ok (.iconst 0, 1) := by decide +kernel
theorem dX12_pieceAt_7 : decode cX12_pieceAt 7 = .ok (.istore 4, 2) := by decide +kernel
theorem dX12_pieceAt_9 : decode cX12_pieceAt 9 = .ok (.iload 4, 2) := by decide +kernel
set_option maxRecDepth 20000 in
theorem ggX12_piece_X12_in : GoodIn wsX12_piece wsX12_in := goodIn_r _ [4] rfl (by decide +kernel)
set_option maxRecDepth 20000 in
theorem gX12_piece_X12_in : GoodIn wsX12_piece (va_wsS RX12 66 yX12_in wsX12_in) := goodIn_app (goodIn_of _ (by decide +kernel)) ggX12_piece_X12_in
set_option maxRecDepth 20000 in
theorem ggX12_piece_X12_pieceAt : GoodIn wsX12_piece wsX12_pieceAt := goodIn_r _ [8, 9, 10, 11, 3, 12, 13, 14, 15, 16, 17, 18, 19, 20, 21, 22, 23, 24, 25, 26, 27, 28, 29, 30, 31, 32, 33, 34, 35, 36, 37, 38, 39, 40, 41, 42, 47, 48, 49, 50, 51, 52, 53, 54, 55, 56, 57, 58, 59, 60, 61, 62, 63, 64, 65, 66, 67, 68, 69, 70] rfl (by decide +kernel)
set_option maxRecDepth 20000 in
theorem gX12_piece_X12_pieceAt : GoodIn wsX12_piece (wsV RX12 135 RX12 yX12_pieceAt wsX12_pieceAt) := goodIn_app (goodIn_of _ (by decide +kernel)) ggX12_piece_X12_pieceAt
theorem dX12_piece_0 : decode cX12_piece 0 = .ok (.iload_n 1, 1) := by decide +kernel
theorem dX12_piece_1 : decode cX12_piece 1 = .ok (.iconst 0, 1) := by decide +kernel
theorem dX12_piece_10 : decode cX12_piece 10 = .ok (.iconst 0, 1) := by decide +kernel
theorem dX12_piece_11 : decode cX12_piece 11 = .ok (.iconst 1, 1) := by decide +kernel
theorem dX12_piece_12 : decode cX12_piece 12 = .ok (.invokestatic 66, 3) := by decide +kernel
theorem dX12_piece_15 : decode cX12_piece 15 = .ok (.ifCond .ne 6, 3) := by decide +kernel
theorem dX12_piece_18 : decode cX12_piece 18 = .ok (.bipush (-2), 2) := by decide +kernel
theorem dX12_piece_2 : decode cX12_piece 2 = .ok (.iconst 1, 1) := by decide +kernel
theorem dX12_piece_20 : decode cX12_piece 20 = .ok (.ireturn, 1) := by decide +kernel
theorem dX12_piece_21 : decode cX12_piece 21 = .ok (.aload_n 0, 1) := by decide +kernel
theorem dX12_piece_22 : decode cX12_piece 22 = .ok (.iload_n 1, 1) := by decide +kernel
theorem dX12_piece_23 : decode cX12_piece 23 = .ok (.iload_n 2, 1) := by decide +kernel
theorem dX12_piece_24 : decode cX12_piece 24 = .ok (.invokevirtual 135, 3) := by decide +kernel
theorem dX12_piece_27 : decode cX12_piece 27 = .ok (.istore 4, 2) := by decide +kernel
theorem dX12_piece_29 : decode cX12_piece 29 = .ok (.iload 4, 2) := by decide +kernel
theorem dX12_piece_3 : decode cX12_piece 3 = .ok (.invokestatic 66, 3) := by decide +kernel
theorem dX12_piece_31 : decode cX12_piece 31 = .ok (.ifCond .ne 7, 3) := by decide +kernel
theorem dX12_piece_34 : decode cX12_piece 34 = .ok (.iconst (-1), 1) := by decide +kernel
theorem dX12_piece_35 : decode cX12_piece 35 = .ok (.goto 24, 3) := by decide +kernel
theorem dX12_piece_59 : decode cX12_piece 59 = .ok (.ireturn, 1) := by decide +kernel
theorem dX12_piece_6 : decode cX12_piece 6 = .ok (.ifCond .eq 12, 3) := by decide +kernel
theorem dX12_piece_9 : decode cX12_piece 9 = .ok (.iload_n 3, 1) := by decide +kernel
theorem dX12_bits_0 : decode cX12_bits 0 = .ok (.iconst 0, 1) := by decide +kernel
theorem dX12_bits_1 : decode cX12_bits 1 = .ok (.istore_n 1, 1) := by decide +kernel
theorem dX12_bits_2 : decode cX12_bits 2 = .ok (.iload_n 0, 1) := by decide +kernel
theorem dX12_bits_20 : decode cX12_bits 20 = .ok (.iload_n 1, 1) := by decide +kernel
theorem dX12_bits_21 : decode cX12_bits 21 = .ok (.ireturn, 1) := by decide +kernel
theorem dX12_bits_3 : decode cX12_bits 3 = .ok (.istore_n 2, 1) := by decide +kernel
theorem dX12_bits_4 : decode cX12_bits 4 = .ok (.iload_n 2, 1) := by decide +kernel
theorem dX12_bits_5 : decode cX12_bits 5 = .ok (.ifCond .eq 15, 3) := by decide +kernel
set_option maxRecDepth 20000 in
theorem ggX12_surplus_X12_bits : GoodIn wsX12_surplus wsX12_bits := goodIn_r _ [34] rfl (by decide +kernel)
set_option maxRecDepth 20000 in
theorem gX12_surplus_X12_bits : GoodIn wsX12_surplus (va_wsS RX12 85 yX12_bits wsX12_bits) := goodIn_app (goodIn_of _ (by decide +kernel)) ggX12_surplus_X12_bits
set_option maxRecDepth 20000 in
theorem ggX12_surplus_X12_isSet : GoodIn wsX12_surplus wsX12_isSet := goodIn_r _ [23, 10, 11, 12, 4, 13, 8, 43, 44, 45, 46, 47, 48, 49, 50, 51, 52, 53, 54, 55, 56, 57, 58, 59, 60, 61, 62, 63, 64, 65, 66] rfl (by decide +kernel)
set_option maxRecDepth 20000 in
theorem gX12_surplus_X12_isSet : GoodIn wsX12_surplus (wsV RX12 110 RX12 yX12_isSet wsX12_isSet) := goodIn_app (goodIn_of _ (by decide +kernel)) ggX12_surplus_X12_isSet
set_option maxRecDepth 20000 in
theorem ggX12_surplus_X12_markedSet : GoodIn wsX12_surplus wsX12_markedSet := goodIn_r _ [27, 8, 9, 28, 29, 30, 4, 31, 7, 10, 11, 12, 13, 43, 44, 45, 46, 47, 48, 49, 50, 51, 52, 53, 54, 55, 56, 57, 58, 59, 60, 61, 62, 63, 64, 65, 66] rfl (by decide +kernel)
set_option maxRecDepth 20000 in
theorem gX12_surplus_X12_markedSet : GoodIn wsX12_surplus (wsV RX12 126 RX12 yX12_markedSet wsX12_markedSet) := goodIn_app (goodIn_of _ (by decide +kernel)) ggX12_surplus_X12_markedSet
set_option maxRecDepth 20000 in
theorem ggX12_surplus_X12_reckons : GoodIn wsX12_surplus wsX12_reckons := goodIn_r _ [5, 6, 7, 8, 9, 10, 11, 12, 4, 13, 14, 15, 16, 17, 18, 19, 43, 44, 45, 46, 47, 48, 49, 50, 51, 52, 53, 54, 55, 56, 57, 58, 59, 60, 61, 62, 63, 64, 65, 66] rfl (by decide +kernel)
set_option maxRecDepth 20000 in
theorem gX12_surplus_X12_reckons : GoodIn wsX12_surplus (wsV RX12 107 RX12 yX12_reckons wsX12_reckons) := goodIn_app (goodIn_of _ (by decide +kernel)) ggX12_surplus_X12_reckons
theorem dX12_surplus_0 : decode cX12_surplus 0 = .ok (.aload_n 0, 1) := by decide +kernel
theorem dX12_surplus_1 : decode cX12_surplus 1 = .ok (.invokevirtual 107, 3) := by decide +kernel
theorem dX12_surplus_12 : decode cX12_surplus 12 = .ok (.iload_n 1, 1) := by decide +kernel
theorem dX12_surplus_13 : decode cX12_surplus 13 = .ok (.aload_n 0, 1) := by decide +kernel
theorem dX12_surplus_14 : decode cX12_surplus 14 = .ok (.iconst 1, 1) := by decide +kernel
theorem dX12_surplus_15 : decode cX12_surplus 15 = .ok (.invokevirtual 126, 3) := by decide +kernel
theorem dX12_surplus_18 : decode cX12_surplus 18 = .ok (.iconst (-1), 1) := by decide +kernel
theorem dX12_surplus_19 : decode cX12_surplus 19 = .ok (.ixor, 1) := by decide +kernel
theorem dX12_surplus_20 : decode cX12_surplus 20 = .ok (.iand, 1) := by decide +kernel
theorem dX12_surplus_21 : decode cX12_surplus 21 = .ok (.ifCond .eq 6, 3) := by decide +kernel
theorem dX12_surplus_24 : decode cX12_surplus 24 = .ok (.bipush (-2), 2) := by decide +kernel
theorem dX12_surplus_26 : decode cX12_surplus 26 = .ok (.ireturn, 1) := by decide +kernel
theorem dX12_surplus_27 : decode cX12_surplus 27 = .ok (.iload_n 1, 1) := by decide +kernel
theorem dX12_surplus_28 : decode cX12_surplus 28 = .ok (.invokestatic 85, 3) := by decide +kernel
theorem dX12_surplus_31 : decode cX12_surplus 31 = .ok (.ineg, 1) := by decide +kernel
theorem dX12_surplus_32 : decode cX12_surplus 32 = .ok (.istore_n 2, 1) := by decide +kernel
theorem dX12_surplus_33 : decode cX12_surplus 33 = .ok (.aload_n 0, 1) := by decide +kernel
theorem dX12_surplus_34 : decode cX12_surplus 34 = .ok (.iconst 0, 1) := by decide +kernel
theorem dX12_surplus_35 : decode cX12_surplus 35 = .ok (.invokevirtual 126, 3) := by decide +kernel
theorem dX12_surplus_38 : decode cX12_surplus 38 = .ok (.istore_n 3, 1) := by decide +kernel
theorem dX12_surplus_39 : decode cX12_surplus 39 = .ok (.iload_n 3, 1) := by decide +kernel
theorem dX12_surplus_4 : decode cX12_surplus 4 = .ok (.aload_n 0, 1) := by decide +kernel
theorem dX12_surplus_40 : decode cX12_surplus 40 = .ok (.ifCond .eq 38, 3) := by decide +kernel
theorem dX12_surplus_5 : decode cX12_surplus 5 = .ok (.iload_n 1, 1) := by decide +kernel
theorem dX12_surplus_6 : decode cX12_surplus 6 = .ok (.invokevirtual 110, 3) := by decide +kernel
theorem dX12_surplus_78 : decode cX12_surplus 78 = .ok (.iload_n 2, 1) := by decide +kernel
theorem dX12_surplus_79 : decode cX12_surplus 79 = .ok (.ireturn, 1) := by decide +kernel
theorem dX12_surplus_9 : decode cX12_surplus 9 = .ok (.ifCond .eq 15, 3) := by decide +kernel
set_option maxRecDepth 20000 in
theorem ggX12_oddOf_X12_all : GoodIn wsX12_oddOf wsX12_all := goodIn_r _ [5, 6, 18, 19, 20, 21, 22, 23, 24, 25, 26, 27, 28, 29, 30, 31, 32, 33, 34, 35, 36, 37, 38, 39, 40, 41] rfl (by decide +kernel)
set_option maxRecDepth 20000 in
theorem gX12_oddOf_X12_all : GoodIn wsX12_oddOf (wsV RX12 70 RX12 yX12_all wsX12_all) := goodIn_app (goodIn_of _ (by decide +kernel)) ggX12_oddOf_X12_all
theorem dX12_oddOf_0 : decode cX12_oddOf 0 = .ok (.iconst 0, 1) := by decide +kernel
theorem dX12_oddOf_1 : decode cX12_oddOf 1 = .ok (.istore_n 2, 1) := by decide +kernel
theorem dX12_oddOf_10 : decode cX12_oddOf 10 = .ok (.istore_n 3, 1) := by decide +kernel
theorem dX12_oddOf_11 : decode cX12_oddOf 11 = .ok (.iload_n 3, 1) := by decide +kernel
theorem dX12_oddOf_12 : decode cX12_oddOf 12 = .ok (.ifCond .eq 29, 3) := by decide +kernel
theorem dX12_oddOf_2 : decode cX12_oddOf 2 = .ok (.aload_n 0, 1) := by decide +kernel
theorem dX12_oddOf_3 : decode cX12_oddOf 3 = .ok (.invokevirtual 70, 3) := by decide +kernel
theorem dX12_oddOf_41 : decode cX12_oddOf 41 = .ok (.iload_n 2, 1) := by decide +kernel
theorem dX12_oddOf_42 : decode cX12_oddOf 42 = .ok (.ireturn, 1) := by decide +kernel
theorem dX12_oddOf_6 : decode cX12_oddOf 6 = .ok (.iload_n 1, 1) := by decide +kernel
theorem dX12_oddOf_7 : decode cX12_oddOf 7 = .ok (.iconst (-1), 1) := by decide +kernel
theorem dX12_oddOf_8 : decode cX12_oddOf 8 = .ok (.ixor, 1) := by decide +kernel
theorem dX12_oddOf_9 : decode cX12_oddOf 9 = .ok (.iand, 1) := by decide +kernel
set_option maxRecDepth 20000 in
theorem ggX12_odd_X12_isSet : GoodIn wsX12_odd wsX12_isSet := goodIn_r _ [5, 6, 7, 8, 4, 9, 10, 26, 27, 28, 29, 30, 31, 32, 33, 34, 35, 36, 37, 38, 39, 40, 41, 42, 43, 44, 45, 46, 47, 48, 49] rfl (by decide +kernel)
set_option maxRecDepth 20000 in
theorem gX12_odd_X12_isSet : GoodIn wsX12_odd (wsV RX12 110 RX12 yX12_isSet wsX12_isSet) := goodIn_app (goodIn_of _ (by decide +kernel)) ggX12_odd_X12_isSet
set_option maxRecDepth 20000 in
theorem ggX12_odd_X12_oddOf : GoodIn wsX12_odd wsX12_oddOf := goodIn_r _ [14, 6, 7, 8, 4, 9, 10, 15, 16, 17, 18, 19, 20, 21, 22, 23, 24, 25, 26, 27, 28, 29, 30, 31, 32, 33, 34, 35, 36, 37, 38, 39, 40, 41, 42, 43, 44, 45, 46, 47, 48, 49] rfl (by decide +kernel)
set_option maxRecDepth 20000 in
theorem gX12_odd_X12_oddOf : GoodIn wsX12_odd (wsV RX12 141 RX12 yX12_oddOf wsX12_oddOf) := goodIn_app (goodIn_of _ (by decide +kernel)) ggX12_odd_X12_oddOf
theorem dX12_odd_0 : decode cX12_odd 0 = .ok (.aload_n 0, 1) := by decide +kernel
theorem dX12_odd_1 : decode cX12_odd 1 = .ok (.iload_n 1, 1) := by decide +kernel
theorem dX12_odd_10 : decode cX12_odd 10 = .ok (.invokevirtual 141, 3) := by decide +kernel
theorem dX12_odd_13 : decode cX12_odd 13 = .ok (.goto 5, 3) := by decide +kernel
theorem dX12_odd_16 : decode cX12_odd 16 = .ok (.bipush (-2), 2) := by decide +kernel
theorem dX12_odd_18 : decode cX12_odd 18 = .ok (.ireturn, 1) := by decide +kernel
theorem dX12_odd_2 : decode cX12_odd 2 = .ok (.invokevirtual 110, 3) := by decide +kernel
theorem dX12_odd_5 : decode cX12_odd 5 = .ok (.ifCond .eq 11, 3) := by decide +kernel
theorem dX12_odd_8 : decode cX12_odd 8 = .ok (.aload_n 0, 1) := by decide +kernel
theorem dX12_odd_9 : decode cX12_odd 9 = .ok (.iload_n 1, 1) := by decide +kernel
set_option maxRecDepth 20000 in
theorem ggX12_barrier_X12_bits : GoodIn wsX12_barrier wsX12_bits := goodIn_r _ [25] rfl (by decide +kernel)
set_option maxRecDepth 20000 in
theorem gX12_barrier_X12_bits : GoodIn wsX12_barrier (va_wsS RX12 85 yX12_bits wsX12_bits) := goodIn_app (goodIn_of _ (by decide +kernel)) ggX12_barrier_X12_bits
set_option maxRecDepth 20000 in
theorem ggX12_barrier_X12_isSet : GoodIn wsX12_barrier wsX12_isSet := goodIn_r _ [5, 6, 7, 8, 4, 9, 10, 43, 44, 45, 46, 47, 48, 49, 50, 51, 52, 53, 54, 55, 56, 57, 58, 59, 60, 61, 62, 63, 64, 65, 66] rfl (by decide +kernel)
set_option maxRecDepth 20000 in
theorem gX12_barrier_X12_isSet : GoodIn wsX12_barrier (wsV RX12 110 RX12 yX12_isSet wsX12_isSet) := goodIn_app (goodIn_of _ (by decide +kernel)) ggX12_barrier_X12_isSet
set_option maxRecDepth 20000 in
theorem ggX12_barrier_X12_lack : GoodIn wsX12_barrier wsX12_lack := goodIn_r _ [29, 10, 30, 31, 32, 4, 33, 34, 35, 36, 37, 38, 39, 19, 6, 7, 8, 9, 40, 41, 42, 20, 21, 22, 43, 44, 45, 46, 47, 48, 49, 50, 51, 52, 53, 54, 55, 56, 57, 58, 59, 60, 61, 62, 63, 64, 65, 66] rfl (by decide +kernel)
set_option maxRecDepth 20000 in
theorem gX12_barrier_X12_lack : GoodIn wsX12_barrier (wsV RX12 95 RX12 yX12_lack wsX12_lack) := goodIn_app (goodIn_of _ (by decide +kernel)) ggX12_barrier_X12_lack
set_option maxRecDepth 20000 in
theorem ggX12_barrier_X12_oddOf : GoodIn wsX12_barrier wsX12_oddOf := goodIn_r _ [14, 6, 7, 8, 4, 9, 10, 15, 16, 17, 18, 19, 20, 21, 22, 23, 24, 25, 43, 44, 45, 46, 47, 48, 49, 50, 51, 52, 53, 54, 55, 56, 57, 58, 59, 60, 61, 62, 63, 64, 65, 66] rfl (by decide +kernel)
set_option maxRecDepth 20000 in
theorem gX12_barrier_X12_oddOf : GoodIn wsX12_barrier (wsV RX12 141 RX12 yX12_oddOf wsX12_oddOf) := goodIn_app (goodIn_of _ (by decide +kernel)) ggX12_barrier_X12_oddOf
theorem dX12_barrier_0 : decode cX12_barrier 0 = .ok (.aload_n 0, 1) := by decide +kernel
theorem dX12_barrier_1 : decode cX12_barrier 1 = .ok (.iload_n 1, 1) := by decide +kernel
theorem dX12_barrier_10 : decode cX12_barrier 10 = .ok (.goto 25, 3) := by decide +kernel
theorem dX12_barrier_13 : decode cX12_barrier 13 = .ok (.aload_n 0, 1) := by decide +kernel
theorem dX12_barrier_14 : decode cX12_barrier 14 = .ok (.iload_n 1, 1) := by decide +kernel
theorem dX12_barrier_15 : decode cX12_barrier 15 = .ok (.invokevirtual 141, 3) := by decide +kernel
theorem dX12_barrier_18 : decode cX12_barrier 18 = .ok (.iload_n 1, 1) := by decide +kernel
theorem dX12_barrier_19 : decode cX12_barrier 19 = .ok (.invokestatic 85, 3) := by decide +kernel
theorem dX12_barrier_2 : decode cX12_barrier 2 = .ok (.invokevirtual 110, 3) := by decide +kernel
theorem dX12_barrier_22 : decode cX12_barrier 22 = .ok (.isub, 1) := by decide +kernel
theorem dX12_barrier_23 : decode cX12_barrier 23 = .ok (.aload_n 0, 1) := by decide +kernel
theorem dX12_barrier_24 : decode cX12_barrier 24 = .ok (.invokevirtual 95, 3) := by decide +kernel
theorem dX12_barrier_27 : decode cX12_barrier 27 = .ok (.if_icmp .ne 7, 3) := by decide +kernel
theorem dX12_barrier_30 : decode cX12_barrier 30 = .ok (.iconst 1, 1) := by decide +kernel
theorem dX12_barrier_31 : decode cX12_barrier 31 = .ok (.goto 4, 3) := by decide +kernel
theorem dX12_barrier_35 : decode cX12_barrier 35 = .ok (.ireturn, 1) := by decide +kernel
theorem dX12_barrier_5 : decode cX12_barrier 5 = .ok (.ifCond .ne 8, 3) := by decide +kernel
theorem dX12_barrier_8 : decode cX12_barrier 8 = .ok (.bipush (-2), 2) := by decide +kernel
set_option maxRecDepth 20000 in
theorem ggX12_barriers_X12_all : GoodIn wsX12_barriers wsX12_all := goodIn_r _ [24, 9, 42, 43, 44, 45, 46, 47, 48, 49, 50, 51, 52, 53, 54, 55, 56, 57, 58, 59, 60, 61, 62, 63, 64, 65] rfl (by decide +kernel)
set_option maxRecDepth 20000 in
theorem gX12_barriers_X12_all : GoodIn wsX12_barriers (wsV RX12 70 RX12 yX12_all wsX12_all) := goodIn_app (goodIn_of _ (by decide +kernel)) ggX12_barriers_X12_all
set_option maxRecDepth 20000 in
theorem ggX12_barriers_X12_bits : GoodIn wsX12_barriers wsX12_bits := goodIn_r _ [41] rfl (by decide +kernel)
set_option maxRecDepth 20000 in
theorem gX12_barriers_X12_bits : GoodIn wsX12_barriers (va_wsS RX12 85 yX12_bits wsX12_bits) := goodIn_app (goodIn_of _ (by decide +kernel)) ggX12_barriers_X12_bits
set_option maxRecDepth 20000 in
theorem ggX12_barriers_X12_in : GoodIn wsX12_barriers wsX12_in := goodIn_r _ [4] rfl (by decide +kernel)
set_option maxRecDepth 20000 in
theorem gX12_barriers_X12_in : GoodIn wsX12_barriers (va_wsS RX12 66 yX12_in wsX12_in) := goodIn_app (goodIn_of _ (by decide +kernel)) ggX12_barriers_X12_in
set_option maxRecDepth 20000 in
theorem ggX12_barriers_X12_lack : GoodIn wsX12_barriers wsX12_lack := goodIn_r _ [8, 9, 10, 11, 12, 3, 13, 14, 15, 16, 17, 18, 19, 20, 21, 22, 23, 24, 25, 26, 27, 28, 29, 30, 42, 43, 44, 45, 46, 47, 48, 49, 50, 51, 52, 53, 54, 55, 56, 57, 58, 59, 60, 61, 62, 63, 64, 65] rfl (by decide +kernel)
set_option maxRecDepth 20000 in
theorem gX12_barriers_X12_lack : GoodIn wsX12_barriers (wsV RX12 95 RX12 yX12_lack wsX12_lack) := goodIn_app (goodIn_of _ (by decide +kernel)) ggX12_barriers_X12_lack
set_option maxRecDepth 20000 in
theorem ggX12_barriers_X12_oddOf : GoodIn wsX12_barriers wsX12_oddOf := goodIn_r _ [34, 21, 22, 23, 3, 24, 9, 35, 36, 37, 38, 20, 28, 29, 30, 39, 40, 41, 42, 43, 44, 45, 46, 47, 48, 49, 50, 51, 52, 53, 54, 55, 56, 57, 58, 59, 60, 61, 62, 63, 64, 65] rfl (by decide +kernel)
set_option maxRecDepth 20000 in
theorem gX12_barriers_X12_oddOf : GoodIn wsX12_barriers (wsV RX12 141 RX12 yX12_oddOf wsX12_oddOf) := goodIn_app (goodIn_of _ (by decide +kernel)) ggX12_barriers_X12_oddOf
theorem dX12_barriers_0 : decode cX12_barriers 0 = .ok (.iload_n 1, 1) := by decide +kernel
theorem dX12_barriers_1 : decode cX12_barriers 1 = .ok (.iconst 0, 1) := by decide +kernel
theorem dX12_barriers_100 : decode cX12_barriers 100 = .ok (.goto (-69), 3) := by decide +kernel
theorem dX12_barriers_103 : decode cX12_barriers 103 = .ok (.iload_n 1, 1) := by decide +kernel
theorem dX12_barriers_104 : decode cX12_barriers 104 = .ok (.ifCond .ne 7, 3) := by decide +kernel
theorem dX12_barriers_107 : decode cX12_barriers 107 = .ok (.iload_n 3, 1) := by decide +kernel
theorem dX12_barriers_108 : decode cX12_barriers 108 = .ok (.goto 15, 3) := by decide +kernel
theorem dX12_barriers_11 : decode cX12_barriers 11 = .ok (.ireturn, 1) := by decide +kernel
theorem dX12_barriers_111 : decode cX12_barriers 111 = .ok (.iload_n 1, 1) := by decide +kernel
theorem dX12_barriers_112 : decode cX12_barriers 112 = .ok (.iconst 1, 1) := by decide +kernel
theorem dX12_barriers_113 : decode cX12_barriers 113 = .ok (.if_icmp .ne 8, 3) := by decide +kernel
theorem dX12_barriers_116 : decode cX12_barriers 116 = .ok (.iload 4, 2) := by decide +kernel
theorem dX12_barriers_118 : decode cX12_barriers 118 = .ok (.goto 5, 3) := by decide +kernel
theorem dX12_barriers_12 : decode cX12_barriers 12 = .ok (.aload_n 0, 1) := by decide +kernel
theorem dX12_barriers_121 : decode cX12_barriers 121 = .ok (.iload 5, 2) := by decide +kernel
theorem dX12_barriers_123 : decode cX12_barriers 123 = .ok (.ireturn, 1) := by decide +kernel
theorem dX12_barriers_13 : decode cX12_barriers 13 = .ok (.invokevirtual 95, 3) := by decide +kernel
theorem dX12_barriers_16 : decode cX12_barriers 16 = .ok (.istore_n 2, 1) := by decide +kernel
theorem dX12_barriers_17 : decode cX12_barriers 17 = .ok (.iconst 0, 1) := by decide +kernel
theorem dX12_barriers_18 : decode cX12_barriers 18 = .ok (.istore_n 3, 1) := by decide +kernel
theorem dX12_barriers_19 : decode cX12_barriers 19 = .ok (.iconst (-1), 1) := by decide +kernel
theorem dX12_barriers_2 : decode cX12_barriers 2 = .ok (.iconst 2, 1) := by decide +kernel
theorem dX12_barriers_20 : decode cX12_barriers 20 = .ok (.istore 4, 2) := by decide +kernel
theorem dX12_barriers_22 : decode cX12_barriers 22 = .ok (.aload_n 0, 1) := by decide +kernel
theorem dX12_barriers_23 : decode cX12_barriers 23 = .ok (.invokevirtual 70, 3) := by decide +kernel
theorem dX12_barriers_26 : decode cX12_barriers 26 = .ok (.istore 5, 2) := by decide +kernel
theorem dX12_barriers_28 : decode cX12_barriers 28 = .ok (.iconst 0, 1) := by decide +kernel
theorem dX12_barriers_29 : decode cX12_barriers 29 = .ok (.istore 6, 2) := by decide +kernel
theorem dX12_barriers_3 : decode cX12_barriers 3 = .ok (.invokestatic 66, 3) := by decide +kernel
theorem dX12_barriers_31 : decode cX12_barriers 31 = .ok (.iload 6, 2) := by decide +kernel
theorem dX12_barriers_33 : decode cX12_barriers 33 = .ok (.aload_n 0, 1) := by decide +kernel
theorem dX12_barriers_34 : decode cX12_barriers 34 = .ok (.invokevirtual 70, 3) := by decide +kernel
theorem dX12_barriers_37 : decode cX12_barriers 37 = .ok (.if_icmp .gt 66, 3) := by decide +kernel
theorem dX12_barriers_40 : decode cX12_barriers 40 = .ok (.aload_n 0, 1) := by decide +kernel
theorem dX12_barriers_41 : decode cX12_barriers 41 = .ok (.iload 6, 2) := by decide +kernel
theorem dX12_barriers_43 : decode cX12_barriers 43 = .ok (.invokevirtual 141, 3) := by decide +kernel
theorem dX12_barriers_46 : decode cX12_barriers 46 = .ok (.iload 6, 2) := by decide +kernel
theorem dX12_barriers_48 : decode cX12_barriers 48 = .ok (.invokestatic 85, 3) := by decide +kernel
theorem dX12_barriers_51 : decode cX12_barriers 51 = .ok (.isub, 1) := by decide +kernel
theorem dX12_barriers_52 : decode cX12_barriers 52 = .ok (.iload_n 2, 1) := by decide +kernel
theorem dX12_barriers_53 : decode cX12_barriers 53 = .ok (.if_icmp .eq 6, 3) := by decide +kernel
theorem dX12_barriers_59 : decode cX12_barriers 59 = .ok (.iinc 3 1, 3) := by decide +kernel
theorem dX12_barriers_6 : decode cX12_barriers 6 = .ok (.ifCond .ne 6, 3) := by decide +kernel
theorem dX12_barriers_62 : decode cX12_barriers 62 = .ok (.iload 4, 2) := by decide +kernel
theorem dX12_barriers_64 : decode cX12_barriers 64 = .ok (.iconst (-1), 1) := by decide +kernel
theorem dX12_barriers_65 : decode cX12_barriers 65 = .ok (.if_icmp .eq 16, 3) := by decide +kernel
theorem dX12_barriers_81 : decode cX12_barriers 81 = .ok (.iload 6, 2) := by decide +kernel
theorem dX12_barriers_83 : decode cX12_barriers 83 = .ok (.goto 5, 3) := by decide +kernel
theorem dX12_barriers_88 : decode cX12_barriers 88 = .ok (.istore 4, 2) := by decide +kernel
theorem dX12_barriers_9 : decode cX12_barriers 9 = .ok (.bipush (-2), 2) := by decide +kernel
theorem dX12_barriers_90 : decode cX12_barriers 90 = .ok (.iload 5, 2) := by decide +kernel
theorem dX12_barriers_92 : decode cX12_barriers 92 = .ok (.iload 6, 2) := by decide +kernel
theorem dX12_barriers_94 : decode cX12_barriers 94 = .ok (.iand, 1) := by decide +kernel
theorem dX12_barriers_95 : decode cX12_barriers 95 = .ok (.istore 5, 2) := by decide +kernel
theorem dX12_barriers_97 : decode cX12_barriers 97 = .ok (.iinc 6 1, 3) := by decide +kernel
set_option maxRecDepth 20000 in
theorem ggX12_isCritical_X12_bits : GoodIn wsX12_isCritical wsX12_bits := goodIn_r _ [6] rfl (by decide +kernel)
set_option maxRecDepth 20000 in
theorem gX12_isCritical_X12_bits : GoodIn wsX12_isCritical (va_wsS RX12 85 yX12_bits wsX12_bits) := goodIn_app (goodIn_of _ (by decide +kernel)) ggX12_isCritical_X12_bits
theorem dX12_isCritical_0 : decode cX12_isCritical 0 = .ok (.iload_n 1, 1) := by decide +kernel
theorem dX12_isCritical_1 : decode cX12_isCritical 1 = .ok (.invokestatic 85, 3) := by decide +kernel
theorem dX12_isCritical_14 : decode cX12_isCritical 14 = .ok (.iconst 0, 1) := by decide +kernel
theorem dX12_isCritical_15 : decode cX12_isCritical 15 = .ok (.istore_n 2, 1) := by decide +kernel
theorem dX12_isCritical_16 : decode cX12_isCritical 16 = .ok (.iconst 0, 1) := by decide +kernel
theorem dX12_isCritical_17 : decode cX12_isCritical 17 = .ok (.istore_n 3, 1) := by decide +kernel
theorem dX12_isCritical_18 : decode cX12_isCritical 18 = .ok (.iload_n 3, 1) := by decide +kernel
theorem dX12_isCritical_19 : decode cX12_isCritical 19 = .ok (.aload_n 0, 1) := by decide +kernel
theorem dX12_isCritical_20 : decode cX12_isCritical 20 = .ok (.getfield 63, 3) := by decide +kernel
theorem dX12_isCritical_23 : decode cX12_isCritical 23 = .ok (.if_icmp .ge 50, 3) := by decide +kernel
theorem dX12_isCritical_4 : decode cX12_isCritical 4 = .ok (.iconst 2, 1) := by decide +kernel
theorem dX12_isCritical_5 : decode cX12_isCritical 5 = .ok (.irem, 1) := by decide +kernel
theorem dX12_isCritical_6 : decode cX12_isCritical 6 = .ok (.iconst 1, 1) := by decide +kernel
theorem dX12_isCritical_7 : decode cX12_isCritical 7 = .ok (.if_icmp .ne 7, 3) := by decide +kernel
theorem dX12_isCritical_73 : decode cX12_isCritical 73 = .ok (.iload_n 2, 1) := by decide +kernel
theorem dX12_isCritical_74 : decode cX12_isCritical 74 = .ok (.ireturn, 1) := by decide +kernel
set_option maxRecDepth 20000 in
theorem ggX12_critical_X12_isCritical : GoodIn wsX12_critical wsX12_isCritical := goodIn_r _ [27, 10, 16, 28, 29, 4, 30, 21, 22, 23, 31, 32, 33, 34, 35, 36, 37, 38, 39, 40, 41, 42, 43, 44, 45, 46, 47, 48, 49, 50, 51, 52, 53, 54] rfl (by decide +kernel)
set_option maxRecDepth 20000 in
theorem gX12_critical_X12_isCritical : GoodIn wsX12_critical (wsV RX12 144 RX12 yX12_isCritical wsX12_isCritical) := goodIn_app (goodIn_of _ (by decide +kernel)) ggX12_critical_X12_isCritical
set_option maxRecDepth 20000 in
theorem ggX12_critical_X12_isSet : GoodIn wsX12_critical wsX12_isSet := goodIn_r _ [5, 6, 7, 8, 4, 9, 10, 31, 32, 33, 34, 35, 36, 37, 38, 39, 40, 41, 42, 43, 44, 45, 46, 47, 48, 49, 50, 51, 52, 53, 54] rfl (by decide +kernel)
set_option maxRecDepth 20000 in
theorem gX12_critical_X12_isSet : GoodIn wsX12_critical (wsV RX12 110 RX12 yX12_isSet wsX12_isSet) := goodIn_app (goodIn_of _ (by decide +kernel)) ggX12_critical_X12_isSet
set_option maxRecDepth 20000 in
theorem ggX12_critical_X12_reckons : GoodIn wsX12_critical wsX12_reckons := goodIn_r _ [14, 15, 16, 10, 17, 6, 7, 8, 4, 9, 18, 19, 20, 21, 22, 23, 31, 32, 33, 34, 35, 36, 37, 38, 39, 40, 41, 42, 43, 44, 45, 46, 47, 48, 49, 50, 51, 52, 53, 54] rfl (by decide +kernel)
set_option maxRecDepth 20000 in
theorem gX12_critical_X12_reckons : GoodIn wsX12_critical (wsV RX12 107 RX12 yX12_reckons wsX12_reckons) := goodIn_app (goodIn_of _ (by decide +kernel)) ggX12_critical_X12_reckons
theorem dX12_critical_0 : decode cX12_critical 0 = .ok (.aload_n 0, 1) := by decide +kernel
theorem dX12_critical_1 : decode cX12_critical 1 = .ok (.iload_n 1, 1) := by decide +kernel
theorem dX12_critical_10 : decode cX12_critical 10 = .ok (.ireturn, 1) := by decide +kernel
theorem dX12_critical_11 : decode cX12_critical 11 = .ok (.aload_n 0, 1) := by decide +kernel
theorem dX12_critical_12 : decode cX12_critical 12 = .ok (.invokevirtual 107, 3) := by decide +kernel
theorem dX12_critical_15 : decode cX12_critical 15 = .ok (.aload_n 0, 1) := by decide +kernel
theorem dX12_critical_16 : decode cX12_critical 16 = .ok (.iload_n 1, 1) := by decide +kernel
theorem dX12_critical_17 : decode cX12_critical 17 = .ok (.invokevirtual 144, 3) := by decide +kernel
theorem dX12_critical_2 : decode cX12_critical 2 = .ok (.invokevirtual 110, 3) := by decide +kernel
theorem dX12_critical_20 : decode cX12_critical 20 = .ok (.ifCond .eq 7, 3) := by decide +kernel
theorem dX12_critical_27 : decode cX12_critical 27 = .ok (.iconst 0, 1) := by decide +kernel
theorem dX12_critical_28 : decode cX12_critical 28 = .ok (.ireturn, 1) := by decide +kernel
theorem dX12_critical_5 : decode cX12_critical 5 = .ok (.ifCond .ne 6, 3) := by decide +kernel
theorem dX12_critical_8 : decode cX12_critical 8 = .ok (.bipush (-2), 2) := by decide +kernel
set_option maxRecDepth 20000 in
theorem ggX12_ear_X12_isCritical : GoodIn wsX12_ear wsX12_isCritical := goodIn_r _ [27, 10, 16, 28, 29, 4, 30, 21, 22, 23, 35, 36, 37, 38, 39, 40, 41, 42, 43, 44, 45, 46, 47, 48, 49, 50, 51, 52, 53, 54, 55, 56, 57, 58] rfl (by decide +kernel)
set_option maxRecDepth 20000 in
theorem gX12_ear_X12_isCritical : GoodIn wsX12_ear (wsV RX12 144 RX12 yX12_isCritical wsX12_isCritical) := goodIn_app (goodIn_of _ (by decide +kernel)) ggX12_ear_X12_isCritical
set_option maxRecDepth 20000 in
theorem ggX12_ear_X12_isSet : GoodIn wsX12_ear wsX12_isSet := goodIn_r _ [5, 6, 7, 8, 4, 9, 10, 35, 36, 37, 38, 39, 40, 41, 42, 43, 44, 45, 46, 47, 48, 49, 50, 51, 52, 53, 54, 55, 56, 57, 58] rfl (by decide +kernel)
set_option maxRecDepth 20000 in
theorem gX12_ear_X12_isSet : GoodIn wsX12_ear (wsV RX12 110 RX12 yX12_isSet wsX12_isSet) := goodIn_app (goodIn_of _ (by decide +kernel)) ggX12_ear_X12_isSet
set_option maxRecDepth 20000 in
theorem ggX12_ear_X12_reckons : GoodIn wsX12_ear wsX12_reckons := goodIn_r _ [14, 15, 16, 10, 17, 6, 7, 8, 4, 9, 18, 19, 20, 21, 22, 23, 35, 36, 37, 38, 39, 40, 41, 42, 43, 44, 45, 46, 47, 48, 49, 50, 51, 52, 53, 54, 55, 56, 57, 58] rfl (by decide +kernel)
set_option maxRecDepth 20000 in
theorem gX12_ear_X12_reckons : GoodIn wsX12_ear (wsV RX12 107 RX12 yX12_reckons wsX12_reckons) := goodIn_app (goodIn_of _ (by decide +kernel)) ggX12_ear_X12_reckons
theorem dX12_ear_0 : decode cX12_ear 0 = .ok (.aload_n 0, 1) := by decide +kernel
theorem dX12_ear_1 : decode cX12_ear 1 = .ok (.iload_n 1, 1) := by decide +kernel
theorem dX12_ear_11 : decode cX12_ear 11 = .ok (.aload_n 0, 1) := by decide +kernel
theorem dX12_ear_12 : decode cX12_ear 12 = .ok (.invokevirtual 107, 3) := by decide +kernel
theorem dX12_ear_15 : decode cX12_ear 15 = .ok (.aload_n 0, 1) := by decide +kernel
theorem dX12_ear_16 : decode cX12_ear 16 = .ok (.iload_n 1, 1) := by decide +kernel
theorem dX12_ear_17 : decode cX12_ear 17 = .ok (.invokevirtual 144, 3) := by decide +kernel
theorem dX12_ear_2 : decode cX12_ear 2 = .ok (.invokevirtual 110, 3) := by decide +kernel
theorem dX12_ear_20 : decode cX12_ear 20 = .ok (.ifCond .ne 6, 3) := by decide +kernel
theorem dX12_ear_23 : decode cX12_ear 23 = .ok (.bipush (-3), 2) := by decide +kernel
theorem dX12_ear_25 : decode cX12_ear 25 = .ok (.ireturn, 1) := by decide +kernel
theorem dX12_ear_5 : decode cX12_ear 5 = .ok (.ifCond .ne 6, 3) := by decide +kernel
theorem dX12_ear_8 : decode cX12_ear 8 = .ok (.bipush (-2), 2) := by decide +kernel
set_option maxRecDepth 20000 in
theorem ggX12_verdict_X12_areTwo : GoodIn wsX12_verdict wsX12_areTwo := goodIn_r _ [6, 7, 8, 9, 5, 10, 11, 12, 13, 14, 35, 36, 37, 38, 39, 40, 41, 42, 43, 44, 45, 46, 47, 48, 49, 50, 51, 52, 53, 54, 55, 56, 57, 58] rfl (by decide +kernel)
set_option maxRecDepth 20000 in
theorem gX12_verdict_X12_areTwo : GoodIn wsX12_verdict (wsV RX12 78 RX12 yX12_areTwo wsX12_areTwo) := goodIn_app (goodIn_of _ (by decide +kernel)) ggX12_verdict_X12_areTwo
theorem dX12_verdict_0 : decode cX12_verdict 0 = .ok (.aload_n 0, 1) := by decide +kernel
theorem dX12_verdict_1 : decode cX12_verdict 1 = .ok (.iload_n 1, 1) := by decide +kernel
theorem dX12_verdict_11 : decode cX12_verdict 11 = .ok (.ireturn, 1) := by decide +kernel
theorem dX12_verdict_2 : decode cX12_verdict 2 = .ok (.iload_n 2, 1) := by decide +kernel
theorem dX12_verdict_3 : decode cX12_verdict 3 = .ok (.invokevirtual 78, 3) := by decide +kernel
theorem dX12_verdict_6 : decode cX12_verdict 6 = .ok (.ifCond .ne 6, 3) := by decide +kernel
theorem dX12_verdict_9 : decode cX12_verdict 9 = .ok (.bipush (-2), 2) := by decide +kernel
set_option maxRecDepth 20000 in
theorem ggX12_twos_X12_reckons : GoodIn wsX12_twos wsX12_reckons := goodIn_r _ [8, 9, 3, 1, 2, 10, 11, 12, 7, 13, 14, 15, 16, 17, 18, 19, 24, 25, 26, 27, 28, 29, 30, 31, 32, 33, 34, 35, 36, 37, 38, 39, 40, 41, 42, 43, 44, 45, 46, 47] rfl (by decide +kernel)
set_option maxRecDepth 20000 in
theorem gX12_twos_X12_reckons : GoodIn wsX12_twos (wsV RX12 107 RX12 yX12_reckons wsX12_reckons) := goodIn_app (goodIn_of _ (by decide +kernel)) ggX12_twos_X12_reckons
theorem dX12_twos_0 : decode cX12_twos 0 = .ok (.aload_n 0, 1) := by decide +kernel
theorem dX12_twos_1 : decode cX12_twos 1 = .ok (.invokevirtual 107, 3) := by decide +kernel
theorem dX12_twos_10 : decode cX12_twos 10 = .ok (.iconst 0, 1) := by decide +kernel
theorem dX12_twos_11 : decode cX12_twos 11 = .ok (.istore 6, 2) := by decide +kernel
theorem dX12_twos_13 : decode cX12_twos 13 = .ok (.iload 6, 2) := by decide +kernel
theorem dX12_twos_145 : decode cX12_twos 145 = .ok (.iload_n 3, 1) := by decide +kernel
theorem dX12_twos_146 : decode cX12_twos 146 = .ok (.ifCond .ne 8, 3) := by decide +kernel
theorem dX12_twos_15 : decode cX12_twos 15 = .ok (.aload_n 0, 1) := by decide +kernel
theorem dX12_twos_154 : decode cX12_twos 154 = .ok (.iload 5, 2) := by decide +kernel
theorem dX12_twos_156 : decode cX12_twos 156 = .ok (.ireturn, 1) := by decide +kernel
theorem dX12_twos_16 : decode cX12_twos 16 = .ok (.getfield 63, 3) := by decide +kernel
theorem dX12_twos_19 : decode cX12_twos 19 = .ok (.if_icmp .ge 126, 3) := by decide +kernel
theorem dX12_twos_4 : decode cX12_twos 4 = .ok (.iconst (-1), 1) := by decide +kernel
theorem dX12_twos_5 : decode cX12_twos 5 = .ok (.istore 4, 2) := by decide +kernel
theorem dX12_twos_7 : decode cX12_twos 7 = .ok (.iconst 0, 1) := by decide +kernel
theorem dX12_twos_8 : decode cX12_twos 8 = .ok (.istore 5, 2) := by decide +kernel
set_option maxRecDepth 20000 in
theorem ggX12_verdicts_X12_in : GoodIn wsX12_verdicts wsX12_in := goodIn_r _ [4] rfl (by decide +kernel)
set_option maxRecDepth 20000 in
theorem gX12_verdicts_X12_in : GoodIn wsX12_verdicts (va_wsS RX12 66 yX12_in wsX12_in) := goodIn_app (goodIn_of _ (by decide +kernel)) ggX12_verdicts_X12_in
set_option maxRecDepth 20000 in
theorem ggX12_verdicts_X12_twos : GoodIn wsX12_verdicts wsX12_twos := goodIn_r _ [8, 9, 10, 11, 12, 13, 14, 3, 15, 16, 17, 18, 19, 20, 21, 22, 23, 24, 25, 26, 27, 28, 29, 30, 31, 32, 33, 34, 35, 36, 37, 38, 39, 40, 41, 42, 43, 44, 45, 46, 47, 48, 49, 50, 51, 52, 53, 54] rfl (by decide +kernel)
set_option maxRecDepth 20000 in
theorem gX12_verdicts_X12_twos : GoodIn wsX12_verdicts (wsV RX12 153 RX12 yX12_twos wsX12_twos) := goodIn_app (goodIn_of _ (by decide +kernel)) ggX12_verdicts_X12_twos
theorem dX12_verdicts_0 : decode cX12_verdicts 0 = .ok (.iload_n 1, 1) := by decide +kernel
theorem dX12_verdicts_1 : decode cX12_verdicts 1 = .ok (.iconst 0, 1) := by decide +kernel
theorem dX12_verdicts_10 : decode cX12_verdicts 10 = .ok (.iconst 1, 1) := by decide +kernel
theorem dX12_verdicts_11 : decode cX12_verdicts 11 = .ok (.iload_n 1, 1) := by decide +kernel
theorem dX12_verdicts_12 : decode cX12_verdicts 12 = .ok (.iconst 1, 1) := by decide +kernel
theorem dX12_verdicts_13 : decode cX12_verdicts 13 = .ok (.invokevirtual 153, 3) := by decide +kernel
theorem dX12_verdicts_16 : decode cX12_verdicts 16 = .ok (.goto 5, 3) := by decide +kernel
theorem dX12_verdicts_19 : decode cX12_verdicts 19 = .ok (.bipush (-2), 2) := by decide +kernel
theorem dX12_verdicts_2 : decode cX12_verdicts 2 = .ok (.iconst 2, 1) := by decide +kernel
theorem dX12_verdicts_21 : decode cX12_verdicts 21 = .ok (.ireturn, 1) := by decide +kernel
theorem dX12_verdicts_3 : decode cX12_verdicts 3 = .ok (.invokestatic 66, 3) := by decide +kernel
theorem dX12_verdicts_6 : decode cX12_verdicts 6 = .ok (.ifCond .eq 13, 3) := by decide +kernel
theorem dX12_verdicts_9 : decode cX12_verdicts 9 = .ok (.aload_n 0, 1) := by decide +kernel
set_option maxRecDepth 20000 in
theorem ggX12_without_X12_isPoint : GoodIn wsX12_without wsX12_isPoint := goodIn_r _ [7, 1, 8, 9, 6, 10, 27, 28, 29, 30, 31, 32, 33, 34, 35, 36, 37, 38, 39, 40, 41, 42, 43, 44, 45, 46, 47, 48, 49, 50] rfl (by decide +kernel)
set_option maxRecDepth 20000 in
theorem gX12_without_X12_isPoint : GoodIn wsX12_without (wsV RX12 74 RX12 yX12_isPoint wsX12_isPoint) := goodIn_app (goodIn_of _ (by decide +kernel)) ggX12_without_X12_isPoint
theorem dX12_without_0 : decode cX12_without 0 = .ok (.aload_n 0, 1) := by decide +kernel
theorem dX12_without_1 : decode cX12_without 1 = .ok (.iload_n 1, 1) := by decide +kernel
theorem dX12_without_10 : decode cX12_without 10 = .ok (.ireturn, 1) := by decide +kernel
theorem dX12_without_2 : decode cX12_without 2 = .ok (.invokevirtual 74, 3) := by decide +kernel
theorem dX12_without_5 : decode cX12_without 5 = .ok (.ifCond .ne 6, 3) := by decide +kernel
theorem dX12_without_8 : decode cX12_without 8 = .ok (.bipush (-2), 2) := by decide +kernel
theorem dX12_twos_149 : decode cX12_twos 149 = .ok (.iload 4, 2) := by decide +kernel
theorem dX12_twos_151 : decode cX12_twos 151 = .ok (.goto 5, 3) := by decide +kernel
set_option maxRecDepth 20000 in
theorem ggX12_mends_X12_in : GoodIn wsX12_mends wsX12_in := goodIn_r _ [4] rfl (by decide +kernel)
set_option maxRecDepth 20000 in
theorem gX12_mends_X12_in : GoodIn wsX12_mends (va_wsS RX12 66 yX12_in wsX12_in) := goodIn_app (goodIn_of _ (by decide +kernel)) ggX12_mends_X12_in
set_option maxRecDepth 20000 in
theorem ggX12_mends_X12_twos : GoodIn wsX12_mends wsX12_twos := goodIn_r _ [8, 9, 10, 11, 12, 13, 14, 3, 15, 16, 17, 18, 19, 20, 21, 22, 23, 24, 25, 26, 27, 28, 29, 30, 31, 32, 33, 34, 35, 36, 37, 38, 39, 40, 41, 42, 43, 44, 45, 46, 47, 48, 49, 50, 51, 52, 53, 54] rfl (by decide +kernel)
set_option maxRecDepth 20000 in
theorem gX12_mends_X12_twos : GoodIn wsX12_mends (wsV RX12 153 RX12 yX12_twos wsX12_twos) := goodIn_app (goodIn_of _ (by decide +kernel)) ggX12_mends_X12_twos
theorem dX12_mends_0 : decode cX12_mends 0 = .ok (.iload_n 1, 1) := by decide +kernel
theorem dX12_mends_1 : decode cX12_mends 1 = .ok (.iconst 0, 1) := by decide +kernel
theorem dX12_mends_10 : decode cX12_mends 10 = .ok (.iconst 0, 1) := by decide +kernel
theorem dX12_mends_11 : decode cX12_mends 11 = .ok (.iconst 0, 1) := by decide +kernel
theorem dX12_mends_12 : decode cX12_mends 12 = .ok (.iload_n 1, 1) := by decide +kernel
theorem dX12_mends_13 : decode cX12_mends 13 = .ok (.invokevirtual 153, 3) := by decide +kernel
theorem dX12_mends_16 : decode cX12_mends 16 = .ok (.goto 5, 3) := by decide +kernel
theorem dX12_mends_19 : decode cX12_mends 19 = .ok (.bipush (-2), 2) := by decide +kernel
theorem dX12_mends_2 : decode cX12_mends 2 = .ok (.iconst 1, 1) := by decide +kernel
theorem dX12_mends_21 : decode cX12_mends 21 = .ok (.ireturn, 1) := by decide +kernel
theorem dX12_mends_3 : decode cX12_mends 3 = .ok (.invokestatic 66, 3) := by decide +kernel
theorem dX12_mends_6 : decode cX12_mends 6 = .ok (.ifCond .eq 13, 3) := by decide +kernel
theorem dX12_mends_9 : decode cX12_mends 9 = .ok (.aload_n 0, 1) := by decide +kernel
set_option maxRecDepth 20000 in
theorem ggX12_breaks_X12_in : GoodIn wsX12_breaks wsX12_in := goodIn_r _ [4] rfl (by decide +kernel)
set_option maxRecDepth 20000 in
theorem gX12_breaks_X12_in : GoodIn wsX12_breaks (va_wsS RX12 66 yX12_in wsX12_in) := goodIn_app (goodIn_of _ (by decide +kernel)) ggX12_breaks_X12_in
set_option maxRecDepth 20000 in
theorem ggX12_breaks_X12_twos : GoodIn wsX12_breaks wsX12_twos := goodIn_r _ [8, 9, 10, 11, 12, 13, 14, 3, 15, 16, 17, 18, 19, 20, 21, 22, 23, 24, 25, 26, 27, 28, 29, 30, 31, 32, 33, 34, 35, 36, 37, 38, 39, 40, 41, 42, 43, 44, 45, 46, 47, 48, 49, 50, 51, 52, 53, 54] rfl (by decide +kernel)
set_option maxRecDepth 20000 in
theorem gX12_breaks_X12_twos : GoodIn wsX12_breaks (wsV RX12 153 RX12 yX12_twos wsX12_twos) := goodIn_app (goodIn_of _ (by decide +kernel)) ggX12_breaks_X12_twos
theorem dX12_breaks_0 : decode cX12_breaks 0 = .ok (.iload_n 1, 1) := by decide +kernel
theorem dX12_breaks_1 : decode cX12_breaks 1 = .ok (.iconst 0, 1) := by decide +kernel
theorem dX12_breaks_10 : decode cX12_breaks 10 = .ok (.iconst 1, 1) := by decide +kernel
theorem dX12_breaks_11 : decode cX12_breaks 11 = .ok (.iconst 2, 1) := by decide +kernel
theorem dX12_breaks_12 : decode cX12_breaks 12 = .ok (.iload_n 1, 1) := by decide +kernel
theorem dX12_breaks_13 : decode cX12_breaks 13 = .ok (.invokevirtual 153, 3) := by decide +kernel
theorem dX12_breaks_16 : decode cX12_breaks 16 = .ok (.goto 5, 3) := by decide +kernel
theorem dX12_breaks_19 : decode cX12_breaks 19 = .ok (.bipush (-2), 2) := by decide +kernel
theorem dX12_breaks_2 : decode cX12_breaks 2 = .ok (.iconst 1, 1) := by decide +kernel
theorem dX12_breaks_21 : decode cX12_breaks 21 = .ok (.ireturn, 1) := by decide +kernel
theorem dX12_breaks_3 : decode cX12_breaks 3 = .ok (.invokestatic 66, 3) := by decide +kernel
theorem dX12_breaks_6 : decode cX12_breaks 6 = .ok (.ifCond .eq 13, 3) := by decide +kernel
theorem dX12_breaks_9 : decode cX12_breaks 9 = .ok (.aload_n 0, 1) := by decide +kernel
set_option maxRecDepth 20000 in
theorem ggX12_isSheet_X12_in : GoodIn wsX12_isSheet wsX12_in := goodIn_r _ [4] rfl (by decide +kernel)
set_option maxRecDepth 20000 in
theorem gX12_isSheet_X12_in : GoodIn wsX12_isSheet (va_wsS RX12 66 yX12_in wsX12_in) := goodIn_app (goodIn_of _ (by decide +kernel)) ggX12_isSheet_X12_in
theorem dX12_isSheet_0 : decode cX12_isSheet 0 = .ok (.iload_n 0, 1) := by decide +kernel
theorem dX12_isSheet_1 : decode cX12_isSheet 1 = .ok (.iconst 0, 1) := by decide +kernel
theorem dX12_isSheet_2 : decode cX12_isSheet 2 = .ok (.iconst 3, 1) := by decide +kernel
theorem dX12_isSheet_3 : decode cX12_isSheet 3 = .ok (.invokestatic 66, 3) := by decide +kernel
theorem dX12_isSheet_6 : decode cX12_isSheet 6 = .ok (.ireturn, 1) := by decide +kernel
set_option maxRecDepth 20000 in
theorem ggX12_wrongPairing_X12_isSheet : GoodIn wsX12_wrongPairing wsX12_isSheet := goodIn_r _ [10, 11, 12, 9, 13] rfl (by decide +kernel)
set_option maxRecDepth 20000 in
theorem gX12_wrongPairing_X12_isSheet : GoodIn wsX12_wrongPairing (va_wsS RX12 157 yX12_isSheet wsX12_isSheet) := goodIn_app (goodIn_of _ (by decide +kernel)) ggX12_wrongPairing_X12_isSheet
theorem dX12_wrongPairing_0 : decode cX12_wrongPairing 0 = .ok (.iload_n 1, 1) := by decide +kernel
theorem dX12_wrongPairing_1 : decode cX12_wrongPairing 1 = .ok (.invokestatic 157, 3) := by decide +kernel
theorem dX12_wrongPairing_10 : decode cX12_wrongPairing 10 = .ok (.aload_n 0, 1) := by decide +kernel
theorem dX12_wrongPairing_11 : decode cX12_wrongPairing 11 = .ok (.getfield 38, 3) := by decide +kernel
theorem dX12_wrongPairing_14 : decode cX12_wrongPairing 14 = .ok (.iload_n 1, 1) := by decide +kernel
theorem dX12_wrongPairing_15 : decode cX12_wrongPairing 15 = .ok (.iaload, 1) := by decide +kernel
theorem dX12_wrongPairing_16 : decode cX12_wrongPairing 16 = .ok (.iconst (-1), 1) := by decide +kernel
theorem dX12_wrongPairing_17 : decode cX12_wrongPairing 17 = .ok (.if_icmp .ne 6, 3) := by decide +kernel
theorem dX12_wrongPairing_20 : decode cX12_wrongPairing 20 = .ok (.bipush (-11), 2) := by decide +kernel
theorem dX12_wrongPairing_22 : decode cX12_wrongPairing 22 = .ok (.ireturn, 1) := by decide +kernel
theorem dX12_wrongPairing_4 : decode cX12_wrongPairing 4 = .ok (.ifCond .ne 6, 3) := by decide +kernel
theorem dX12_wrongPairing_7 : decode cX12_wrongPairing 7 = .ok (.bipush (-2), 2) := by decide +kernel
theorem dX12_wrongPairing_9 : decode cX12_wrongPairing 9 = .ok (.ireturn, 1) := by decide +kernel
set_option maxRecDepth 20000 in
theorem ggX12_isTold_X12_wrongPairing : GoodIn wsX12_isTold wsX12_wrongPairing := goodIn_r _ [5, 6, 7, 8, 9, 10, 11, 12, 13, 4, 14, 15, 16, 17, 18, 19, 20, 21, 22, 23, 24, 25, 26, 27, 28, 29, 30, 31, 32, 33, 34, 35, 36, 37, 38, 39, 40, 41, 42, 43, 44, 45, 46, 47, 48] rfl (by decide +kernel)
set_option maxRecDepth 20000 in
theorem gX12_isTold_X12_wrongPairing : GoodIn wsX12_isTold (wsV RX12 160 RX12 yX12_wrongPairing wsX12_wrongPairing) := goodIn_app (goodIn_of _ (by decide +kernel)) ggX12_isTold_X12_wrongPairing
theorem dX12_isTold_0 : decode cX12_isTold 0 = .ok (.aload_n 0, 1) := by decide +kernel
theorem dX12_isTold_1 : decode cX12_isTold 1 = .ok (.iload_n 1, 1) := by decide +kernel
theorem dX12_isTold_14 : decode cX12_isTold 14 = .ok (.iload_n 2, 1) := by decide +kernel
theorem dX12_isTold_15 : decode cX12_isTold 15 = .ok (.bipush (-3), 2) := by decide +kernel
theorem dX12_isTold_17 : decode cX12_isTold 17 = .ok (.if_icmp .ne 7, 3) := by decide +kernel
theorem dX12_isTold_2 : decode cX12_isTold 2 = .ok (.invokevirtual 160, 3) := by decide +kernel
theorem dX12_isTold_24 : decode cX12_isTold 24 = .ok (.iload_n 2, 1) := by decide +kernel
theorem dX12_isTold_25 : decode cX12_isTold 25 = .ok (.ireturn, 1) := by decide +kernel
theorem dX12_isTold_5 : decode cX12_isTold 5 = .ok (.istore_n 2, 1) := by decide +kernel
theorem dX12_isTold_6 : decode cX12_isTold 6 = .ok (.iload_n 2, 1) := by decide +kernel
theorem dX12_isTold_7 : decode cX12_isTold 7 = .ok (.ifCond .ne 7, 3) := by decide +kernel
set_option maxRecDepth 20000 in
theorem ggX12_misses_X12_wrongPairing : GoodIn wsX12_misses wsX12_wrongPairing := goodIn_r _ [7, 8, 9, 1, 10, 11, 2, 12, 13, 6, 14, 15, 16, 17, 18, 19, 20, 21, 22, 23, 24, 25, 26, 27, 28, 29, 30, 31, 32, 33, 34, 35, 36, 37, 38, 39, 40, 41, 42, 43, 44, 45, 46, 47, 48] rfl (by decide +kernel)
set_option maxRecDepth 20000 in
theorem gX12_misses_X12_wrongPairing : GoodIn wsX12_misses (wsV RX12 160 RX12 yX12_wrongPairing wsX12_wrongPairing) := goodIn_app (goodIn_of _ (by decide +kernel)) ggX12_misses_X12_wrongPairing
theorem dX12_misses_0 : decode cX12_misses 0 = .ok (.aload_n 0, 1) := by decide +kernel
theorem dX12_misses_1 : decode cX12_misses 1 = .ok (.iload_n 1, 1) := by decide +kernel
theorem dX12_misses_10 : decode cX12_misses 10 = .ok (.iload_n 2, 1) := by decide +kernel
theorem dX12_misses_11 : decode cX12_misses 11 = .ok (.ireturn, 1) := by decide +kernel
theorem dX12_misses_2 : decode cX12_misses 2 = .ok (.invokevirtual 160, 3) := by decide +kernel
theorem dX12_misses_5 : decode cX12_misses 5 = .ok (.istore_n 2, 1) := by decide +kernel
theorem dX12_misses_6 : decode cX12_misses 6 = .ok (.iload_n 2, 1) := by decide +kernel
theorem dX12_misses_7 : decode cX12_misses 7 = .ok (.ifCond .eq 5, 3) := by decide +kernel
set_option maxRecDepth 20000 in
theorem ggX12_way_X12_wrongPairing : GoodIn wsX12_way wsX12_wrongPairing := goodIn_r _ [6, 7, 8, 9, 10, 11, 12, 13, 14, 5, 15, 16, 17, 18, 19, 20, 21, 22, 23, 24, 25, 34, 35, 36, 37, 38, 39, 40, 41, 42, 43, 44, 45, 46, 47, 48, 49, 50, 51, 52, 53, 54, 55, 56, 57] rfl (by decide +kernel)
set_option maxRecDepth 20000 in
theorem gX12_way_X12_wrongPairing : GoodIn wsX12_way (wsV RX12 160 RX12 yX12_wrongPairing wsX12_wrongPairing) := goodIn_app (goodIn_of _ (by decide +kernel)) ggX12_way_X12_wrongPairing
theorem dX12_way_0 : decode cX12_way 0 = .ok (.aload_n 0, 1) := by decide +kernel
theorem dX12_way_1 : decode cX12_way 1 = .ok (.iload_n 1, 1) := by decide +kernel
theorem dX12_way_10 : decode cX12_way 10 = .ok (.iload_n 3, 1) := by decide +kernel
theorem dX12_way_11 : decode cX12_way 11 = .ok (.ireturn, 1) := by decide +kernel
theorem dX12_way_2 : decode cX12_way 2 = .ok (.invokevirtual 160, 3) := by decide +kernel
theorem dX12_way_5 : decode cX12_way 5 = .ok (.istore_n 3, 1) := by decide +kernel
theorem dX12_way_6 : decode cX12_way 6 = .ok (.iload_n 3, 1) := by decide +kernel
theorem dX12_way_7 : decode cX12_way 7 = .ok (.ifCond .eq 5, 3) := by decide +kernel
set_option maxRecDepth 20000 in
theorem ggX12_grow_X12_wrongPairing : GoodIn wsX12_grow wsX12_wrongPairing := goodIn_r _ [8, 9, 10, 3, 1, 11, 12, 13, 14, 7, 15, 16, 17, 18, 19, 20, 21, 22, 23, 24, 25, 34, 35, 36, 37, 38, 39, 40, 41, 42, 43, 44, 45, 46, 47, 48, 49, 50, 51, 52, 53, 54, 55, 56, 57] rfl (by decide +kernel)
set_option maxRecDepth 20000 in
theorem gX12_grow_X12_wrongPairing : GoodIn wsX12_grow (wsV RX12 160 RX12 yX12_wrongPairing wsX12_wrongPairing) := goodIn_app (goodIn_of _ (by decide +kernel)) ggX12_grow_X12_wrongPairing
theorem dX12_grow_0 : decode cX12_grow 0 = .ok (.aload_n 0, 1) := by decide +kernel
theorem dX12_grow_1 : decode cX12_grow 1 = .ok (.iload_n 1, 1) := by decide +kernel
theorem dX12_grow_10 : decode cX12_grow 10 = .ok (.iload_n 2, 1) := by decide +kernel
theorem dX12_grow_11 : decode cX12_grow 11 = .ok (.ireturn, 1) := by decide +kernel
theorem dX12_grow_2 : decode cX12_grow 2 = .ok (.invokevirtual 160, 3) := by decide +kernel
theorem dX12_grow_5 : decode cX12_grow 5 = .ok (.istore_n 2, 1) := by decide +kernel
theorem dX12_grow_6 : decode cX12_grow 6 = .ok (.iload_n 2, 1) := by decide +kernel
theorem dX12_grow_7 : decode cX12_grow 7 = .ok (.ifCond .eq 5, 3) := by decide +kernel
set_option maxRecDepth 20000 in
theorem ggX12_chains_X12_in : GoodIn wsX12_chains wsX12_in := goodIn_r _ [11] rfl (by decide +kernel)
set_option maxRecDepth 20000 in
theorem gX12_chains_X12_in : GoodIn wsX12_chains (va_wsS RX12 66 yX12_in wsX12_in) := goodIn_app (goodIn_of _ (by decide +kernel)) ggX12_chains_X12_in
set_option maxRecDepth 20000 in
theorem ggX12_chains_X12_isSheet : GoodIn wsX12_chains wsX12_isSheet := goodIn_r _ [8, 9, 10, 7, 11] rfl (by decide +kernel)
set_option maxRecDepth 20000 in
theorem gX12_chains_X12_isSheet : GoodIn wsX12_chains (va_wsS RX12 157 yX12_isSheet wsX12_isSheet) := goodIn_app (goodIn_of _ (by decide +kernel)) ggX12_chains_X12_isSheet
theorem dX12_chains_0 : decode cX12_chains 0 = .ok (.iload_n 1, 1) := by decide +kernel
theorem dX12_chains_1 : decode cX12_chains 1 = .ok (.invokestatic 157, 3) := by decide +kernel
theorem dX12_chains_11 : decode cX12_chains 11 = .ok (.ifCond .eq 12, 3) := by decide +kernel
theorem dX12_chains_14 : decode cX12_chains 14 = .ok (.iload_n 3, 1) := by decide +kernel
theorem dX12_chains_15 : decode cX12_chains 15 = .ok (.iconst 0, 1) := by decide +kernel
theorem dX12_chains_16 : decode cX12_chains 16 = .ok (.iconst 2, 1) := by decide +kernel
theorem dX12_chains_17 : decode cX12_chains 17 = .ok (.invokestatic 66, 3) := by decide +kernel
theorem dX12_chains_20 : decode cX12_chains 20 = .ok (.ifCond .ne 6, 3) := by decide +kernel
theorem dX12_chains_23 : decode cX12_chains 23 = .ok (.bipush (-2), 2) := by decide +kernel
theorem dX12_chains_25 : decode cX12_chains 25 = .ok (.ireturn, 1) := by decide +kernel
theorem dX12_chains_26 : decode cX12_chains 26 = .ok (.aload_n 0, 1) := by decide +kernel
theorem dX12_chains_27 : decode cX12_chains 27 = .ok (.getfield 38, 3) := by decide +kernel
theorem dX12_chains_30 : decode cX12_chains 30 = .ok (.iload_n 1, 1) := by decide +kernel
theorem dX12_chains_31 : decode cX12_chains 31 = .ok (.iaload, 1) := by decide +kernel
theorem dX12_chains_32 : decode cX12_chains 32 = .ok (.iconst (-1), 1) := by decide +kernel
theorem dX12_chains_33 : decode cX12_chains 33 = .ok (.if_icmp .eq 13, 3) := by decide +kernel
theorem dX12_chains_4 : decode cX12_chains 4 = .ok (.ifCond .eq 19, 3) := by decide +kernel
theorem dX12_chains_46 : decode cX12_chains 46 = .ok (.bipush (-11), 2) := by decide +kernel
theorem dX12_chains_48 : decode cX12_chains 48 = .ok (.ireturn, 1) := by decide +kernel
theorem dX12_chains_7 : decode cX12_chains 7 = .ok (.iload_n 2, 1) := by decide +kernel
theorem dX12_chains_8 : decode cX12_chains 8 = .ok (.invokestatic 157, 3) := by decide +kernel
set_option maxRecDepth 20000 in
theorem ggX12_laysMates_X12_all : GoodIn wsX12_laysMates wsX12_all := goodIn_r _ [14, 9, 25, 26, 27, 28, 29, 30, 31, 32, 33, 34, 35, 36, 37, 38, 39, 40, 41, 42, 43, 44, 45, 46, 47, 48] rfl (by decide +kernel)
set_option maxRecDepth 20000 in
theorem gX12_laysMates_X12_all : GoodIn wsX12_laysMates (wsV RX12 70 RX12 yX12_all wsX12_all) := goodIn_app (goodIn_of _ (by decide +kernel)) ggX12_laysMates_X12_all
set_option maxRecDepth 20000 in
theorem ggX12_laysMates_X12_reckons : GoodIn wsX12_laysMates wsX12_reckons := goodIn_r _ [6, 7, 8, 9, 10, 11, 12, 13, 5, 14, 15, 16, 17, 18, 19, 20, 25, 26, 27, 28, 29, 30, 31, 32, 33, 34, 35, 36, 37, 38, 39, 40, 41, 42, 43, 44, 45, 46, 47, 48] rfl (by decide +kernel)
set_option maxRecDepth 20000 in
theorem gX12_laysMates_X12_reckons : GoodIn wsX12_laysMates (wsV RX12 107 RX12 yX12_reckons wsX12_reckons) := goodIn_app (goodIn_of _ (by decide +kernel)) ggX12_laysMates_X12_reckons
theorem dX12_laysMates_0 : decode cX12_laysMates 0 = .ok (.aload_n 0, 1) := by decide +kernel
theorem dX12_laysMates_1 : decode cX12_laysMates 1 = .ok (.invokevirtual 107, 3) := by decide +kernel
theorem dX12_laysMates_10 : decode cX12_laysMates 10 = .ok (.ifCond .eq 53, 3) := by decide +kernel
theorem dX12_laysMates_4 : decode cX12_laysMates 4 = .ok (.aload_n 0, 1) := by decide +kernel
theorem dX12_laysMates_5 : decode cX12_laysMates 5 = .ok (.invokevirtual 70, 3) := by decide +kernel
theorem dX12_laysMates_63 : decode cX12_laysMates 63 = .ok (.return_, 1) := by decide +kernel
theorem dX12_laysMates_8 : decode cX12_laysMates 8 = .ok (.istore_n 1, 1) := by decide +kernel
theorem dX12_laysMates_9 : decode cX12_laysMates 9 = .ok (.iload_n 1, 1) := by decide +kernel
set_option maxRecDepth 20000 in
theorem ggX12_paint_X12_in : GoodIn wsX12_paint wsX12_in := goodIn_r _ [12] rfl (by decide +kernel)
set_option maxRecDepth 20000 in
theorem gX12_paint_X12_in : GoodIn wsX12_paint (va_wsS RX12 66 yX12_in wsX12_in) := goodIn_app (goodIn_of _ (by decide +kernel)) ggX12_paint_X12_in
set_option maxRecDepth 20000 in
theorem ggX12_paint_X12_isSheet : GoodIn wsX12_paint wsX12_isSheet := goodIn_r _ [9, 10, 11, 8, 12] rfl (by decide +kernel)
set_option maxRecDepth 20000 in
theorem gX12_paint_X12_isSheet : GoodIn wsX12_paint (va_wsS RX12 157 yX12_isSheet wsX12_isSheet) := goodIn_app (goodIn_of _ (by decide +kernel)) ggX12_paint_X12_isSheet
set_option maxRecDepth 20000 in
theorem ggX12_paint_X12_laysMates : GoodIn wsX12_paint wsX12_laysMates := goodIn_r _ [16, 5, 17, 18, 19, 8, 20, 21, 22, 3, 23, 24, 25, 26, 27, 28, 29, 30, 31, 32, 33, 34, 35, 36, 37, 38, 39, 40, 41, 42, 43, 44, 45, 46, 47, 48, 49, 50, 51, 52, 53, 54, 55, 56, 57, 58, 59, 60, 61] rfl (by decide +kernel)
set_option maxRecDepth 20000 in
theorem gX12_paint_X12_laysMates : GoodIn wsX12_paint (wsV RX12 116 RX12 yX12_laysMates wsX12_laysMates) := goodIn_app (goodIn_of _ (by decide +kernel)) ggX12_paint_X12_laysMates
theorem dX12_paint_0 : decode cX12_paint 0 = .ok (.iload_n 1, 1) := by decide +kernel
theorem dX12_paint_1 : decode cX12_paint 1 = .ok (.invokestatic 157, 3) := by decide +kernel
theorem dX12_paint_10 : decode cX12_paint 10 = .ok (.invokestatic 66, 3) := by decide +kernel
theorem dX12_paint_13 : decode cX12_paint 13 = .ok (.ifCond .ne 6, 3) := by decide +kernel
theorem dX12_paint_16 : decode cX12_paint 16 = .ok (.bipush (-2), 2) := by decide +kernel
theorem dX12_paint_18 : decode cX12_paint 18 = .ok (.ireturn, 1) := by decide +kernel
theorem dX12_paint_19 : decode cX12_paint 19 = .ok (.aload_n 0, 1) := by decide +kernel
theorem dX12_paint_20 : decode cX12_paint 20 = .ok (.invokevirtual 116, 3) := by decide +kernel
theorem dX12_paint_23 : decode cX12_paint 23 = .ok (.aload_n 0, 1) := by decide +kernel
theorem dX12_paint_24 : decode cX12_paint 24 = .ok (.getfield 38, 3) := by decide +kernel
theorem dX12_paint_27 : decode cX12_paint 27 = .ok (.iload_n 1, 1) := by decide +kernel
theorem dX12_paint_28 : decode cX12_paint 28 = .ok (.iload_n 2, 1) := by decide +kernel
theorem dX12_paint_29 : decode cX12_paint 29 = .ok (.iastore, 1) := by decide +kernel
theorem dX12_paint_30 : decode cX12_paint 30 = .ok (.aload_n 0, 1) := by decide +kernel
theorem dX12_paint_31 : decode cX12_paint 31 = .ok (.getfield 41, 3) := by decide +kernel
theorem dX12_paint_34 : decode cX12_paint 34 = .ok (.iload_n 1, 1) := by decide +kernel
theorem dX12_paint_35 : decode cX12_paint 35 = .ok (.aload_n 0, 1) := by decide +kernel
theorem dX12_paint_36 : decode cX12_paint 36 = .ok (.getfield 63, 3) := by decide +kernel
theorem dX12_paint_39 : decode cX12_paint 39 = .ok (.iastore, 1) := by decide +kernel
theorem dX12_paint_4 : decode cX12_paint 4 = .ok (.ifCond .eq 12, 3) := by decide +kernel
theorem dX12_paint_40 : decode cX12_paint 40 = .ok (.iconst 0, 1) := by decide +kernel
theorem dX12_paint_41 : decode cX12_paint 41 = .ok (.istore_n 3, 1) := by decide +kernel
theorem dX12_paint_42 : decode cX12_paint 42 = .ok (.iload_n 3, 1) := by decide +kernel
theorem dX12_paint_43 : decode cX12_paint 43 = .ok (.bipush 40, 2) := by decide +kernel
theorem dX12_paint_45 : decode cX12_paint 45 = .ok (.if_icmp .ge 38, 3) := by decide +kernel
theorem dX12_paint_48 : decode cX12_paint 48 = .ok (.aload_n 0, 1) := by decide +kernel
theorem dX12_paint_49 : decode cX12_paint 49 = .ok (.getfield 44, 3) := by decide +kernel
theorem dX12_paint_52 : decode cX12_paint 52 = .ok (.bipush 40, 2) := by decide +kernel
theorem dX12_paint_54 : decode cX12_paint 54 = .ok (.iload_n 1, 1) := by decide +kernel
theorem dX12_paint_55 : decode cX12_paint 55 = .ok (.imul, 1) := by decide +kernel
theorem dX12_paint_56 : decode cX12_paint 56 = .ok (.iload_n 3, 1) := by decide +kernel
theorem dX12_paint_57 : decode cX12_paint 57 = .ok (.iadd, 1) := by decide +kernel
theorem dX12_paint_58 : decode cX12_paint 58 = .ok (.iload_n 3, 1) := by decide +kernel
theorem dX12_paint_59 : decode cX12_paint 59 = .ok (.aload_n 0, 1) := by decide +kernel
theorem dX12_paint_60 : decode cX12_paint 60 = .ok (.getfield 63, 3) := by decide +kernel
theorem dX12_paint_63 : decode cX12_paint 63 = .ok (.if_icmp .ge 12, 3) := by decide +kernel
theorem dX12_paint_7 : decode cX12_paint 7 = .ok (.iload_n 2, 1) := by decide +kernel
theorem dX12_paint_75 : decode cX12_paint 75 = .ok (.iconst 0, 1) := by decide +kernel
theorem dX12_paint_76 : decode cX12_paint 76 = .ok (.iastore, 1) := by decide +kernel
theorem dX12_paint_77 : decode cX12_paint 77 = .ok (.iinc 3 1, 3) := by decide +kernel
theorem dX12_paint_8 : decode cX12_paint 8 = .ok (.iconst 0, 1) := by decide +kernel
theorem dX12_paint_80 : decode cX12_paint 80 = .ok (.goto (-38), 3) := by decide +kernel
theorem dX12_paint_83 : decode cX12_paint 83 = .ok (.aload_n 0, 1) := by decide +kernel
theorem dX12_paint_84 : decode cX12_paint 84 = .ok (.getfield 63, 3) := by decide +kernel
theorem dX12_paint_87 : decode cX12_paint 87 = .ok (.ireturn, 1) := by decide +kernel
theorem dX12_paint_9 : decode cX12_paint 9 = .ok (.iconst 1, 1) := by decide +kernel
set_option maxRecDepth 20000 in
theorem ggX12_feed_X12_in : GoodIn wsX12_feed wsX12_in := goodIn_r _ [6] rfl (by decide +kernel)
set_option maxRecDepth 20000 in
theorem gX12_feed_X12_in : GoodIn wsX12_feed (va_wsS RX12 66 yX12_in wsX12_in) := goodIn_app (goodIn_of _ (by decide +kernel)) ggX12_feed_X12_in
theorem dX12_feed_0 : decode cX12_feed 0 = .ok (.iload_n 2, 1) := by decide +kernel
theorem dX12_feed_1 : decode cX12_feed 1 = .ok (.iconst 1, 1) := by decide +kernel
theorem dX12_feed_11 : decode cX12_feed 11 = .ok (.ireturn, 1) := by decide +kernel
theorem dX12_feed_12 : decode cX12_feed 12 = .ok (.aload_n 0, 1) := by decide +kernel
theorem dX12_feed_13 : decode cX12_feed 13 = .ok (.getfield 101, 3) := by decide +kernel
theorem dX12_feed_16 : decode cX12_feed 16 = .ok (.iload_n 2, 1) := by decide +kernel
theorem dX12_feed_17 : decode cX12_feed 17 = .ok (.iadd, 1) := by decide +kernel
theorem dX12_feed_18 : decode cX12_feed 18 = .ok (.bipush 120, 2) := by decide +kernel
theorem dX12_feed_2 : decode cX12_feed 2 = .ok (.iconst 4, 1) := by decide +kernel
theorem dX12_feed_20 : decode cX12_feed 20 = .ok (.if_icmp .le 6, 3) := by decide +kernel
theorem dX12_feed_26 : decode cX12_feed 26 = .ok (.iload_n 2, 1) := by decide +kernel
theorem dX12_feed_27 : decode cX12_feed 27 = .ok (.iconst 1, 1) := by decide +kernel
theorem dX12_feed_28 : decode cX12_feed 28 = .ok (.isub, 1) := by decide +kernel
theorem dX12_feed_29 : decode cX12_feed 29 = .ok (.istore_n 3, 1) := by decide +kernel
theorem dX12_feed_3 : decode cX12_feed 3 = .ok (.invokestatic 66, 3) := by decide +kernel
theorem dX12_feed_30 : decode cX12_feed 30 = .ok (.iload_n 3, 1) := by decide +kernel
theorem dX12_feed_31 : decode cX12_feed 31 = .ok (.ifCond .lt 38, 3) := by decide +kernel
theorem dX12_feed_34 : decode cX12_feed 34 = .ok (.aload_n 0, 1) := by decide +kernel
theorem dX12_feed_35 : decode cX12_feed 35 = .ok (.getfield 35, 3) := by decide +kernel
theorem dX12_feed_38 : decode cX12_feed 38 = .ok (.aload_n 0, 1) := by decide +kernel
theorem dX12_feed_39 : decode cX12_feed 39 = .ok (.getfield 101, 3) := by decide +kernel
theorem dX12_feed_42 : decode cX12_feed 42 = .ok (.iload_n 1, 1) := by decide +kernel
theorem dX12_feed_43 : decode cX12_feed 43 = .ok (.bipush 8, 2) := by decide +kernel
theorem dX12_feed_45 : decode cX12_feed 45 = .ok (.iload_n 3, 1) := by decide +kernel
theorem dX12_feed_46 : decode cX12_feed 46 = .ok (.imul, 1) := by decide +kernel
theorem dX12_feed_47 : decode cX12_feed 47 = .ok (.ishr, 1) := by decide +kernel
theorem dX12_feed_48 : decode cX12_feed 48 = .ok (.sipush 255, 3) := by decide +kernel
theorem dX12_feed_51 : decode cX12_feed 51 = .ok (.iand, 1) := by decide +kernel
theorem dX12_feed_52 : decode cX12_feed 52 = .ok (.iastore, 1) := by decide +kernel
theorem dX12_feed_53 : decode cX12_feed 53 = .ok (.aload_n 0, 1) := by decide +kernel
theorem dX12_feed_54 : decode cX12_feed 54 = .ok (.dup, 1) := by decide +kernel
theorem dX12_feed_55 : decode cX12_feed 55 = .ok (.getfield 101, 3) := by decide +kernel
theorem dX12_feed_58 : decode cX12_feed 58 = .ok (.iconst 1, 1) := by decide +kernel
theorem dX12_feed_59 : decode cX12_feed 59 = .ok (.iadd, 1) := by decide +kernel
theorem dX12_feed_6 : decode cX12_feed 6 = .ok (.ifCond .ne 6, 3) := by decide +kernel
theorem dX12_feed_60 : decode cX12_feed 60 = .ok (.putfield 101, 3) := by decide +kernel
theorem dX12_feed_63 : decode cX12_feed 63 = .ok (.iinc 3 (-1), 3) := by decide +kernel
theorem dX12_feed_66 : decode cX12_feed 66 = .ok (.goto (-36), 3) := by decide +kernel
theorem dX12_feed_69 : decode cX12_feed 69 = .ok (.aload_n 0, 1) := by decide +kernel
theorem dX12_feed_70 : decode cX12_feed 70 = .ok (.getfield 101, 3) := by decide +kernel
theorem dX12_feed_73 : decode cX12_feed 73 = .ok (.ireturn, 1) := by decide +kernel
theorem dX12_feed_9 : decode cX12_feed 9 = .ok (.bipush (-2), 2) := by decide +kernel
theorem dX12_wipe_0 : decode cX12_wipe 0 = .ok (.aload_n 0, 1) := by decide +kernel
theorem dX12_wipe_1 : decode cX12_wipe 1 = .ok (.getfield 101, 3) := by decide +kernel
theorem dX12_wipe_10 : decode cX12_wipe 10 = .ok (.iload_n 1, 1) := by decide +kernel
theorem dX12_wipe_11 : decode cX12_wipe 11 = .ok (.ireturn, 1) := by decide +kernel
theorem dX12_wipe_4 : decode cX12_wipe 4 = .ok (.istore_n 1, 1) := by decide +kernel
theorem dX12_wipe_5 : decode cX12_wipe 5 = .ok (.aload_n 0, 1) := by decide +kernel
theorem dX12_wipe_6 : decode cX12_wipe 6 = .ok (.iconst 0, 1) := by decide +kernel
theorem dX12_wipe_7 : decode cX12_wipe 7 = .ok (.putfield 101, 3) := by decide +kernel
theorem dX12_keeps_0 : decode cX12_keeps 0 = .ok (.iload_n 1, 1) := by decide +kernel
theorem dX12_keeps_1 : decode cX12_keeps 1 = .ok (.bipush 14, 2) := by decide +kernel
theorem dX12_keeps_10 : decode cX12_keeps 10 = .ok (.aload_n 0, 1) := by decide +kernel
theorem dX12_keeps_11 : decode cX12_keeps 11 = .ok (.getfield 63, 3) := by decide +kernel
theorem dX12_keeps_14 : decode cX12_keeps 14 = .ok (.iastore, 1) := by decide +kernel
theorem dX12_keeps_15 : decode cX12_keeps 15 = .ok (.aload_n 0, 1) := by decide +kernel
theorem dX12_keeps_16 : decode cX12_keeps 16 = .ok (.getfield 56, 3) := by decide +kernel
theorem dX12_keeps_19 : decode cX12_keeps 19 = .ok (.iload_n 2, 1) := by decide +kernel
theorem dX12_keeps_20 : decode cX12_keeps 20 = .ok (.iconst 1, 1) := by decide +kernel
theorem dX12_keeps_21 : decode cX12_keeps 21 = .ok (.iadd, 1) := by decide +kernel
theorem dX12_keeps_22 : decode cX12_keeps 22 = .ok (.aload_n 0, 1) := by decide +kernel
theorem dX12_keeps_23 : decode cX12_keeps 23 = .ok (.getfield 7, 3) := by decide +kernel
theorem dX12_keeps_26 : decode cX12_keeps 26 = .ok (.iastore, 1) := by decide +kernel
theorem dX12_keeps_27 : decode cX12_keeps 27 = .ok (.iconst 0, 1) := by decide +kernel
theorem dX12_keeps_28 : decode cX12_keeps 28 = .ok (.istore_n 3, 1) := by decide +kernel
theorem dX12_keeps_29 : decode cX12_keeps 29 = .ok (.iload_n 3, 1) := by decide +kernel
theorem dX12_keeps_3 : decode cX12_keeps 3 = .ok (.imul, 1) := by decide +kernel
theorem dX12_keeps_30 : decode cX12_keeps 30 = .ok (.bipush 12, 2) := by decide +kernel
theorem dX12_keeps_32 : decode cX12_keeps 32 = .ok (.if_icmp .ge 25, 3) := by decide +kernel
theorem dX12_keeps_35 : decode cX12_keeps 35 = .ok (.aload_n 0, 1) := by decide +kernel
theorem dX12_keeps_36 : decode cX12_keeps 36 = .ok (.getfield 56, 3) := by decide +kernel
theorem dX12_keeps_39 : decode cX12_keeps 39 = .ok (.iload_n 2, 1) := by decide +kernel
theorem dX12_keeps_4 : decode cX12_keeps 4 = .ok (.istore_n 2, 1) := by decide +kernel
theorem dX12_keeps_40 : decode cX12_keeps 40 = .ok (.iconst 2, 1) := by decide +kernel
theorem dX12_keeps_41 : decode cX12_keeps 41 = .ok (.iadd, 1) := by decide +kernel
theorem dX12_keeps_42 : decode cX12_keeps 42 = .ok (.iload_n 3, 1) := by decide +kernel
theorem dX12_keeps_43 : decode cX12_keeps 43 = .ok (.iadd, 1) := by decide +kernel
theorem dX12_keeps_44 : decode cX12_keeps 44 = .ok (.aload_n 0, 1) := by decide +kernel
theorem dX12_keeps_45 : decode cX12_keeps 45 = .ok (.getfield 13, 3) := by decide +kernel
theorem dX12_keeps_48 : decode cX12_keeps 48 = .ok (.iload_n 3, 1) := by decide +kernel
theorem dX12_keeps_49 : decode cX12_keeps 49 = .ok (.iaload, 1) := by decide +kernel
theorem dX12_keeps_5 : decode cX12_keeps 5 = .ok (.aload_n 0, 1) := by decide +kernel
theorem dX12_keeps_50 : decode cX12_keeps 50 = .ok (.iastore, 1) := by decide +kernel
theorem dX12_keeps_51 : decode cX12_keeps 51 = .ok (.iinc 3 1, 3) := by decide +kernel
theorem dX12_keeps_54 : decode cX12_keeps 54 = .ok (.goto (-25), 3) := by decide +kernel
theorem dX12_keeps_57 : decode cX12_keeps 57 = .ok (.return_, 1) := by decide +kernel
theorem dX12_keeps_6 : decode cX12_keeps 6 = .ok (.getfield 56, 3) := by decide +kernel
theorem dX12_keeps_9 : decode cX12_keeps 9 = .ok (.iload_n 2, 1) := by decide +kernel
theorem dX12_isAt_0 : decode cX12_isAt 0 = .ok (.aload_n 0, 1) := by decide +kernel
theorem dX12_isAt_1 : decode cX12_isAt 1 = .ok (.getfield 169, 3) := by decide +kernel
theorem dX12_isAt_32 : decode cX12_isAt 32 = .ok (.iconst 0, 1) := by decide +kernel
theorem dX12_isAt_33 : decode cX12_isAt 33 = .ok (.ireturn, 1) := by decide +kernel
theorem dX12_isAt_4 : decode cX12_isAt 4 = .ok (.aload_n 0, 1) := by decide +kernel
theorem dX12_isAt_5 : decode cX12_isAt 5 = .ok (.getfield 101, 3) := by decide +kernel
theorem dX12_isAt_8 : decode cX12_isAt 8 = .ok (.if_icmp .ge 24, 3) := by decide +kernel
set_option maxRecDepth 20000 in
theorem ggX12_goesOn_X12_isAt : GoodIn wsX12_goesOn wsX12_isAt := goodIn_r _ [11, 1, 4, 6, 12, 13, 10, 14, 15, 16, 17, 18, 19, 20, 21, 22, 23, 24, 25, 26, 27, 28, 29, 30, 31, 32, 33, 34, 35, 36, 37, 38] rfl (by decide +kernel)
set_option maxRecDepth 20000 in
theorem gX12_goesOn_X12_isAt : GoodIn wsX12_goesOn (wsV RX12 172 RX12 yX12_isAt wsX12_isAt) := goodIn_app (goodIn_of _ (by decide +kernel)) ggX12_goesOn_X12_isAt
theorem dX12_goesOn_0 : decode cX12_goesOn 0 = .ok (.aload_n 0, 1) := by decide +kernel
theorem dX12_goesOn_1 : decode cX12_goesOn 1 = .ok (.bipush 32, 2) := by decide +kernel
theorem dX12_goesOn_176 : decode cX12_goesOn 176 = .ok (.return_, 1) := by decide +kernel
theorem dX12_goesOn_24 : decode cX12_goesOn 24 = .ok (.aload_n 0, 1) := by decide +kernel
theorem dX12_goesOn_25 : decode cX12_goesOn 25 = .ok (.aload_n 0, 1) := by decide +kernel
theorem dX12_goesOn_26 : decode cX12_goesOn 26 = .ok (.getfield 169, 3) := by decide +kernel
theorem dX12_goesOn_29 : decode cX12_goesOn 29 = .ok (.putfield 175, 3) := by decide +kernel
theorem dX12_goesOn_3 : decode cX12_goesOn 3 = .ok (.bipush 32, 2) := by decide +kernel
theorem dX12_goesOn_32 : decode cX12_goesOn 32 = .ok (.aload_n 0, 1) := by decide +kernel
theorem dX12_goesOn_33 : decode cX12_goesOn 33 = .ok (.iconst 0, 1) := by decide +kernel
theorem dX12_goesOn_34 : decode cX12_goesOn 34 = .ok (.putfield 178, 3) := by decide +kernel
theorem dX12_goesOn_37 : decode cX12_goesOn 37 = .ok (.aload_n 0, 1) := by decide +kernel
theorem dX12_goesOn_38 : decode cX12_goesOn 38 = .ok (.getfield 169, 3) := by decide +kernel
theorem dX12_goesOn_41 : decode cX12_goesOn 41 = .ok (.aload_n 0, 1) := by decide +kernel
theorem dX12_goesOn_42 : decode cX12_goesOn 42 = .ok (.getfield 101, 3) := by decide +kernel
theorem dX12_goesOn_45 : decode cX12_goesOn 45 = .ok (.if_icmp .ne 11, 3) := by decide +kernel
theorem dX12_goesOn_48 : decode cX12_goesOn 48 = .ok (.aload_n 0, 1) := by decide +kernel
theorem dX12_goesOn_49 : decode cX12_goesOn 49 = .ok (.iconst 0, 1) := by decide +kernel
theorem dX12_goesOn_5 : decode cX12_goesOn 5 = .ok (.invokevirtual 172, 3) := by decide +kernel
theorem dX12_goesOn_50 : decode cX12_goesOn 50 = .ok (.putfield 181, 3) := by decide +kernel
theorem dX12_goesOn_53 : decode cX12_goesOn 53 = .ok (.goto 123, 3) := by decide +kernel
theorem dX12_goesOn_8 : decode cX12_goesOn 8 = .ok (.ifCond .eq 16, 3) := by decide +kernel
theorem dX12_pointRead_0 : decode cX12_pointRead 0 = .ok (.aload_n 0, 1) := by decide +kernel
theorem dX12_pointRead_1 : decode cX12_pointRead 1 = .ok (.getfield 181, 3) := by decide +kernel
theorem dX12_pointRead_30 : decode cX12_pointRead 30 = .ok (.iconst (-1), 1) := by decide +kernel
theorem dX12_pointRead_31 : decode cX12_pointRead 31 = .ok (.ireturn, 1) := by decide +kernel
theorem dX12_pointRead_4 : decode cX12_pointRead 4 = .ok (.iconst 1, 1) := by decide +kernel
theorem dX12_pointRead_5 : decode cX12_pointRead 5 = .ok (.if_icmp .ne 25, 3) := by decide +kernel
set_option maxRecDepth 20000 in
theorem ggX12_rowRead_X12_pointRead : GoodIn wsX12_rowRead wsX12_pointRead := goodIn_r _ [6, 1, 7, 8, 9, 10, 5, 11, 12, 13, 14, 15, 16, 17, 18, 19, 20, 21, 22, 23, 24, 25, 26, 27, 28, 29, 30, 41, 42, 43, 44, 45, 46, 47, 48, 49, 50, 51, 52, 53, 54, 55, 56, 57, 58, 59, 60, 61, 62, 63, 64] rfl (by decide +kernel)
set_option maxRecDepth 20000 in
theorem gX12_rowRead_X12_pointRead : GoodIn wsX12_rowRead (wsV RX12 190 RX12 yX12_pointRead wsX12_pointRead) := goodIn_app (goodIn_of _ (by decide +kernel)) ggX12_rowRead_X12_pointRead
theorem dX12_rowRead_0 : decode cX12_rowRead 0 = .ok (.aload_n 0, 1) := by decide +kernel
theorem dX12_rowRead_1 : decode cX12_rowRead 1 = .ok (.iconst 0, 1) := by decide +kernel
theorem dX12_rowRead_11 : decode cX12_rowRead 11 = .ok (.iconst 0, 1) := by decide +kernel
theorem dX12_rowRead_12 : decode cX12_rowRead 12 = .ok (.ireturn, 1) := by decide +kernel
theorem dX12_rowRead_2 : decode cX12_rowRead 2 = .ok (.invokevirtual 190, 3) := by decide +kernel
theorem dX12_rowRead_5 : decode cX12_rowRead 5 = .ok (.istore_n 1, 1) := by decide +kernel
theorem dX12_rowRead_6 : decode cX12_rowRead 6 = .ok (.iload_n 1, 1) := by decide +kernel
theorem dX12_rowRead_7 : decode cX12_rowRead 7 = .ok (.iconst (-1), 1) := by decide +kernel
theorem dX12_rowRead_8 : decode cX12_rowRead 8 = .ok (.if_icmp .ne 5, 3) := by decide +kernel
set_option maxRecDepth 20000 in
theorem ggX12_isText_X12_goesOn : GoodIn wsX12_isText wsX12_goesOn := goodIn_r _ [7, 1, 8, 9, 10, 2, 11, 12, 13, 14, 6, 15, 16, 17, 18, 52, 53, 54, 55, 56, 57, 58, 59, 60, 61, 62, 63, 64, 65, 66, 67, 68, 69, 70, 71, 72, 73, 74, 75] rfl (by decide +kernel)
set_option maxRecDepth 20000 in
theorem gX12_isText_X12_goesOn : GoodIn wsX12_isText (wsV RX12 187 RX12 yX12_goesOn wsX12_goesOn) := goodIn_app (goodIn_of _ (by decide +kernel)) ggX12_isText_X12_goesOn
set_option maxRecDepth 20000 in
theorem ggX12_isText_X12_rowRead : GoodIn wsX12_isText wsX12_rowRead := goodIn_r _ [51, 2, 27, 28, 29, 6, 30, 9, 31, 32, 33, 34, 23, 16, 17, 18, 35, 36, 37, 3, 4, 5, 7, 1, 8, 10, 11, 12, 13, 14, 15, 38, 39, 40, 41, 42, 43, 44, 45, 46, 47, 52, 53, 54, 55, 56, 57, 58, 59, 60, 61, 62, 63, 64, 65, 66, 67, 68, 69, 70, 71, 72, 73, 74, 75] rfl (by decide +kernel)
set_option maxRecDepth 20000 in
theorem gX12_isText_X12_rowRead : GoodIn wsX12_isText (wsV RX12 201 RX12 yX12_rowRead wsX12_rowRead) := goodIn_app (goodIn_of _ (by decide +kernel)) ggX12_isText_X12_rowRead
theorem dX12_isText_0 : decode cX12_isText 0 = .ok (.aload_n 0, 1) := by decide +kernel
theorem dX12_isText_1 : decode cX12_isText 1 = .ok (.iconst 0, 1) := by decide +kernel
theorem dX12_isText_10 : decode cX12_isText 10 = .ok (.getfield 181, 3) := by decide +kernel
theorem dX12_isText_13 : decode cX12_isText 13 = .ok (.bipush 40, 2) := by decide +kernel
theorem dX12_isText_15 : decode cX12_isText 15 = .ok (.if_icmp .ne 14, 3) := by decide +kernel
theorem dX12_isText_2 : decode cX12_isText 2 = .ok (.putfield 169, 3) := by decide +kernel
theorem dX12_isText_29 : decode cX12_isText 29 = .ok (.aload_n 0, 1) := by decide +kernel
theorem dX12_isText_30 : decode cX12_isText 30 = .ok (.getfield 181, 3) := by decide +kernel
theorem dX12_isText_33 : decode cX12_isText 33 = .ok (.bipush 91, 2) := by decide +kernel
theorem dX12_isText_35 : decode cX12_isText 35 = .ok (.if_icmp .ne 14, 3) := by decide +kernel
theorem dX12_isText_49 : decode cX12_isText 49 = .ok (.aload_n 0, 1) := by decide +kernel
theorem dX12_isText_5 : decode cX12_isText 5 = .ok (.aload_n 0, 1) := by decide +kernel
theorem dX12_isText_50 : decode cX12_isText 50 = .ok (.invokevirtual 201, 3) := by decide +kernel
theorem dX12_isText_53 : decode cX12_isText 53 = .ok (.ifCond .ne 5, 3) := by decide +kernel
theorem dX12_isText_56 : decode cX12_isText 56 = .ok (.iconst 0, 1) := by decide +kernel
theorem dX12_isText_57 : decode cX12_isText 57 = .ok (.ireturn, 1) := by decide +kernel
theorem dX12_isText_6 : decode cX12_isText 6 = .ok (.invokevirtual 187, 3) := by decide +kernel
theorem dX12_isText_9 : decode cX12_isText 9 = .ok (.aload_n 0, 1) := by decide +kernel
theorem dX12_putsBack_0 : decode cX12_putsBack 0 = .ok (.iload_n 1, 1) := by decide +kernel
theorem dX12_putsBack_1 : decode cX12_putsBack 1 = .ok (.bipush 14, 2) := by decide +kernel
theorem dX12_putsBack_10 : decode cX12_putsBack 10 = .ok (.iload_n 2, 1) := by decide +kernel
theorem dX12_putsBack_11 : decode cX12_putsBack 11 = .ok (.iaload, 1) := by decide +kernel
theorem dX12_putsBack_12 : decode cX12_putsBack 12 = .ok (.putfield 63, 3) := by decide +kernel
theorem dX12_putsBack_15 : decode cX12_putsBack 15 = .ok (.aload_n 0, 1) := by decide +kernel
theorem dX12_putsBack_16 : decode cX12_putsBack 16 = .ok (.aload_n 0, 1) := by decide +kernel
theorem dX12_putsBack_17 : decode cX12_putsBack 17 = .ok (.getfield 56, 3) := by decide +kernel
theorem dX12_putsBack_20 : decode cX12_putsBack 20 = .ok (.iload_n 2, 1) := by decide +kernel
theorem dX12_putsBack_21 : decode cX12_putsBack 21 = .ok (.iconst 1, 1) := by decide +kernel
theorem dX12_putsBack_22 : decode cX12_putsBack 22 = .ok (.iadd, 1) := by decide +kernel
theorem dX12_putsBack_23 : decode cX12_putsBack 23 = .ok (.iaload, 1) := by decide +kernel
theorem dX12_putsBack_24 : decode cX12_putsBack 24 = .ok (.putfield 7, 3) := by decide +kernel
theorem dX12_putsBack_27 : decode cX12_putsBack 27 = .ok (.iconst 0, 1) := by decide +kernel
theorem dX12_putsBack_28 : decode cX12_putsBack 28 = .ok (.istore_n 3, 1) := by decide +kernel
theorem dX12_putsBack_29 : decode cX12_putsBack 29 = .ok (.iload_n 3, 1) := by decide +kernel
theorem dX12_putsBack_3 : decode cX12_putsBack 3 = .ok (.imul, 1) := by decide +kernel
theorem dX12_putsBack_30 : decode cX12_putsBack 30 = .ok (.bipush 12, 2) := by decide +kernel
theorem dX12_putsBack_32 : decode cX12_putsBack 32 = .ok (.if_icmp .ge 25, 3) := by decide +kernel
theorem dX12_putsBack_35 : decode cX12_putsBack 35 = .ok (.aload_n 0, 1) := by decide +kernel
theorem dX12_putsBack_36 : decode cX12_putsBack 36 = .ok (.getfield 13, 3) := by decide +kernel
theorem dX12_putsBack_39 : decode cX12_putsBack 39 = .ok (.iload_n 3, 1) := by decide +kernel
theorem dX12_putsBack_4 : decode cX12_putsBack 4 = .ok (.istore_n 2, 1) := by decide +kernel
theorem dX12_putsBack_40 : decode cX12_putsBack 40 = .ok (.aload_n 0, 1) := by decide +kernel
theorem dX12_putsBack_41 : decode cX12_putsBack 41 = .ok (.getfield 56, 3) := by decide +kernel
theorem dX12_putsBack_44 : decode cX12_putsBack 44 = .ok (.iload_n 2, 1) := by decide +kernel
theorem dX12_putsBack_45 : decode cX12_putsBack 45 = .ok (.iconst 2, 1) := by decide +kernel
theorem dX12_putsBack_46 : decode cX12_putsBack 46 = .ok (.iadd, 1) := by decide +kernel
theorem dX12_putsBack_47 : decode cX12_putsBack 47 = .ok (.iload_n 3, 1) := by decide +kernel
theorem dX12_putsBack_48 : decode cX12_putsBack 48 = .ok (.iadd, 1) := by decide +kernel
theorem dX12_putsBack_49 : decode cX12_putsBack 49 = .ok (.iaload, 1) := by decide +kernel
theorem dX12_putsBack_5 : decode cX12_putsBack 5 = .ok (.aload_n 0, 1) := by decide +kernel
theorem dX12_putsBack_50 : decode cX12_putsBack 50 = .ok (.iastore, 1) := by decide +kernel
theorem dX12_putsBack_51 : decode cX12_putsBack 51 = .ok (.iinc 3 1, 3) := by decide +kernel
theorem dX12_putsBack_54 : decode cX12_putsBack 54 = .ok (.goto (-25), 3) := by decide +kernel
theorem dX12_putsBack_57 : decode cX12_putsBack 57 = .ok (.return_, 1) := by decide +kernel
theorem dX12_putsBack_6 : decode cX12_putsBack 6 = .ok (.aload_n 0, 1) := by decide +kernel
theorem dX12_putsBack_7 : decode cX12_putsBack 7 = .ok (.getfield 56, 3) := by decide +kernel
set_option maxRecDepth 20000 in
theorem ggX12_text_X12_isText : GoodIn wsX12_text wsX12_isText := goodIn_r _ [16, 17, 18, 19, 20, 21, 7, 22, 3, 23, 2, 24, 25, 26, 27, 28, 29, 30, 31, 32, 33, 34, 35, 10, 36, 37, 38, 39, 40, 41, 42, 43, 44, 45, 46, 47, 48, 49, 50, 51, 52, 53, 1, 12, 54, 55, 56, 57, 58, 59, 60, 61, 66, 67, 68, 69, 70, 71, 72, 73, 74, 75, 76, 77, 78, 79, 80, 81, 82, 83, 84, 85, 86, 87, 88, 89] rfl (by decide +kernel)
set_option maxRecDepth 20000 in
theorem gX12_text_X12_isText : GoodIn wsX12_text (wsV RX12 209 RX12 yX12_isText wsX12_isText) := goodIn_app (goodIn_of _ (by decide +kernel)) ggX12_text_X12_isText
set_option maxRecDepth 20000 in
theorem ggX12_text_X12_keeps : GoodIn wsX12_text wsX12_keeps := goodIn_r _ [8, 9, 10, 11, 12, 66, 67, 68, 69, 70, 71, 72, 73, 74, 75, 76, 77, 78, 79, 80, 81, 82, 83, 84, 85, 86, 87, 88, 89] rfl (by decide +kernel)
set_option maxRecDepth 20000 in
theorem gX12_text_X12_keeps : GoodIn wsX12_text (wsV RX12 205 RX12 yX12_keeps wsX12_keeps) := goodIn_app (goodIn_of _ (by decide +kernel)) ggX12_text_X12_keeps
set_option maxRecDepth 20000 in
theorem ggX12_text_X12_putsBack : GoodIn wsX12_text wsX12_putsBack := goodIn_r _ [65, 9, 10, 11, 12, 66, 67, 68, 69, 70, 71, 72, 73, 74, 75, 76, 77, 78, 79, 80, 81, 82, 83, 84, 85, 86, 87, 88, 89] rfl (by decide +kernel)
set_option maxRecDepth 20000 in
theorem gX12_text_X12_putsBack : GoodIn wsX12_text (wsV RX12 212 RX12 yX12_putsBack wsX12_putsBack) := goodIn_app (goodIn_of _ (by decide +kernel)) ggX12_text_X12_putsBack
theorem dX12_text_0 : decode cX12_text 0 = .ok (.aload_n 0, 1) := by decide +kernel
theorem dX12_text_1 : decode cX12_text 1 = .ok (.iconst 1, 1) := by decide +kernel
theorem dX12_text_10 : decode cX12_text 10 = .ok (.aload_n 0, 1) := by decide +kernel
theorem dX12_text_11 : decode cX12_text 11 = .ok (.invokevirtual 209, 3) := by decide +kernel
theorem dX12_text_14 : decode cX12_text 14 = .ok (.istore_n 1, 1) := by decide +kernel
theorem dX12_text_15 : decode cX12_text 15 = .ok (.aload_n 0, 1) := by decide +kernel
theorem dX12_text_16 : decode cX12_text 16 = .ok (.iconst 0, 1) := by decide +kernel
theorem dX12_text_17 : decode cX12_text 17 = .ok (.putfield 101, 3) := by decide +kernel
theorem dX12_text_2 : decode cX12_text 2 = .ok (.invokevirtual 205, 3) := by decide +kernel
theorem dX12_text_20 : decode cX12_text 20 = .ok (.iload_n 1, 1) := by decide +kernel
theorem dX12_text_21 : decode cX12_text 21 = .ok (.ifCond .eq 8, 3) := by decide +kernel
theorem dX12_text_29 : decode cX12_text 29 = .ok (.aload_n 0, 1) := by decide +kernel
theorem dX12_text_30 : decode cX12_text 30 = .ok (.iconst 1, 1) := by decide +kernel
theorem dX12_text_31 : decode cX12_text 31 = .ok (.invokevirtual 212, 3) := by decide +kernel
theorem dX12_text_34 : decode cX12_text 34 = .ok (.bipush (-100), 2) := by decide +kernel
theorem dX12_text_36 : decode cX12_text 36 = .ok (.aload_n 0, 1) := by decide +kernel
theorem dX12_text_37 : decode cX12_text 37 = .ok (.getfield 175, 3) := by decide +kernel
theorem dX12_text_40 : decode cX12_text 40 = .ok (.isub, 1) := by decide +kernel
theorem dX12_text_41 : decode cX12_text 41 = .ok (.ireturn, 1) := by decide +kernel
theorem dX12_text_5 : decode cX12_text 5 = .ok (.aload_n 0, 1) := by decide +kernel
theorem dX12_text_6 : decode cX12_text 6 = .ok (.iconst 0, 1) := by decide +kernel
theorem dX12_text_7 : decode cX12_text 7 = .ok (.putfield 184, 3) := by decide +kernel
theorem dX12_seed_0 : decode cX12_seed 0 = .ok (.aload_n 0, 1) := by decide +kernel
theorem dX12_seed_1 : decode cX12_seed 1 = .ok (.getfield 7, 3) := by decide +kernel
theorem dX12_seed_10 : decode cX12_seed 10 = .ok (.iload_n 2, 1) := by decide +kernel
theorem dX12_seed_11 : decode cX12_seed 11 = .ok (.ireturn, 1) := by decide +kernel
theorem dX12_seed_4 : decode cX12_seed 4 = .ok (.istore_n 2, 1) := by decide +kernel
theorem dX12_seed_5 : decode cX12_seed 5 = .ok (.aload_n 0, 1) := by decide +kernel
theorem dX12_seed_6 : decode cX12_seed 6 = .ok (.iload_n 1, 1) := by decide +kernel
theorem dX12_seed_7 : decode cX12_seed 7 = .ok (.putfield 7, 3) := by decide +kernel
set_option maxRecDepth 20000 in
theorem ggX12_isShelf_X12_in : GoodIn wsX12_isShelf wsX12_in := goodIn_r _ [4] rfl (by decide +kernel)
set_option maxRecDepth 20000 in
theorem gX12_isShelf_X12_in : GoodIn wsX12_isShelf (va_wsS RX12 66 yX12_in wsX12_in) := goodIn_app (goodIn_of _ (by decide +kernel)) ggX12_isShelf_X12_in
theorem dX12_isShelf_0 : decode cX12_isShelf 0 = .ok (.iload_n 0, 1) := by decide +kernel
theorem dX12_isShelf_1 : decode cX12_isShelf 1 = .ok (.iconst 0, 1) := by decide +kernel
theorem dX12_isShelf_2 : decode cX12_isShelf 2 = .ok (.iconst 3, 1) := by decide +kernel
theorem dX12_isShelf_3 : decode cX12_isShelf 3 = .ok (.invokestatic 66, 3) := by decide +kernel
theorem dX12_isShelf_6 : decode cX12_isShelf 6 = .ok (.ireturn, 1) := by decide +kernel
set_option maxRecDepth 20000 in
theorem ggX12_shelf_X12_in : GoodIn wsX12_shelf wsX12_in := goodIn_r _ [12] rfl (by decide +kernel)
set_option maxRecDepth 20000 in
theorem gX12_shelf_X12_in : GoodIn wsX12_shelf (va_wsS RX12 66 yX12_in wsX12_in) := goodIn_app (goodIn_of _ (by decide +kernel)) ggX12_shelf_X12_in
set_option maxRecDepth 20000 in
theorem ggX12_shelf_X12_isPoint : GoodIn wsX12_shelf wsX12_isPoint := goodIn_r _ [16, 17, 10, 11, 8, 12, 66, 67, 68, 69, 70, 71, 72, 73, 74, 75, 76, 77, 78, 79, 80, 81, 82, 83, 84, 85, 86, 87, 88, 89] rfl (by decide +kernel)
set_option maxRecDepth 20000 in
theorem gX12_shelf_X12_isPoint : GoodIn wsX12_shelf (wsV RX12 74 RX12 yX12_isPoint wsX12_isPoint) := goodIn_app (goodIn_of _ (by decide +kernel)) ggX12_shelf_X12_isPoint
set_option maxRecDepth 20000 in
theorem ggX12_shelf_X12_isSet : GoodIn wsX12_shelf wsX12_isSet := goodIn_r _ [21, 22, 23, 24, 8, 25, 17, 66, 67, 68, 69, 70, 71, 72, 73, 74, 75, 76, 77, 78, 79, 80, 81, 82, 83, 84, 85, 86, 87, 88, 89] rfl (by decide +kernel)
set_option maxRecDepth 20000 in
theorem gX12_shelf_X12_isSet : GoodIn wsX12_shelf (wsV RX12 110 RX12 yX12_isSet wsX12_isSet) := goodIn_app (goodIn_of _ (by decide +kernel)) ggX12_shelf_X12_isSet
set_option maxRecDepth 20000 in
theorem ggX12_shelf_X12_isSheet : GoodIn wsX12_shelf wsX12_isSheet := goodIn_r _ [28, 10, 11, 8, 12] rfl (by decide +kernel)
set_option maxRecDepth 20000 in
theorem gX12_shelf_X12_isSheet : GoodIn wsX12_shelf (va_wsS RX12 157 yX12_isSheet wsX12_isSheet) := goodIn_app (goodIn_of _ (by decide +kernel)) ggX12_shelf_X12_isSheet
set_option maxRecDepth 20000 in
theorem ggX12_shelf_X12_isShelf : GoodIn wsX12_shelf wsX12_isShelf := goodIn_r _ [9, 10, 11, 8, 12] rfl (by decide +kernel)
set_option maxRecDepth 20000 in
theorem gX12_shelf_X12_isShelf : GoodIn wsX12_shelf (va_wsS RX12 222 yX12_isShelf wsX12_isShelf) := goodIn_app (goodIn_of _ (by decide +kernel)) ggX12_shelf_X12_isShelf
set_option maxRecDepth 20000 in
theorem ggX12_shelf_X12_pieceAt : GoodIn wsX12_shelf wsX12_pieceAt := goodIn_r _ [32, 33, 34, 35, 8, 36, 37, 38, 39, 40, 41, 42, 17, 43, 22, 23, 24, 25, 44, 45, 46, 47, 48, 49, 50, 51, 52, 53, 54, 55, 56, 57, 58, 59, 60, 61, 66, 67, 68, 69, 70, 71, 72, 73, 74, 75, 76, 77, 78, 79, 80, 81, 82, 83, 84, 85, 86, 87, 88, 89] rfl (by decide +kernel)
set_option maxRecDepth 20000 in
theorem gX12_shelf_X12_pieceAt : GoodIn wsX12_shelf (wsV RX12 135 RX12 yX12_pieceAt wsX12_pieceAt) := goodIn_app (goodIn_of _ (by decide +kernel)) ggX12_shelf_X12_pieceAt
theorem dX12_shelf_0 : decode cX12_shelf 0 = .ok (.iload_n 1, 1) := by decide +kernel
theorem dX12_shelf_1 : decode cX12_shelf 1 = .ok (.invokestatic 222, 3) := by decide +kernel
theorem dX12_shelf_10 : decode cX12_shelf 10 = .ok (.invokestatic 66, 3) := by decide +kernel
theorem dX12_shelf_102 : decode cX12_shelf 102 = .ok (.bipush (-11), 2) := by decide +kernel
theorem dX12_shelf_104 : decode cX12_shelf 104 = .ok (.ireturn, 1) := by decide +kernel
theorem dX12_shelf_105 : decode cX12_shelf 105 = .ok (.iload_n 2, 1) := by decide +kernel
theorem dX12_shelf_106 : decode cX12_shelf 106 = .ok (.ifCond .ne 20, 3) := by decide +kernel
theorem dX12_shelf_126 : decode cX12_shelf 126 = .ok (.iload_n 2, 1) := by decide +kernel
theorem dX12_shelf_127 : decode cX12_shelf 127 = .ok (.iconst 1, 1) := by decide +kernel
theorem dX12_shelf_128 : decode cX12_shelf 128 = .ok (.if_icmp .ne 7, 3) := by decide +kernel
theorem dX12_shelf_13 : decode cX12_shelf 13 = .ok (.ifCond .eq 40, 3) := by decide +kernel
theorem dX12_shelf_135 : decode cX12_shelf 135 = .ok (.iload_n 2, 1) := by decide +kernel
theorem dX12_shelf_136 : decode cX12_shelf 136 = .ok (.iconst 2, 1) := by decide +kernel
theorem dX12_shelf_137 : decode cX12_shelf 137 = .ok (.if_icmp .ne 7, 3) := by decide +kernel
theorem dX12_shelf_144 : decode cX12_shelf 144 = .ok (.iload_n 2, 1) := by decide +kernel
theorem dX12_shelf_145 : decode cX12_shelf 145 = .ok (.iconst 3, 1) := by decide +kernel
theorem dX12_shelf_146 : decode cX12_shelf 146 = .ok (.if_icmp .ne 7, 3) := by decide +kernel
theorem dX12_shelf_149 : decode cX12_shelf 149 = .ok (.iconst 2, 1) := by decide +kernel
theorem dX12_shelf_150 : decode cX12_shelf 150 = .ok (.goto 14, 3) := by decide +kernel
theorem dX12_shelf_153 : decode cX12_shelf 153 = .ok (.iload_n 2, 1) := by decide +kernel
theorem dX12_shelf_154 : decode cX12_shelf 154 = .ok (.iconst 4, 1) := by decide +kernel
theorem dX12_shelf_155 : decode cX12_shelf 155 = .ok (.if_icmp .ne 8, 3) := by decide +kernel
theorem dX12_shelf_16 : decode cX12_shelf 16 = .ok (.iload_n 2, 1) := by decide +kernel
theorem dX12_shelf_163 : decode cX12_shelf 163 = .ok (.iconst (-1), 1) := by decide +kernel
theorem dX12_shelf_164 : decode cX12_shelf 164 = .ok (.istore 5, 2) := by decide +kernel
theorem dX12_shelf_166 : decode cX12_shelf 166 = .ok (.aload_n 0, 1) := by decide +kernel
theorem dX12_shelf_167 : decode cX12_shelf 167 = .ok (.getfield 47, 3) := by decide +kernel
theorem dX12_shelf_17 : decode cX12_shelf 17 = .ok (.ifCond .ne 11, 3) := by decide +kernel
theorem dX12_shelf_170 : decode cX12_shelf 170 = .ok (.iload_n 1, 1) := by decide +kernel
theorem dX12_shelf_171 : decode cX12_shelf 171 = .ok (.iload 5, 2) := by decide +kernel
theorem dX12_shelf_173 : decode cX12_shelf 173 = .ok (.iastore, 1) := by decide +kernel
theorem dX12_shelf_174 : decode cX12_shelf 174 = .ok (.aload_n 0, 1) := by decide +kernel
theorem dX12_shelf_175 : decode cX12_shelf 175 = .ok (.getfield 50, 3) := by decide +kernel
theorem dX12_shelf_178 : decode cX12_shelf 178 = .ok (.iload_n 1, 1) := by decide +kernel
theorem dX12_shelf_179 : decode cX12_shelf 179 = .ok (.iload_n 2, 1) := by decide +kernel
theorem dX12_shelf_180 : decode cX12_shelf 180 = .ok (.ifCond .ne 9, 3) := by decide +kernel
theorem dX12_shelf_189 : decode cX12_shelf 189 = .ok (.iload_n 2, 1) := by decide +kernel
theorem dX12_shelf_190 : decode cX12_shelf 190 = .ok (.iconst 3, 1) := by decide +kernel
theorem dX12_shelf_191 : decode cX12_shelf 191 = .ok (.if_icmp .ge 8, 3) := by decide +kernel
theorem dX12_shelf_199 : decode cX12_shelf 199 = .ok (.iload_n 2, 1) := by decide +kernel
theorem dX12_shelf_20 : decode cX12_shelf 20 = .ok (.aload_n 0, 1) := by decide +kernel
theorem dX12_shelf_200 : decode cX12_shelf 200 = .ok (.iconst 3, 1) := by decide +kernel
theorem dX12_shelf_201 : decode cX12_shelf 201 = .ok (.if_icmp .ne 7, 3) := by decide +kernel
theorem dX12_shelf_204 : decode cX12_shelf 204 = .ok (.iload_n 3, 1) := by decide +kernel
theorem dX12_shelf_205 : decode cX12_shelf 205 = .ok (.goto 18, 3) := by decide +kernel
theorem dX12_shelf_208 : decode cX12_shelf 208 = .ok (.iload_n 2, 1) := by decide +kernel
theorem dX12_shelf_209 : decode cX12_shelf 209 = .ok (.iconst 4, 1) := by decide +kernel
theorem dX12_shelf_21 : decode cX12_shelf 21 = .ok (.iload_n 3, 1) := by decide +kernel
theorem dX12_shelf_210 : decode cX12_shelf 210 = .ok (.if_icmp .ne 12, 3) := by decide +kernel
theorem dX12_shelf_22 : decode cX12_shelf 22 = .ok (.invokevirtual 74, 3) := by decide +kernel
theorem dX12_shelf_222 : decode cX12_shelf 222 = .ok (.iconst 0, 1) := by decide +kernel
theorem dX12_shelf_223 : decode cX12_shelf 223 = .ok (.iastore, 1) := by decide +kernel
theorem dX12_shelf_224 : decode cX12_shelf 224 = .ok (.aload_n 0, 1) := by decide +kernel
theorem dX12_shelf_225 : decode cX12_shelf 225 = .ok (.getfield 53, 3) := by decide +kernel
theorem dX12_shelf_228 : decode cX12_shelf 228 = .ok (.iload_n 1, 1) := by decide +kernel
theorem dX12_shelf_229 : decode cX12_shelf 229 = .ok (.iload_n 2, 1) := by decide +kernel
theorem dX12_shelf_230 : decode cX12_shelf 230 = .ok (.iconst 4, 1) := by decide +kernel
theorem dX12_shelf_231 : decode cX12_shelf 231 = .ok (.if_icmp .ne 12, 3) := by decide +kernel
theorem dX12_shelf_243 : decode cX12_shelf 243 = .ok (.iconst 0, 1) := by decide +kernel
theorem dX12_shelf_244 : decode cX12_shelf 244 = .ok (.iastore, 1) := by decide +kernel
theorem dX12_shelf_245 : decode cX12_shelf 245 = .ok (.iconst 1, 1) := by decide +kernel
theorem dX12_shelf_246 : decode cX12_shelf 246 = .ok (.ireturn, 1) := by decide +kernel
theorem dX12_shelf_25 : decode cX12_shelf 25 = .ok (.ifCond .eq 28, 3) := by decide +kernel
theorem dX12_shelf_28 : decode cX12_shelf 28 = .ok (.iload_n 2, 1) := by decide +kernel
theorem dX12_shelf_29 : decode cX12_shelf 29 = .ok (.iconst 3, 1) := by decide +kernel
theorem dX12_shelf_30 : decode cX12_shelf 30 = .ok (.if_icmp .ne 11, 3) := by decide +kernel
theorem dX12_shelf_33 : decode cX12_shelf 33 = .ok (.aload_n 0, 1) := by decide +kernel
theorem dX12_shelf_34 : decode cX12_shelf 34 = .ok (.iload_n 3, 1) := by decide +kernel
theorem dX12_shelf_35 : decode cX12_shelf 35 = .ok (.invokevirtual 110, 3) := by decide +kernel
theorem dX12_shelf_38 : decode cX12_shelf 38 = .ok (.ifCond .eq 15, 3) := by decide +kernel
theorem dX12_shelf_4 : decode cX12_shelf 4 = .ok (.ifCond .eq 49, 3) := by decide +kernel
theorem dX12_shelf_41 : decode cX12_shelf 41 = .ok (.iload_n 2, 1) := by decide +kernel
theorem dX12_shelf_42 : decode cX12_shelf 42 = .ok (.iconst 4, 1) := by decide +kernel
theorem dX12_shelf_43 : decode cX12_shelf 43 = .ok (.if_icmp .ne 13, 3) := by decide +kernel
theorem dX12_shelf_46 : decode cX12_shelf 46 = .ok (.iload_n 3, 1) := by decide +kernel
theorem dX12_shelf_47 : decode cX12_shelf 47 = .ok (.invokestatic 157, 3) := by decide +kernel
theorem dX12_shelf_50 : decode cX12_shelf 50 = .ok (.ifCond .ne 6, 3) := by decide +kernel
theorem dX12_shelf_53 : decode cX12_shelf 53 = .ok (.bipush (-2), 2) := by decide +kernel
theorem dX12_shelf_55 : decode cX12_shelf 55 = .ok (.ireturn, 1) := by decide +kernel
theorem dX12_shelf_56 : decode cX12_shelf 56 = .ok (.iload_n 2, 1) := by decide +kernel
theorem dX12_shelf_57 : decode cX12_shelf 57 = .ok (.iconst 1, 1) := by decide +kernel
theorem dX12_shelf_58 : decode cX12_shelf 58 = .ok (.iconst 2, 1) := by decide +kernel
theorem dX12_shelf_59 : decode cX12_shelf 59 = .ok (.invokestatic 66, 3) := by decide +kernel
theorem dX12_shelf_62 : decode cX12_shelf 62 = .ok (.ifCond .eq 14, 3) := by decide +kernel
theorem dX12_shelf_65 : decode cX12_shelf 65 = .ok (.aload_n 0, 1) := by decide +kernel
theorem dX12_shelf_66 : decode cX12_shelf 66 = .ok (.iload_n 2, 1) := by decide +kernel
theorem dX12_shelf_67 : decode cX12_shelf 67 = .ok (.iconst 1, 1) := by decide +kernel
theorem dX12_shelf_68 : decode cX12_shelf 68 = .ok (.isub, 1) := by decide +kernel
theorem dX12_shelf_69 : decode cX12_shelf 69 = .ok (.iload_n 3, 1) := by decide +kernel
theorem dX12_shelf_7 : decode cX12_shelf 7 = .ok (.iload_n 2, 1) := by decide +kernel
theorem dX12_shelf_70 : decode cX12_shelf 70 = .ok (.invokevirtual 135, 3) := by decide +kernel
theorem dX12_shelf_73 : decode cX12_shelf 73 = .ok (.goto 4, 3) := by decide +kernel
theorem dX12_shelf_76 : decode cX12_shelf 76 = .ok (.iconst 1, 1) := by decide +kernel
theorem dX12_shelf_77 : decode cX12_shelf 77 = .ok (.istore 4, 2) := by decide +kernel
theorem dX12_shelf_79 : decode cX12_shelf 79 = .ok (.iload 4, 2) := by decide +kernel
theorem dX12_shelf_8 : decode cX12_shelf 8 = .ok (.iconst 0, 1) := by decide +kernel
theorem dX12_shelf_81 : decode cX12_shelf 81 = .ok (.ifCond .ne 6, 3) := by decide +kernel
theorem dX12_shelf_84 : decode cX12_shelf 84 = .ok (.bipush (-2), 2) := by decide +kernel
theorem dX12_shelf_86 : decode cX12_shelf 86 = .ok (.ireturn, 1) := by decide +kernel
theorem dX12_shelf_87 : decode cX12_shelf 87 = .ok (.iload_n 2, 1) := by decide +kernel
theorem dX12_shelf_88 : decode cX12_shelf 88 = .ok (.iconst 4, 1) := by decide +kernel
theorem dX12_shelf_89 : decode cX12_shelf 89 = .ok (.if_icmp .ne 16, 3) := by decide +kernel
theorem dX12_shelf_9 : decode cX12_shelf 9 = .ok (.iconst 5, 1) := by decide +kernel
theorem dX12_shelf_92 : decode cX12_shelf 92 = .ok (.aload_n 0, 1) := by decide +kernel
theorem dX12_shelf_93 : decode cX12_shelf 93 = .ok (.getfield 38, 3) := by decide +kernel
theorem dX12_shelf_96 : decode cX12_shelf 96 = .ok (.iload_n 3, 1) := by decide +kernel
theorem dX12_shelf_97 : decode cX12_shelf 97 = .ok (.iaload, 1) := by decide +kernel
theorem dX12_shelf_98 : decode cX12_shelf 98 = .ok (.iconst (-1), 1) := by decide +kernel
theorem dX12_shelf_99 : decode cX12_shelf 99 = .ok (.if_icmp .ne 6, 3) := by decide +kernel
set_option maxRecDepth 20000 in
theorem ggX12_taken_X12_in : GoodIn wsX12_taken wsX12_in := goodIn_r _ [10] rfl (by decide +kernel)
set_option maxRecDepth 20000 in
theorem gX12_taken_X12_in : GoodIn wsX12_taken (va_wsS RX12 66 yX12_in wsX12_in) := goodIn_app (goodIn_of _ (by decide +kernel)) ggX12_taken_X12_in
set_option maxRecDepth 20000 in
theorem ggX12_taken_X12_isShelf : GoodIn wsX12_taken wsX12_isShelf := goodIn_r _ [7, 8, 9, 6, 10] rfl (by decide +kernel)
set_option maxRecDepth 20000 in
theorem gX12_taken_X12_isShelf : GoodIn wsX12_taken (va_wsS RX12 222 yX12_isShelf wsX12_isShelf) := goodIn_app (goodIn_of _ (by decide +kernel)) ggX12_taken_X12_isShelf
theorem dX12_taken_0 : decode cX12_taken 0 = .ok (.iload_n 1, 1) := by decide +kernel
theorem dX12_taken_1 : decode cX12_taken 1 = .ok (.invokestatic 222, 3) := by decide +kernel
theorem dX12_taken_10 : decode cX12_taken 10 = .ok (.invokestatic 66, 3) := by decide +kernel
theorem dX12_taken_13 : decode cX12_taken 13 = .ok (.ifCond .ne 17, 3) := by decide +kernel
theorem dX12_taken_16 : decode cX12_taken 16 = .ok (.iload_n 2, 1) := by decide +kernel
theorem dX12_taken_17 : decode cX12_taken 17 = .ok (.bipush 10, 2) := by decide +kernel
theorem dX12_taken_19 : decode cX12_taken 19 = .ok (.bipush 11, 2) := by decide +kernel
theorem dX12_taken_21 : decode cX12_taken 21 = .ok (.invokestatic 66, 3) := by decide +kernel
theorem dX12_taken_24 : decode cX12_taken 24 = .ok (.ifCond .ne 6, 3) := by decide +kernel
theorem dX12_taken_27 : decode cX12_taken 27 = .ok (.bipush (-2), 2) := by decide +kernel
theorem dX12_taken_29 : decode cX12_taken 29 = .ok (.ireturn, 1) := by decide +kernel
theorem dX12_taken_30 : decode cX12_taken 30 = .ok (.aload_n 0, 1) := by decide +kernel
theorem dX12_taken_31 : decode cX12_taken 31 = .ok (.getfield 47, 3) := by decide +kernel
theorem dX12_taken_34 : decode cX12_taken 34 = .ok (.iload_n 1, 1) := by decide +kernel
theorem dX12_taken_35 : decode cX12_taken 35 = .ok (.iaload, 1) := by decide +kernel
theorem dX12_taken_36 : decode cX12_taken 36 = .ok (.iconst (-1), 1) := by decide +kernel
theorem dX12_taken_37 : decode cX12_taken 37 = .ok (.if_icmp .ne 6, 3) := by decide +kernel
theorem dX12_taken_4 : decode cX12_taken 4 = .ok (.ifCond .eq 23, 3) := by decide +kernel
theorem dX12_taken_40 : decode cX12_taken 40 = .ok (.bipush (-11), 2) := by decide +kernel
theorem dX12_taken_42 : decode cX12_taken 42 = .ok (.ireturn, 1) := by decide +kernel
theorem dX12_taken_7 : decode cX12_taken 7 = .ok (.iload_n 2, 1) := by decide +kernel
theorem dX12_taken_8 : decode cX12_taken 8 = .ok (.iconst 0, 1) := by decide +kernel
theorem dX12_taken_9 : decode cX12_taken 9 = .ok (.iconst 5, 1) := by decide +kernel
set_option maxRecDepth 20000 in
theorem ggX12_held_X12_in : GoodIn wsX12_held wsX12_in := goodIn_r _ [6] rfl (by decide +kernel)
set_option maxRecDepth 20000 in
theorem gX12_held_X12_in : GoodIn wsX12_held (va_wsS RX12 66 yX12_in wsX12_in) := goodIn_app (goodIn_of _ (by decide +kernel)) ggX12_held_X12_in
theorem dX12_held_0 : decode cX12_held 0 = .ok (.iload_n 1, 1) := by decide +kernel
theorem dX12_held_1 : decode cX12_held 1 = .ok (.iconst 0, 1) := by decide +kernel
theorem dX12_held_10 : decode cX12_held 10 = .ok (.iconst 0, 1) := by decide +kernel
theorem dX12_held_11 : decode cX12_held 11 = .ok (.iconst 2, 1) := by decide +kernel
theorem dX12_held_12 : decode cX12_held 12 = .ok (.invokestatic 66, 3) := by decide +kernel
theorem dX12_held_123 : decode cX12_held 123 = .ok (.iinc 6 1, 3) := by decide +kernel
theorem dX12_held_126 : decode cX12_held 126 = .ok (.goto (-94), 3) := by decide +kernel
theorem dX12_held_129 : decode cX12_held 129 = .ok (.iload_n 2, 1) := by decide +kernel
theorem dX12_held_130 : decode cX12_held 130 = .ok (.ifCond .ne 7, 3) := by decide +kernel
theorem dX12_held_133 : decode cX12_held 133 = .ok (.iload_n 3, 1) := by decide +kernel
theorem dX12_held_134 : decode cX12_held 134 = .ok (.goto 15, 3) := by decide +kernel
theorem dX12_held_137 : decode cX12_held 137 = .ok (.iload_n 2, 1) := by decide +kernel
theorem dX12_held_138 : decode cX12_held 138 = .ok (.iconst 1, 1) := by decide +kernel
theorem dX12_held_139 : decode cX12_held 139 = .ok (.if_icmp .ne 8, 3) := by decide +kernel
theorem dX12_held_142 : decode cX12_held 142 = .ok (.iload 4, 2) := by decide +kernel
theorem dX12_held_144 : decode cX12_held 144 = .ok (.goto 5, 3) := by decide +kernel
theorem dX12_held_147 : decode cX12_held 147 = .ok (.iload 5, 2) := by decide +kernel
theorem dX12_held_149 : decode cX12_held 149 = .ok (.ireturn, 1) := by decide +kernel
theorem dX12_held_15 : decode cX12_held 15 = .ok (.ifCond .ne 6, 3) := by decide +kernel
theorem dX12_held_18 : decode cX12_held 18 = .ok (.bipush (-2), 2) := by decide +kernel
theorem dX12_held_2 : decode cX12_held 2 = .ok (.iconst 5, 1) := by decide +kernel
theorem dX12_held_20 : decode cX12_held 20 = .ok (.ireturn, 1) := by decide +kernel
theorem dX12_held_21 : decode cX12_held 21 = .ok (.iconst 0, 1) := by decide +kernel
theorem dX12_held_22 : decode cX12_held 22 = .ok (.istore_n 3, 1) := by decide +kernel
theorem dX12_held_23 : decode cX12_held 23 = .ok (.iconst 0, 1) := by decide +kernel
theorem dX12_held_24 : decode cX12_held 24 = .ok (.istore 4, 2) := by decide +kernel
theorem dX12_held_26 : decode cX12_held 26 = .ok (.iconst (-1), 1) := by decide +kernel
theorem dX12_held_27 : decode cX12_held 27 = .ok (.istore 5, 2) := by decide +kernel
theorem dX12_held_29 : decode cX12_held 29 = .ok (.iconst 0, 1) := by decide +kernel
theorem dX12_held_3 : decode cX12_held 3 = .ok (.invokestatic 66, 3) := by decide +kernel
theorem dX12_held_30 : decode cX12_held 30 = .ok (.istore 6, 2) := by decide +kernel
theorem dX12_held_32 : decode cX12_held 32 = .ok (.iload 6, 2) := by decide +kernel
theorem dX12_held_34 : decode cX12_held 34 = .ok (.iconst 4, 1) := by decide +kernel
theorem dX12_held_35 : decode cX12_held 35 = .ok (.if_icmp .ge 94, 3) := by decide +kernel
theorem dX12_held_38 : decode cX12_held 38 = .ok (.aload_n 0, 1) := by decide +kernel
theorem dX12_held_39 : decode cX12_held 39 = .ok (.getfield 47, 3) := by decide +kernel
theorem dX12_held_42 : decode cX12_held 42 = .ok (.iload 6, 2) := by decide +kernel
theorem dX12_held_44 : decode cX12_held 44 = .ok (.iaload, 1) := by decide +kernel
theorem dX12_held_45 : decode cX12_held 45 = .ok (.iconst 0, 1) := by decide +kernel
theorem dX12_held_46 : decode cX12_held 46 = .ok (.iconst 5, 1) := by decide +kernel
theorem dX12_held_47 : decode cX12_held 47 = .ok (.invokestatic 66, 3) := by decide +kernel
theorem dX12_held_50 : decode cX12_held 50 = .ok (.ifCond .eq 73, 3) := by decide +kernel
theorem dX12_held_6 : decode cX12_held 6 = .ok (.ifCond .eq 12, 3) := by decide +kernel
theorem dX12_held_9 : decode cX12_held 9 = .ok (.iload_n 2, 1) := by decide +kernel
set_option maxRecDepth 20000 in
theorem ggX12_sheet_X12_in : GoodIn wsX12_sheet wsX12_in := goodIn_r _ [10] rfl (by decide +kernel)
set_option maxRecDepth 20000 in
theorem gX12_sheet_X12_in : GoodIn wsX12_sheet (va_wsS RX12 66 yX12_in wsX12_in) := goodIn_app (goodIn_of _ (by decide +kernel)) ggX12_sheet_X12_in
set_option maxRecDepth 20000 in
theorem ggX12_sheet_X12_isSheet : GoodIn wsX12_sheet wsX12_isSheet := goodIn_r _ [7, 8, 9, 6, 10] rfl (by decide +kernel)
set_option maxRecDepth 20000 in
theorem gX12_sheet_X12_isSheet : GoodIn wsX12_sheet (va_wsS RX12 157 yX12_isSheet wsX12_isSheet) := goodIn_app (goodIn_of _ (by decide +kernel)) ggX12_sheet_X12_isSheet
theorem dX12_sheet_0 : decode cX12_sheet 0 = .ok (.iload_n 1, 1) := by decide +kernel
theorem dX12_sheet_1 : decode cX12_sheet 1 = .ok (.invokestatic 157, 3) := by decide +kernel
theorem dX12_sheet_10 : decode cX12_sheet 10 = .ok (.invokestatic 66, 3) := by decide +kernel
theorem dX12_sheet_13 : decode cX12_sheet 13 = .ok (.ifCond .eq 14, 3) := by decide +kernel
theorem dX12_sheet_16 : decode cX12_sheet 16 = .ok (.iload_n 2, 1) := by decide +kernel
theorem dX12_sheet_17 : decode cX12_sheet 17 = .ok (.iconst (-1), 1) := by decide +kernel
theorem dX12_sheet_18 : decode cX12_sheet 18 = .ok (.if_icmp .eq 12, 3) := by decide +kernel
theorem dX12_sheet_21 : decode cX12_sheet 21 = .ok (.iload_n 3, 1) := by decide +kernel
theorem dX12_sheet_22 : decode cX12_sheet 22 = .ok (.bipush 40, 2) := by decide +kernel
theorem dX12_sheet_24 : decode cX12_sheet 24 = .ok (.if_icmp .le 6, 3) := by decide +kernel
theorem dX12_sheet_27 : decode cX12_sheet 27 = .ok (.bipush (-2), 2) := by decide +kernel
theorem dX12_sheet_29 : decode cX12_sheet 29 = .ok (.ireturn, 1) := by decide +kernel
theorem dX12_sheet_30 : decode cX12_sheet 30 = .ok (.iload_n 2, 1) := by decide +kernel
theorem dX12_sheet_31 : decode cX12_sheet 31 = .ok (.iconst (-1), 1) := by decide +kernel
theorem dX12_sheet_32 : decode cX12_sheet 32 = .ok (.if_icmp .eq 10, 3) := by decide +kernel
theorem dX12_sheet_35 : decode cX12_sheet 35 = .ok (.iload_n 3, 1) := by decide +kernel
theorem dX12_sheet_36 : decode cX12_sheet 36 = .ok (.ifCond .ge 6, 3) := by decide +kernel
theorem dX12_sheet_39 : decode cX12_sheet 39 = .ok (.bipush (-14), 2) := by decide +kernel
theorem dX12_sheet_4 : decode cX12_sheet 4 = .ok (.ifCond .eq 23, 3) := by decide +kernel
theorem dX12_sheet_41 : decode cX12_sheet 41 = .ok (.ireturn, 1) := by decide +kernel
theorem dX12_sheet_42 : decode cX12_sheet 42 = .ok (.aload_n 0, 1) := by decide +kernel
theorem dX12_sheet_43 : decode cX12_sheet 43 = .ok (.getfield 38, 3) := by decide +kernel
theorem dX12_sheet_46 : decode cX12_sheet 46 = .ok (.iload_n 1, 1) := by decide +kernel
theorem dX12_sheet_47 : decode cX12_sheet 47 = .ok (.iload_n 2, 1) := by decide +kernel
theorem dX12_sheet_48 : decode cX12_sheet 48 = .ok (.iastore, 1) := by decide +kernel
theorem dX12_sheet_49 : decode cX12_sheet 49 = .ok (.aload_n 0, 1) := by decide +kernel
theorem dX12_sheet_50 : decode cX12_sheet 50 = .ok (.getfield 41, 3) := by decide +kernel
theorem dX12_sheet_53 : decode cX12_sheet 53 = .ok (.iload_n 1, 1) := by decide +kernel
theorem dX12_sheet_54 : decode cX12_sheet 54 = .ok (.iload_n 2, 1) := by decide +kernel
theorem dX12_sheet_55 : decode cX12_sheet 55 = .ok (.iconst (-1), 1) := by decide +kernel
theorem dX12_sheet_56 : decode cX12_sheet 56 = .ok (.if_icmp .ne 7, 3) := by decide +kernel
theorem dX12_sheet_59 : decode cX12_sheet 59 = .ok (.iconst 0, 1) := by decide +kernel
theorem dX12_sheet_60 : decode cX12_sheet 60 = .ok (.goto 4, 3) := by decide +kernel
theorem dX12_sheet_63 : decode cX12_sheet 63 = .ok (.iload_n 3, 1) := by decide +kernel
theorem dX12_sheet_64 : decode cX12_sheet 64 = .ok (.iastore, 1) := by decide +kernel
theorem dX12_sheet_65 : decode cX12_sheet 65 = .ok (.iconst 0, 1) := by decide +kernel
theorem dX12_sheet_66 : decode cX12_sheet 66 = .ok (.istore 4, 2) := by decide +kernel
theorem dX12_sheet_68 : decode cX12_sheet 68 = .ok (.iload 4, 2) := by decide +kernel
theorem dX12_sheet_7 : decode cX12_sheet 7 = .ok (.iload_n 2, 1) := by decide +kernel
theorem dX12_sheet_70 : decode cX12_sheet 70 = .ok (.bipush 40, 2) := by decide +kernel
theorem dX12_sheet_72 : decode cX12_sheet 72 = .ok (.if_icmp .ge 22, 3) := by decide +kernel
theorem dX12_sheet_75 : decode cX12_sheet 75 = .ok (.aload_n 0, 1) := by decide +kernel
theorem dX12_sheet_76 : decode cX12_sheet 76 = .ok (.getfield 44, 3) := by decide +kernel
theorem dX12_sheet_79 : decode cX12_sheet 79 = .ok (.bipush 40, 2) := by decide +kernel
theorem dX12_sheet_8 : decode cX12_sheet 8 = .ok (.iconst (-1), 1) := by decide +kernel
theorem dX12_sheet_81 : decode cX12_sheet 81 = .ok (.iload_n 1, 1) := by decide +kernel
theorem dX12_sheet_82 : decode cX12_sheet 82 = .ok (.imul, 1) := by decide +kernel
theorem dX12_sheet_83 : decode cX12_sheet 83 = .ok (.iload 4, 2) := by decide +kernel
theorem dX12_sheet_85 : decode cX12_sheet 85 = .ok (.iadd, 1) := by decide +kernel
theorem dX12_sheet_86 : decode cX12_sheet 86 = .ok (.iconst 0, 1) := by decide +kernel
theorem dX12_sheet_87 : decode cX12_sheet 87 = .ok (.iastore, 1) := by decide +kernel
theorem dX12_sheet_88 : decode cX12_sheet 88 = .ok (.iinc 4 1, 3) := by decide +kernel
theorem dX12_sheet_9 : decode cX12_sheet 9 = .ok (.iconst 1, 1) := by decide +kernel
theorem dX12_sheet_91 : decode cX12_sheet 91 = .ok (.goto (-23), 3) := by decide +kernel
theorem dX12_sheet_94 : decode cX12_sheet 94 = .ok (.iconst 1, 1) := by decide +kernel
theorem dX12_sheet_95 : decode cX12_sheet 95 = .ok (.ireturn, 1) := by decide +kernel
set_option maxRecDepth 20000 in
theorem ggX12_wrongAt_X12_isSheet : GoodIn wsX12_wrongAt wsX12_isSheet := goodIn_r _ [6, 7, 8, 5, 9] rfl (by decide +kernel)
set_option maxRecDepth 20000 in
theorem gX12_wrongAt_X12_isSheet : GoodIn wsX12_wrongAt (va_wsS RX12 157 yX12_isSheet wsX12_isSheet) := goodIn_app (goodIn_of _ (by decide +kernel)) ggX12_wrongAt_X12_isSheet
theorem dX12_wrongAt_0 : decode cX12_wrongAt 0 = .ok (.iload_n 1, 1) := by decide +kernel
theorem dX12_wrongAt_1 : decode cX12_wrongAt 1 = .ok (.invokestatic 157, 3) := by decide +kernel
theorem dX12_wrongAt_12 : decode cX12_wrongAt 12 = .ok (.aload_n 0, 1) := by decide +kernel
theorem dX12_wrongAt_13 : decode cX12_wrongAt 13 = .ok (.getfield 38, 3) := by decide +kernel
theorem dX12_wrongAt_16 : decode cX12_wrongAt 16 = .ok (.iload_n 1, 1) := by decide +kernel
theorem dX12_wrongAt_17 : decode cX12_wrongAt 17 = .ok (.iaload, 1) := by decide +kernel
theorem dX12_wrongAt_18 : decode cX12_wrongAt 18 = .ok (.iconst (-1), 1) := by decide +kernel
theorem dX12_wrongAt_19 : decode cX12_wrongAt 19 = .ok (.if_icmp .ne 8, 3) := by decide +kernel
theorem dX12_wrongAt_22 : decode cX12_wrongAt 22 = .ok (.bipush (-11), 2) := by decide +kernel
theorem dX12_wrongAt_24 : decode cX12_wrongAt 24 = .ok (.goto 25, 3) := by decide +kernel
theorem dX12_wrongAt_4 : decode cX12_wrongAt 4 = .ok (.ifCond .ne 8, 3) := by decide +kernel
theorem dX12_wrongAt_49 : decode cX12_wrongAt 49 = .ok (.ireturn, 1) := by decide +kernel
theorem dX12_wrongAt_7 : decode cX12_wrongAt 7 = .ok (.bipush (-2), 2) := by decide +kernel
theorem dX12_wrongAt_9 : decode cX12_wrongAt 9 = .ok (.goto 40, 3) := by decide +kernel
set_option maxRecDepth 20000 in
theorem ggX12_write_X12_wrongAt : GoodIn wsX12_write wsX12_wrongAt := goodIn_r _ [7, 2, 8, 9, 10, 6, 11, 12, 13, 14, 15, 16, 17, 18, 19, 20, 21, 22, 23, 24, 25, 26, 27, 28, 29, 30, 31, 32, 33, 34, 35, 36, 37, 38] rfl (by decide +kernel)
set_option maxRecDepth 20000 in
theorem gX12_write_X12_wrongAt : GoodIn wsX12_write (wsV RX12 234 RX12 yX12_wrongAt wsX12_wrongAt) := goodIn_app (goodIn_of _ (by decide +kernel)) ggX12_write_X12_wrongAt
theorem dX12_write_0 : decode cX12_write 0 = .ok (.aload_n 0, 1) := by decide +kernel
theorem dX12_write_1 : decode cX12_write 1 = .ok (.iload_n 1, 1) := by decide +kernel
theorem dX12_write_10 : decode cX12_write 10 = .ok (.ifCond .eq 6, 3) := by decide +kernel
theorem dX12_write_13 : decode cX12_write 13 = .ok (.iload 4, 2) := by decide +kernel
theorem dX12_write_15 : decode cX12_write 15 = .ok (.ireturn, 1) := by decide +kernel
theorem dX12_write_2 : decode cX12_write 2 = .ok (.iload_n 2, 1) := by decide +kernel
theorem dX12_write_3 : decode cX12_write 3 = .ok (.invokevirtual 234, 3) := by decide +kernel
theorem dX12_write_6 : decode cX12_write 6 = .ok (.istore 4, 2) := by decide +kernel
theorem dX12_write_8 : decode cX12_write 8 = .ok (.iload 4, 2) := by decide +kernel
set_option maxRecDepth 20000 in
theorem ggX12_item_X12_wrongAt : GoodIn wsX12_item wsX12_wrongAt := goodIn_r _ [6, 7, 8, 9, 10, 5, 11, 12, 13, 14, 15, 16, 17, 18, 19, 20, 21, 22, 23, 24, 25, 26, 27, 28, 29, 30, 31, 32, 33, 34, 35, 36, 37, 38] rfl (by decide +kernel)
set_option maxRecDepth 20000 in
theorem gX12_item_X12_wrongAt : GoodIn wsX12_item (wsV RX12 234 RX12 yX12_wrongAt wsX12_wrongAt) := goodIn_app (goodIn_of _ (by decide +kernel)) ggX12_item_X12_wrongAt
theorem dX12_item_0 : decode cX12_item 0 = .ok (.aload_n 0, 1) := by decide +kernel
theorem dX12_item_1 : decode cX12_item 1 = .ok (.iload_n 1, 1) := by decide +kernel
theorem dX12_item_11 : decode cX12_item 11 = .ok (.iload_n 3, 1) := by decide +kernel
theorem dX12_item_12 : decode cX12_item 12 = .ok (.goto 14, 3) := by decide +kernel
theorem dX12_item_2 : decode cX12_item 2 = .ok (.iload_n 2, 1) := by decide +kernel
theorem dX12_item_26 : decode cX12_item 26 = .ok (.ireturn, 1) := by decide +kernel
theorem dX12_item_3 : decode cX12_item 3 = .ok (.invokevirtual 234, 3) := by decide +kernel
theorem dX12_item_6 : decode cX12_item 6 = .ok (.istore_n 3, 1) := by decide +kernel
theorem dX12_item_7 : decode cX12_item 7 = .ok (.iload_n 3, 1) := by decide +kernel
theorem dX12_item_8 : decode cX12_item 8 = .ok (.ifCond .eq 7, 3) := by decide +kernel
set_option maxRecDepth 20000 in
theorem ggX12_copy_X12_isSheet : GoodIn wsX12_copy wsX12_isSheet := goodIn_r _ [7, 8, 9, 6, 10] rfl (by decide +kernel)
set_option maxRecDepth 20000 in
theorem gX12_copy_X12_isSheet : GoodIn wsX12_copy (va_wsS RX12 157 yX12_isSheet wsX12_isSheet) := goodIn_app (goodIn_of _ (by decide +kernel)) ggX12_copy_X12_isSheet
theorem dX12_copy_0 : decode cX12_copy 0 = .ok (.iload_n 1, 1) := by decide +kernel
theorem dX12_copy_1 : decode cX12_copy 1 = .ok (.invokestatic 157, 3) := by decide +kernel
theorem dX12_copy_11 : decode cX12_copy 11 = .ok (.ifCond .ne 6, 3) := by decide +kernel
theorem dX12_copy_14 : decode cX12_copy 14 = .ok (.bipush (-2), 2) := by decide +kernel
theorem dX12_copy_16 : decode cX12_copy 16 = .ok (.ireturn, 1) := by decide +kernel
theorem dX12_copy_17 : decode cX12_copy 17 = .ok (.aload_n 0, 1) := by decide +kernel
theorem dX12_copy_18 : decode cX12_copy 18 = .ok (.getfield 38, 3) := by decide +kernel
theorem dX12_copy_21 : decode cX12_copy 21 = .ok (.iload_n 1, 1) := by decide +kernel
theorem dX12_copy_22 : decode cX12_copy 22 = .ok (.iaload, 1) := by decide +kernel
theorem dX12_copy_23 : decode cX12_copy 23 = .ok (.iconst (-1), 1) := by decide +kernel
theorem dX12_copy_24 : decode cX12_copy 24 = .ok (.if_icmp .eq 13, 3) := by decide +kernel
theorem dX12_copy_37 : decode cX12_copy 37 = .ok (.bipush (-11), 2) := by decide +kernel
theorem dX12_copy_39 : decode cX12_copy 39 = .ok (.ireturn, 1) := by decide +kernel
theorem dX12_copy_4 : decode cX12_copy 4 = .ok (.ifCond .eq 10, 3) := by decide +kernel
theorem dX12_copy_7 : decode cX12_copy 7 = .ok (.iload_n 3, 1) := by decide +kernel
theorem dX12_copy_8 : decode cX12_copy 8 = .ok (.invokestatic 157, 3) := by decide +kernel
set_option maxRecDepth 20000 in
theorem ggX12_image_X12_keeps : GoodIn wsX12_image wsX12_keeps := goodIn_r _ [7, 8, 2, 9, 10, 11, 12, 13, 14, 15, 16, 17, 18, 19, 20, 21, 22, 23, 24, 25, 26, 27, 28, 29, 30, 31, 32, 33, 34] rfl (by decide +kernel)
set_option maxRecDepth 20000 in
theorem gX12_image_X12_keeps : GoodIn wsX12_image (wsV RX12 205 RX12 yX12_keeps wsX12_keeps) := goodIn_app (goodIn_of _ (by decide +kernel)) ggX12_image_X12_keeps
theorem dX12_image_0 : decode cX12_image 0 = .ok (.aload_n 0, 1) := by decide +kernel
theorem dX12_image_1 : decode cX12_image 1 = .ok (.iconst 0, 1) := by decide +kernel
theorem dX12_image_10 : decode cX12_image 10 = .ok (.aload_n 0, 1) := by decide +kernel
theorem dX12_image_11 : decode cX12_image 11 = .ok (.getfield 63, 3) := by decide +kernel
theorem dX12_image_14 : decode cX12_image 14 = .ok (.ireturn, 1) := by decide +kernel
theorem dX12_image_2 : decode cX12_image 2 = .ok (.invokevirtual 205, 3) := by decide +kernel
theorem dX12_image_5 : decode cX12_image 5 = .ok (.aload_n 0, 1) := by decide +kernel
theorem dX12_image_6 : decode cX12_image 6 = .ok (.iconst 1, 1) := by decide +kernel
theorem dX12_image_7 : decode cX12_image 7 = .ok (.putfield 237, 3) := by decide +kernel
theorem dX12_back_0 : decode cX12_back 0 = .ok (.aload_n 0, 1) := by decide +kernel
theorem dX12_back_1 : decode cX12_back 1 = .ok (.getfield 237, 3) := by decide +kernel
theorem dX12_back_4 : decode cX12_back 4 = .ok (.ifCond .ne 6, 3) := by decide +kernel
theorem dX12_back_7 : decode cX12_back 7 = .ok (.bipush (-3), 2) := by decide +kernel
theorem dX12_back_9 : decode cX12_back 9 = .ok (.ireturn, 1) := by decide +kernel
theorem dX2_hasPoint_0 : decode cX2_hasPoint 0 = .ok (.iload_n 1, 1) := by decide +kernel
theorem dX2_hasPoint_1 : decode cX2_hasPoint 1 = .ok (.ifCond .lt 15, 3) := by decide +kernel
theorem dX2_hasPoint_16 : decode cX2_hasPoint 16 = .ok (.iconst 0, 1) := by decide +kernel
theorem dX2_hasPoint_17 : decode cX2_hasPoint 17 = .ok (.ireturn, 1) := by decide +kernel
theorem dX2_hasPoint_4 : decode cX2_hasPoint 4 = .ok (.iload_n 1, 1) := by decide +kernel
theorem dX2_hasPoint_5 : decode cX2_hasPoint 5 = .ok (.aload_n 0, 1) := by decide +kernel
theorem dX2_hasPoint_6 : decode cX2_hasPoint 6 = .ok (.getfield 15, 3) := by decide +kernel
theorem dX2_hasPoint_9 : decode cX2_hasPoint 9 = .ok (.if_icmp .ge 7, 3) := by decide +kernel
set_option maxRecDepth 20000 in
theorem ggX2_areTwo_X2_hasPoint : GoodIn wsX2_areTwo wsX2_hasPoint := goodIn_r _ [5, 6, 7, 8, 9] rfl (by decide +kernel)
set_option maxRecDepth 20000 in
theorem gX2_areTwo_X2_hasPoint : GoodIn wsX2_areTwo (wsV RX2 23 RX2 yX2_hasPoint wsX2_hasPoint) := goodIn_app (goodIn_of _ (by decide +kernel)) ggX2_areTwo_X2_hasPoint
theorem dX2_areTwo_0 : decode cX2_areTwo 0 = .ok (.aload_n 0, 1) := by decide +kernel
theorem dX2_areTwo_1 : decode cX2_areTwo 1 = .ok (.iload_n 1, 1) := by decide +kernel
theorem dX2_areTwo_2 : decode cX2_areTwo 2 = .ok (.invokevirtual 23, 3) := by decide +kernel
theorem dX2_areTwo_25 : decode cX2_areTwo 25 = .ok (.iconst 0, 1) := by decide +kernel
theorem dX2_areTwo_26 : decode cX2_areTwo 26 = .ok (.ireturn, 1) := by decide +kernel
theorem dX2_areTwo_5 : decode cX2_areTwo 5 = .ok (.ifCond .eq 20, 3) := by decide +kernel
set_option maxRecDepth 20000 in
theorem ggX11_line_X2_areTwo : GoodIn wsX11_line wsX2_areTwo := goodIn_r _ [6, 7, 8, 9, 5, 10, 11, 39, 40, 41] rfl (by decide +kernel)
set_option maxRecDepth 20000 in
theorem gX11_line_X2_areTwo : GoodIn wsX11_line (wsV RX11 105 RX2 yX2_areTwo wsX2_areTwo) := goodIn_app (goodIn_of _ (by decide +kernel)) ggX11_line_X2_areTwo
theorem dX11_line_0 : decode cX11_line 0 = .ok (.aload_n 0, 1) := by decide +kernel
theorem dX11_line_1 : decode cX11_line 1 = .ok (.getfield 12, 3) := by decide +kernel
theorem dX11_line_21 : decode cX11_line 21 = .ok (.bipush (-2), 2) := by decide +kernel
theorem dX11_line_23 : decode cX11_line 23 = .ok (.ireturn, 1) := by decide +kernel
theorem dX11_line_4 : decode cX11_line 4 = .ok (.iload_n 1, 1) := by decide +kernel
theorem dX11_line_5 : decode cX11_line 5 = .ok (.iload_n 2, 1) := by decide +kernel
theorem dX11_line_6 : decode cX11_line 6 = .ok (.invokevirtual 105, 3) := by decide +kernel
theorem dX11_line_9 : decode cX11_line 9 = .ok (.ifCond .eq 12, 3) := by decide +kernel
set_option maxRecDepth 20000 in
theorem ggX11_next_X2_hasPoint : GoodIn wsX11_next wsX2_hasPoint := goodIn_r _ [6, 7, 30, 31, 32] rfl (by decide +kernel)
set_option maxRecDepth 20000 in
theorem gX11_next_X2_hasPoint : GoodIn wsX11_next (wsV RX11 116 RX2 yX2_hasPoint wsX2_hasPoint) := goodIn_app (goodIn_of _ (by decide +kernel)) ggX11_next_X2_hasPoint
theorem dX11_next_0 : decode cX11_next 0 = .ok (.aload_n 0, 1) := by decide +kernel
theorem dX11_next_1 : decode cX11_next 1 = .ok (.getfield 12, 3) := by decide +kernel
theorem dX11_next_22 : decode cX11_next 22 = .ok (.bipush (-2), 2) := by decide +kernel
theorem dX11_next_24 : decode cX11_next 24 = .ok (.ireturn, 1) := by decide +kernel
theorem dX11_next_4 : decode cX11_next 4 = .ok (.iload_n 1, 1) := by decide +kernel
theorem dX11_next_5 : decode cX11_next 5 = .ok (.invokevirtual 116, 3) := by decide +kernel
theorem dX11_next_8 : decode cX11_next 8 = .ok (.ifCond .eq 14, 3) := by decide +kernel
theorem dX2_lineCount_0 : decode cX2_lineCount 0 = .ok (.iconst 0, 1) := by decide +kernel
theorem dX2_lineCount_1 : decode cX2_lineCount 1 = .ok (.istore_n 1, 1) := by decide +kernel
theorem dX2_lineCount_2 : decode cX2_lineCount 2 = .ok (.iconst 0, 1) := by decide +kernel
theorem dX2_lineCount_3 : decode cX2_lineCount 3 = .ok (.istore_n 2, 1) := by decide +kernel
theorem dX2_lineCount_30 : decode cX2_lineCount 30 = .ok (.iload_n 1, 1) := by decide +kernel
theorem dX2_lineCount_31 : decode cX2_lineCount 31 = .ok (.iconst 2, 1) := by decide +kernel
theorem dX2_lineCount_32 : decode cX2_lineCount 32 = .ok (.idiv, 1) := by decide +kernel
theorem dX2_lineCount_33 : decode cX2_lineCount 33 = .ok (.ireturn, 1) := by decide +kernel
theorem dX2_lineCount_4 : decode cX2_lineCount 4 = .ok (.iload_n 2, 1) := by decide +kernel
theorem dX2_lineCount_5 : decode cX2_lineCount 5 = .ok (.aload_n 0, 1) := by decide +kernel
theorem dX2_lineCount_6 : decode cX2_lineCount 6 = .ok (.getfield 15, 3) := by decide +kernel
theorem dX2_lineCount_9 : decode cX2_lineCount 9 = .ok (.if_icmp .ge 21, 3) := by decide +kernel
theorem dX2_all_0 : decode cX2_all 0 = .ok (.iconst 1, 1) := by decide +kernel
theorem dX2_all_1 : decode cX2_all 1 = .ok (.aload_n 0, 1) := by decide +kernel
theorem dX2_all_2 : decode cX2_all 2 = .ok (.getfield 15, 3) := by decide +kernel
theorem dX2_all_5 : decode cX2_all 5 = .ok (.ishl, 1) := by decide +kernel
theorem dX2_all_6 : decode cX2_all 6 = .ok (.iconst 1, 1) := by decide +kernel
theorem dX2_all_7 : decode cX2_all 7 = .ok (.isub, 1) := by decide +kernel
theorem dX2_all_8 : decode cX2_all 8 = .ok (.ireturn, 1) := by decide +kernel
theorem dX3_notice_0 : decode cX3_notice 0 = .ok (.aload_n 0, 1) := by decide +kernel
theorem dX3_notice_1 : decode cX3_notice 1 = .ok (.getfield 27, 3) := by decide +kernel
theorem dX3_notice_11 : decode cX3_notice 11 = .ok (.if_icmp .eq 28, 3) := by decide +kernel
theorem dX3_notice_39 : decode cX3_notice 39 = .ok (.return_, 1) := by decide +kernel
theorem dX3_notice_4 : decode cX3_notice 4 = .ok (.aload_n 0, 1) := by decide +kernel
theorem dX3_notice_5 : decode cX3_notice 5 = .ok (.getfield 23, 3) := by decide +kernel
theorem dX3_notice_8 : decode cX3_notice 8 = .ok (.getfield 31, 3) := by decide +kernel
theorem dJ6_numberOfLeadingZeros_0f7a4_0 : decode cJ6_numberOfLeadingZeros_0f7a4 0 = .ok (.iload_n 0, 1) := by decide +kernel
theorem dJ6_numberOfLeadingZeros_0f7a4_1 : decode cJ6_numberOfLeadingZeros_0f7a4 1 = .ok (.ifCond .gt 14, 3) := by decide +kernel
theorem dJ6_numberOfLeadingZeros_0f7a4_10 : decode cJ6_numberOfLeadingZeros_0f7a4 10 = .ok (.goto 4, 3) := by decide +kernel
theorem dJ6_numberOfLeadingZeros_0f7a4_14 : decode cJ6_numberOfLeadingZeros_0f7a4 14 = .ok (.ireturn, 1) := by decide +kernel
theorem dJ6_numberOfLeadingZeros_0f7a4_4 : decode cJ6_numberOfLeadingZeros_0f7a4 4 = .ok (.iload_n 0, 1) := by decide +kernel
theorem dJ6_numberOfLeadingZeros_0f7a4_5 : decode cJ6_numberOfLeadingZeros_0f7a4 5 = .ok (.ifCond .ne 8, 3) := by decide +kernel
theorem dJ6_numberOfLeadingZeros_0f7a4_8 : decode cJ6_numberOfLeadingZeros_0f7a4 8 = .ok (.bipush 32, 2) := by decide +kernel
set_option maxRecDepth 20000 in
theorem ggX3_bestOf_J6_numberOfLeadingZeros_0f7a4 : GoodIn wsX3_bestOf wsJ6_numberOfLeadingZeros_0f7a4 := goodIn_r _ [6, 7] rfl (by decide +kernel)
set_option maxRecDepth 20000 in
theorem gX3_bestOf_J6_numberOfLeadingZeros_0f7a4 : GoodIn wsX3_bestOf (va_wsS RX3 55 yJ6_numberOfLeadingZeros_0f7a4 wsJ6_numberOfLeadingZeros_0f7a4) := goodIn_app (goodIn_of _ (by decide +kernel)) ggX3_bestOf_J6_numberOfLeadingZeros_0f7a4
theorem dX3_bestOf_0 : decode cX3_bestOf 0 = .ok (.bipush 31, 2) := by decide +kernel
theorem dX3_bestOf_10 : decode cX3_bestOf 10 = .ok (.if_icmp .lt 15, 3) := by decide +kernel
theorem dX3_bestOf_2 : decode cX3_bestOf 2 = .ok (.iload_n 1, 1) := by decide +kernel
theorem dX3_bestOf_25 : decode cX3_bestOf 25 = .ok (.iconst 0, 1) := by decide +kernel
theorem dX3_bestOf_26 : decode cX3_bestOf 26 = .ok (.ireturn, 1) := by decide +kernel
theorem dX3_bestOf_3 : decode cX3_bestOf 3 = .ok (.invokestatic 55, 3) := by decide +kernel
theorem dX3_bestOf_6 : decode cX3_bestOf 6 = .ok (.isub, 1) := by decide +kernel
theorem dX3_bestOf_7 : decode cX3_bestOf 7 = .ok (.istore_n 3, 1) := by decide +kernel
theorem dX3_bestOf_8 : decode cX3_bestOf 8 = .ok (.iload_n 3, 1) := by decide +kernel
theorem dX3_bestOf_9 : decode cX3_bestOf 9 = .ok (.iconst 1, 1) := by decide +kernel
set_option maxRecDepth 20000 in
theorem ggX3_best_X3_bestOf : GoodIn wsX3_best wsX3_bestOf := goodIn_r _ [20, 8, 7, 21, 22, 23, 24, 25, 26, 27, 28, 13, 29, 16, 15, 30, 17, 18, 19, 4, 31, 32, 33, 34, 35, 36, 37, 38, 39, 40, 41, 42, 43, 44, 45, 46, 47, 48, 49] rfl (by decide +kernel)
set_option maxRecDepth 20000 in
theorem gX3_best_X3_bestOf : GoodIn wsX3_best (wsV RX3 42 RX3 yX3_bestOf wsX3_bestOf) := goodIn_app (goodIn_of _ (by decide +kernel)) ggX3_best_X3_bestOf
set_option maxRecDepth 20000 in
theorem ggX3_best_X3_notice : GoodIn wsX3_best wsX3_notice := goodIn_r _ [5, 6, 7, 8, 9, 10, 11, 12, 13, 14, 15, 16, 41, 42, 43, 44, 45, 46, 47, 48, 49] rfl (by decide +kernel)
set_option maxRecDepth 20000 in
theorem gX3_best_X3_notice : GoodIn wsX3_best (wsV RX3 39 RX3 yX3_notice wsX3_notice) := goodIn_app (goodIn_of _ (by decide +kernel)) ggX3_best_X3_notice
theorem dX3_best_0 : decode cX3_best 0 = .ok (.aload_n 0, 1) := by decide +kernel
theorem dX3_best_1 : decode cX3_best 1 = .ok (.invokevirtual 39, 3) := by decide +kernel
theorem dX3_best_10 : decode cX3_best 10 = .ok (.ireturn, 1) := by decide +kernel
theorem dX3_best_4 : decode cX3_best 4 = .ok (.aload_n 0, 1) := by decide +kernel
theorem dX3_best_5 : decode cX3_best 5 = .ok (.iload_n 1, 1) := by decide +kernel
theorem dX3_best_6 : decode cX3_best 6 = .ok (.iconst 0, 1) := by decide +kernel
theorem dX3_best_7 : decode cX3_best 7 = .ok (.invokevirtual 42, 3) := by decide +kernel
theorem dJ6_bitCount_0f7a4_0 : decode cJ6_bitCount_0f7a4 0 = .ok (.iload_n 0, 1) := by decide +kernel
theorem dJ6_bitCount_0f7a4_1 : decode cJ6_bitCount_0f7a4 1 = .ok (.iload_n 0, 1) := by decide +kernel
theorem dJ6_bitCount_0f7a4_10 : decode cJ6_bitCount_0f7a4 10 = .ok (.iload_n 0, 1) := by decide +kernel
theorem dJ6_bitCount_0f7a4_11 : decode cJ6_bitCount_0f7a4 11 = .ok (.ldc_w 266, 3) := by decide +kernel
theorem dJ6_bitCount_0f7a4_14 : decode cJ6_bitCount_0f7a4 14 = .ok (.iand, 1) := by decide +kernel
theorem dJ6_bitCount_0f7a4_15 : decode cJ6_bitCount_0f7a4 15 = .ok (.iload_n 0, 1) := by decide +kernel
theorem dJ6_bitCount_0f7a4_16 : decode cJ6_bitCount_0f7a4 16 = .ok (.iconst 2, 1) := by decide +kernel
theorem dJ6_bitCount_0f7a4_17 : decode cJ6_bitCount_0f7a4 17 = .ok (.iushr, 1) := by decide +kernel
theorem dJ6_bitCount_0f7a4_18 : decode cJ6_bitCount_0f7a4 18 = .ok (.ldc_w 266, 3) := by decide +kernel
theorem dJ6_bitCount_0f7a4_2 : decode cJ6_bitCount_0f7a4 2 = .ok (.iconst 1, 1) := by decide +kernel
theorem dJ6_bitCount_0f7a4_21 : decode cJ6_bitCount_0f7a4 21 = .ok (.iand, 1) := by decide +kernel
theorem dJ6_bitCount_0f7a4_22 : decode cJ6_bitCount_0f7a4 22 = .ok (.iadd, 1) := by decide +kernel
theorem dJ6_bitCount_0f7a4_23 : decode cJ6_bitCount_0f7a4 23 = .ok (.istore_n 0, 1) := by decide +kernel
theorem dJ6_bitCount_0f7a4_24 : decode cJ6_bitCount_0f7a4 24 = .ok (.iload_n 0, 1) := by decide +kernel
theorem dJ6_bitCount_0f7a4_25 : decode cJ6_bitCount_0f7a4 25 = .ok (.iload_n 0, 1) := by decide +kernel
theorem dJ6_bitCount_0f7a4_26 : decode cJ6_bitCount_0f7a4 26 = .ok (.iconst 4, 1) := by decide +kernel
theorem dJ6_bitCount_0f7a4_27 : decode cJ6_bitCount_0f7a4 27 = .ok (.iushr, 1) := by decide +kernel
theorem dJ6_bitCount_0f7a4_28 : decode cJ6_bitCount_0f7a4 28 = .ok (.iadd, 1) := by decide +kernel
theorem dJ6_bitCount_0f7a4_29 : decode cJ6_bitCount_0f7a4 29 = .ok (.ldc_w 267, 3) := by decide +kernel
theorem dJ6_bitCount_0f7a4_3 : decode cJ6_bitCount_0f7a4 3 = .ok (.iushr, 1) := by decide +kernel
theorem dJ6_bitCount_0f7a4_32 : decode cJ6_bitCount_0f7a4 32 = .ok (.iand, 1) := by decide +kernel
theorem dJ6_bitCount_0f7a4_33 : decode cJ6_bitCount_0f7a4 33 = .ok (.istore_n 0, 1) := by decide +kernel
theorem dJ6_bitCount_0f7a4_34 : decode cJ6_bitCount_0f7a4 34 = .ok (.iload_n 0, 1) := by decide +kernel
theorem dJ6_bitCount_0f7a4_35 : decode cJ6_bitCount_0f7a4 35 = .ok (.iload_n 0, 1) := by decide +kernel
theorem dJ6_bitCount_0f7a4_36 : decode cJ6_bitCount_0f7a4 36 = .ok (.bipush 8, 2) := by decide +kernel
theorem dJ6_bitCount_0f7a4_38 : decode cJ6_bitCount_0f7a4 38 = .ok (.iushr, 1) := by decide +kernel
theorem dJ6_bitCount_0f7a4_39 : decode cJ6_bitCount_0f7a4 39 = .ok (.iadd, 1) := by decide +kernel
theorem dJ6_bitCount_0f7a4_4 : decode cJ6_bitCount_0f7a4 4 = .ok (.ldc_w 265, 3) := by decide +kernel
theorem dJ6_bitCount_0f7a4_40 : decode cJ6_bitCount_0f7a4 40 = .ok (.istore_n 0, 1) := by decide +kernel
theorem dJ6_bitCount_0f7a4_41 : decode cJ6_bitCount_0f7a4 41 = .ok (.iload_n 0, 1) := by decide +kernel
theorem dJ6_bitCount_0f7a4_42 : decode cJ6_bitCount_0f7a4 42 = .ok (.iload_n 0, 1) := by decide +kernel
theorem dJ6_bitCount_0f7a4_43 : decode cJ6_bitCount_0f7a4 43 = .ok (.bipush 16, 2) := by decide +kernel
theorem dJ6_bitCount_0f7a4_45 : decode cJ6_bitCount_0f7a4 45 = .ok (.iushr, 1) := by decide +kernel
theorem dJ6_bitCount_0f7a4_46 : decode cJ6_bitCount_0f7a4 46 = .ok (.iadd, 1) := by decide +kernel
theorem dJ6_bitCount_0f7a4_47 : decode cJ6_bitCount_0f7a4 47 = .ok (.istore_n 0, 1) := by decide +kernel
theorem dJ6_bitCount_0f7a4_48 : decode cJ6_bitCount_0f7a4 48 = .ok (.iload_n 0, 1) := by decide +kernel
theorem dJ6_bitCount_0f7a4_49 : decode cJ6_bitCount_0f7a4 49 = .ok (.bipush 63, 2) := by decide +kernel
theorem dJ6_bitCount_0f7a4_51 : decode cJ6_bitCount_0f7a4 51 = .ok (.iand, 1) := by decide +kernel
theorem dJ6_bitCount_0f7a4_52 : decode cJ6_bitCount_0f7a4 52 = .ok (.ireturn, 1) := by decide +kernel
theorem dJ6_bitCount_0f7a4_7 : decode cJ6_bitCount_0f7a4 7 = .ok (.iand, 1) := by decide +kernel
theorem dJ6_bitCount_0f7a4_8 : decode cJ6_bitCount_0f7a4 8 = .ok (.isub, 1) := by decide +kernel
theorem dJ6_bitCount_0f7a4_9 : decode cJ6_bitCount_0f7a4 9 = .ok (.istore_n 0, 1) := by decide +kernel
set_option maxRecDepth 20000 in
theorem ggX3_lack_J6_bitCount_0f7a4 : GoodIn wsX3_lack wsJ6_bitCount_0f7a4 := goodIn_r _ [4, 5, 6, 7] rfl (by decide +kernel)
set_option maxRecDepth 20000 in
theorem gX3_lack_J6_bitCount_0f7a4 : GoodIn wsX3_lack (va_wsS RX3 46 yJ6_bitCount_0f7a4 wsJ6_bitCount_0f7a4) := goodIn_app (goodIn_of _ (by decide +kernel)) ggX3_lack_J6_bitCount_0f7a4
set_option maxRecDepth 20000 in
theorem ggX3_lack_X3_best : GoodIn wsX3_lack wsX3_best := goodIn_r _ [12, 13, 14, 15, 11, 16, 17, 18, 19, 20, 21, 22, 23, 24, 25, 26, 27, 28, 29, 30, 31, 32, 33, 3, 34, 35, 36, 37, 38, 39, 40, 1, 2, 4, 5, 6, 7, 41, 42, 43, 44, 45, 46, 47, 48, 49, 50, 51, 52, 53] rfl (by decide +kernel)
set_option maxRecDepth 20000 in
theorem gX3_lack_X3_best : GoodIn wsX3_lack (wsV RX3 52 RX3 yX3_best wsX3_best) := goodIn_app (goodIn_of _ (by decide +kernel)) ggX3_lack_X3_best
theorem dX3_lack_0 : decode cX3_lack 0 = .ok (.iload_n 1, 1) := by decide +kernel
theorem dX3_lack_1 : decode cX3_lack 1 = .ok (.invokestatic 46, 3) := by decide +kernel
theorem dX3_lack_10 : decode cX3_lack 10 = .ok (.imul, 1) := by decide +kernel
theorem dX3_lack_11 : decode cX3_lack 11 = .ok (.isub, 1) := by decide +kernel
theorem dX3_lack_12 : decode cX3_lack 12 = .ok (.ireturn, 1) := by decide +kernel
theorem dX3_lack_4 : decode cX3_lack 4 = .ok (.iconst 2, 1) := by decide +kernel
theorem dX3_lack_5 : decode cX3_lack 5 = .ok (.aload_n 0, 1) := by decide +kernel
theorem dX3_lack_6 : decode cX3_lack 6 = .ok (.iload_n 1, 1) := by decide +kernel
theorem dX3_lack_7 : decode cX3_lack 7 = .ok (.invokevirtual 52, 3) := by decide +kernel
set_option maxRecDepth 20000 in
theorem ggX2_pieceCount_X2_all : GoodIn wsX2_pieceCount wsX2_all := goodIn_r _ [6, 7, 19, 20, 21] rfl (by decide +kernel)
set_option maxRecDepth 20000 in
theorem gX2_pieceCount_X2_all : GoodIn wsX2_pieceCount (wsV RX2 19 RX2 yX2_all wsX2_all) := goodIn_app (goodIn_of _ (by decide +kernel)) ggX2_pieceCount_X2_all
theorem dX2_pieceCount_0 : decode cX2_pieceCount 0 = .ok (.iload_n 1, 1) := by decide +kernel
theorem dX2_pieceCount_1 : decode cX2_pieceCount 1 = .ok (.aload_n 0, 1) := by decide +kernel
theorem dX2_pieceCount_10 : decode cX2_pieceCount 10 = .ok (.istore 4, 2) := by decide +kernel
theorem dX2_pieceCount_12 : decode cX2_pieceCount 12 = .ok (.iload 4, 2) := by decide +kernel
theorem dX2_pieceCount_14 : decode cX2_pieceCount 14 = .ok (.bipush 12, 2) := by decide +kernel
theorem dX2_pieceCount_16 : decode cX2_pieceCount 16 = .ok (.if_icmp .ge 29, 3) := by decide +kernel
theorem dX2_pieceCount_19 : decode cX2_pieceCount 19 = .ok (.iload_n 2, 1) := by decide +kernel
theorem dX2_pieceCount_2 : decode cX2_pieceCount 2 = .ok (.invokevirtual 19, 3) := by decide +kernel
theorem dX2_pieceCount_20 : decode cX2_pieceCount 20 = .ok (.ifCond .eq 25, 3) := by decide +kernel
theorem dX2_pieceCount_45 : decode cX2_pieceCount 45 = .ok (.iload_n 3, 1) := by decide +kernel
theorem dX2_pieceCount_46 : decode cX2_pieceCount 46 = .ok (.ireturn, 1) := by decide +kernel
theorem dX2_pieceCount_5 : decode cX2_pieceCount 5 = .ok (.iand, 1) := by decide +kernel
theorem dX2_pieceCount_6 : decode cX2_pieceCount 6 = .ok (.istore_n 2, 1) := by decide +kernel
theorem dX2_pieceCount_7 : decode cX2_pieceCount 7 = .ok (.iconst 0, 1) := by decide +kernel
theorem dX2_pieceCount_8 : decode cX2_pieceCount 8 = .ok (.istore_n 3, 1) := by decide +kernel
theorem dX2_pieceCount_9 : decode cX2_pieceCount 9 = .ok (.iconst 0, 1) := by decide +kernel
set_option maxRecDepth 20000 in
theorem ggX11_count_X2_all : GoodIn wsX11_count wsX2_all := goodIn_r _ [22, 10, 96, 97, 98] rfl (by decide +kernel)
set_option maxRecDepth 20000 in
theorem gX11_count_X2_all : GoodIn wsX11_count (wsV RX11 128 RX2 yX2_all wsX2_all) := goodIn_app (goodIn_of _ (by decide +kernel)) ggX11_count_X2_all
set_option maxRecDepth 20000 in
theorem ggX11_count_X2_lineCount : GoodIn wsX11_count wsX2_lineCount := goodIn_r _ [9, 10, 11, 12, 13, 14, 15, 16, 17, 18, 96, 97, 98] rfl (by decide +kernel)
set_option maxRecDepth 20000 in
theorem gX11_count_X2_lineCount : GoodIn wsX11_count (wsV RX11 124 RX2 yX2_lineCount wsX2_lineCount) := goodIn_app (goodIn_of _ (by decide +kernel)) ggX11_count_X2_lineCount
set_option maxRecDepth 20000 in
theorem ggX11_count_X2_pieceCount : GoodIn wsX11_count wsX2_pieceCount := goodIn_r _ [69, 11, 70, 20, 21, 8, 22, 10, 71, 72, 73, 74, 75, 14, 76, 77, 78, 79, 50, 96, 97, 98] rfl (by decide +kernel)
set_option maxRecDepth 20000 in
theorem gX11_count_X2_pieceCount : GoodIn wsX11_count (wsV RX11 137 RX2 yX2_pieceCount wsX2_pieceCount) := goodIn_app (goodIn_of _ (by decide +kernel)) ggX11_count_X2_pieceCount
set_option maxRecDepth 20000 in
theorem ggX11_count_X3_best : GoodIn wsX11_count wsX3_best := goodIn_r _ [27, 28, 29, 30, 26, 31, 32, 33, 34, 35, 36, 37, 38, 39, 40, 41, 42, 43, 44, 45, 46, 47, 48, 14, 49, 50, 51, 52, 53, 54, 55, 56, 13, 15, 16, 17, 18, 57, 58, 59, 60, 102, 103, 104, 105, 96, 97, 98, 106, 107] rfl (by decide +kernel)
set_option maxRecDepth 20000 in
theorem gX11_count_X3_best : GoodIn wsX11_count (wsV RX11 131 RX3 yX3_best wsX3_best) := goodIn_app (goodIn_of _ (by decide +kernel)) ggX11_count_X3_best
set_option maxRecDepth 20000 in
theorem ggX11_count_X3_lack : GoodIn wsX11_count wsX3_lack := goodIn_r _ [64, 56, 13, 14, 15, 16, 17, 18, 65, 24, 25, 26, 27, 28, 29, 30, 31, 32, 33, 34, 35, 36, 37, 38, 39, 40, 41, 42, 43, 44, 45, 46, 47, 48, 49, 50, 51, 52, 53, 54, 55, 57, 58, 59, 60, 102, 103, 104, 105, 96, 97, 98, 106, 107] rfl (by decide +kernel)
set_option maxRecDepth 20000 in
theorem gX11_count_X3_lack : GoodIn wsX11_count (wsV RX11 134 RX3 yX3_lack wsX3_lack) := goodIn_app (goodIn_of _ (by decide +kernel)) ggX11_count_X3_lack
theorem dX11_count_0 : decode cX11_count 0 = .ok (.iload_n 1, 1) := by decide +kernel
theorem dX11_count_1 : decode cX11_count 1 = .ok (.tableswitch 120 0 6 #[43, 51, 59, 74, 89, 104, 112], 43) := by decide +kernel
theorem dX11_count_101 : decode cX11_count 101 = .ok (.invokevirtual 137, 3) := by decide +kernel
theorem dX11_count_104 : decode cX11_count 104 = .ok (.ireturn, 1) := by decide +kernel
theorem dX11_count_105 : decode cX11_count 105 = .ok (.aload_n 0, 1) := by decide +kernel
theorem dX11_count_106 : decode cX11_count 106 = .ok (.getfield 60, 3) := by decide +kernel
theorem dX11_count_109 : decode cX11_count 109 = .ok (.getfield 140, 3) := by decide +kernel
theorem dX11_count_112 : decode cX11_count 112 = .ok (.ireturn, 1) := by decide +kernel
theorem dX11_count_113 : decode cX11_count 113 = .ok (.aload_n 0, 1) := by decide +kernel
theorem dX11_count_114 : decode cX11_count 114 = .ok (.getfield 53, 3) := by decide +kernel
theorem dX11_count_117 : decode cX11_count 117 = .ok (.getfield 141, 3) := by decide +kernel
theorem dX11_count_120 : decode cX11_count 120 = .ok (.ireturn, 1) := by decide +kernel
theorem dX11_count_121 : decode cX11_count 121 = .ok (.bipush (-2), 2) := by decide +kernel
theorem dX11_count_123 : decode cX11_count 123 = .ok (.ireturn, 1) := by decide +kernel
theorem dX11_count_44 : decode cX11_count 44 = .ok (.aload_n 0, 1) := by decide +kernel
theorem dX11_count_45 : decode cX11_count 45 = .ok (.getfield 12, 3) := by decide +kernel
theorem dX11_count_48 : decode cX11_count 48 = .ok (.getfield 97, 3) := by decide +kernel
theorem dX11_count_51 : decode cX11_count 51 = .ok (.ireturn, 1) := by decide +kernel
theorem dX11_count_52 : decode cX11_count 52 = .ok (.aload_n 0, 1) := by decide +kernel
theorem dX11_count_53 : decode cX11_count 53 = .ok (.getfield 12, 3) := by decide +kernel
theorem dX11_count_56 : decode cX11_count 56 = .ok (.invokevirtual 124, 3) := by decide +kernel
theorem dX11_count_59 : decode cX11_count 59 = .ok (.ireturn, 1) := by decide +kernel
theorem dX11_count_60 : decode cX11_count 60 = .ok (.aload_n 0, 1) := by decide +kernel
theorem dX11_count_61 : decode cX11_count 61 = .ok (.getfield 21, 3) := by decide +kernel
theorem dX11_count_64 : decode cX11_count 64 = .ok (.aload_n 0, 1) := by decide +kernel
theorem dX11_count_65 : decode cX11_count 65 = .ok (.getfield 12, 3) := by decide +kernel
theorem dX11_count_68 : decode cX11_count 68 = .ok (.invokevirtual 128, 3) := by decide +kernel
theorem dX11_count_71 : decode cX11_count 71 = .ok (.invokevirtual 131, 3) := by decide +kernel
theorem dX11_count_74 : decode cX11_count 74 = .ok (.ireturn, 1) := by decide +kernel
theorem dX11_count_75 : decode cX11_count 75 = .ok (.aload_n 0, 1) := by decide +kernel
theorem dX11_count_76 : decode cX11_count 76 = .ok (.getfield 21, 3) := by decide +kernel
theorem dX11_count_79 : decode cX11_count 79 = .ok (.aload_n 0, 1) := by decide +kernel
theorem dX11_count_80 : decode cX11_count 80 = .ok (.getfield 12, 3) := by decide +kernel
theorem dX11_count_83 : decode cX11_count 83 = .ok (.invokevirtual 128, 3) := by decide +kernel
theorem dX11_count_86 : decode cX11_count 86 = .ok (.invokevirtual 134, 3) := by decide +kernel
theorem dX11_count_89 : decode cX11_count 89 = .ok (.ireturn, 1) := by decide +kernel
theorem dX11_count_90 : decode cX11_count 90 = .ok (.aload_n 0, 1) := by decide +kernel
theorem dX11_count_91 : decode cX11_count 91 = .ok (.getfield 12, 3) := by decide +kernel
theorem dX11_count_94 : decode cX11_count 94 = .ok (.aload_n 0, 1) := by decide +kernel
theorem dX11_count_95 : decode cX11_count 95 = .ok (.getfield 12, 3) := by decide +kernel
theorem dX11_count_98 : decode cX11_count 98 = .ok (.invokevirtual 128, 3) := by decide +kernel
set_option maxRecDepth 20000 in
theorem ggX2_hasAll_X2_all : GoodIn wsX2_hasAll wsX2_all := goodIn_r _ [5, 6, 7, 8, 9] rfl (by decide +kernel)
set_option maxRecDepth 20000 in
theorem gX2_hasAll_X2_all : GoodIn wsX2_hasAll (wsV RX2 19 RX2 yX2_all wsX2_all) := goodIn_app (goodIn_of _ (by decide +kernel)) ggX2_hasAll_X2_all
theorem dX2_hasAll_0 : decode cX2_hasAll 0 = .ok (.iload_n 1, 1) := by decide +kernel
theorem dX2_hasAll_1 : decode cX2_hasAll 1 = .ok (.aload_n 0, 1) := by decide +kernel
theorem dX2_hasAll_11 : decode cX2_hasAll 11 = .ok (.iconst 1, 1) := by decide +kernel
theorem dX2_hasAll_12 : decode cX2_hasAll 12 = .ok (.goto 4, 3) := by decide +kernel
theorem dX2_hasAll_15 : decode cX2_hasAll 15 = .ok (.iconst 0, 1) := by decide +kernel
theorem dX2_hasAll_16 : decode cX2_hasAll 16 = .ok (.ireturn, 1) := by decide +kernel
theorem dX2_hasAll_2 : decode cX2_hasAll 2 = .ok (.invokevirtual 19, 3) := by decide +kernel
theorem dX2_hasAll_5 : decode cX2_hasAll 5 = .ok (.iconst (-1), 1) := by decide +kernel
theorem dX2_hasAll_6 : decode cX2_hasAll 6 = .ok (.ixor, 1) := by decide +kernel
theorem dX2_hasAll_7 : decode cX2_hasAll 7 = .ok (.iand, 1) := by decide +kernel
theorem dX2_hasAll_8 : decode cX2_hasAll 8 = .ok (.ifCond .ne 7, 3) := by decide +kernel
set_option maxRecDepth 20000 in
theorem ggX11_most_X2_hasAll : GoodIn wsX11_most wsX2_hasAll := goodIn_r _ [7, 8, 9, 10, 6, 11, 12, 73, 74, 75] rfl (by decide +kernel)
set_option maxRecDepth 20000 in
theorem gX11_most_X2_hasAll : GoodIn wsX11_most (wsV RX11 144 RX2 yX2_hasAll wsX2_hasAll) := goodIn_app (goodIn_of _ (by decide +kernel)) ggX11_most_X2_hasAll
set_option maxRecDepth 20000 in
theorem ggX11_most_X3_best : GoodIn wsX11_most wsX3_best := goodIn_r _ [17, 18, 19, 20, 16, 21, 22, 23, 24, 25, 26, 27, 28, 29, 30, 31, 32, 33, 34, 35, 36, 37, 38, 39, 40, 41, 42, 43, 44, 45, 46, 47, 48, 49, 50, 51, 52, 53, 54, 55, 56, 76, 77, 78, 79, 73, 74, 75, 80, 81] rfl (by decide +kernel)
set_option maxRecDepth 20000 in
theorem gX11_most_X3_best : GoodIn wsX11_most (wsV RX11 131 RX3 yX3_best wsX3_best) := goodIn_app (goodIn_of _ (by decide +kernel)) ggX11_most_X3_best
theorem dX11_most_0 : decode cX11_most 0 = .ok (.aload_n 0, 1) := by decide +kernel
theorem dX11_most_1 : decode cX11_most 1 = .ok (.getfield 12, 3) := by decide +kernel
theorem dX11_most_11 : decode cX11_most 11 = .ok (.aload_n 0, 1) := by decide +kernel
theorem dX11_most_12 : decode cX11_most 12 = .ok (.getfield 21, 3) := by decide +kernel
theorem dX11_most_15 : decode cX11_most 15 = .ok (.iload_n 1, 1) := by decide +kernel
theorem dX11_most_16 : decode cX11_most 16 = .ok (.invokevirtual 131, 3) := by decide +kernel
theorem dX11_most_19 : decode cX11_most 19 = .ok (.goto 5, 3) := by decide +kernel
theorem dX11_most_22 : decode cX11_most 22 = .ok (.bipush (-2), 2) := by decide +kernel
theorem dX11_most_24 : decode cX11_most 24 = .ok (.ireturn, 1) := by decide +kernel
theorem dX11_most_4 : decode cX11_most 4 = .ok (.iload_n 1, 1) := by decide +kernel
theorem dX11_most_5 : decode cX11_most 5 = .ok (.invokevirtual 144, 3) := by decide +kernel
theorem dX11_most_8 : decode cX11_most 8 = .ok (.ifCond .eq 14, 3) := by decide +kernel
set_option maxRecDepth 20000 in
theorem ggX11_mate_X2_hasPoint : GoodIn wsX11_mate wsX2_hasPoint := goodIn_r _ [7, 8, 98, 99, 100] rfl (by decide +kernel)
set_option maxRecDepth 20000 in
theorem gX11_mate_X2_hasPoint : GoodIn wsX11_mate (wsV RX11 116 RX2 yX2_hasPoint wsX2_hasPoint) := goodIn_app (goodIn_of _ (by decide +kernel)) ggX11_mate_X2_hasPoint
theorem dX11_mate_0 : decode cX11_mate 0 = .ok (.aload_n 0, 1) := by decide +kernel
theorem dX11_mate_1 : decode cX11_mate 1 = .ok (.getfield 12, 3) := by decide +kernel
theorem dX11_mate_11 : decode cX11_mate 11 = .ok (.bipush (-2), 2) := by decide +kernel
theorem dX11_mate_13 : decode cX11_mate 13 = .ok (.ireturn, 1) := by decide +kernel
theorem dX11_mate_4 : decode cX11_mate 4 = .ok (.iload_n 1, 1) := by decide +kernel
theorem dX11_mate_5 : decode cX11_mate 5 = .ok (.invokevirtual 116, 3) := by decide +kernel
theorem dX11_mate_8 : decode cX11_mate 8 = .ok (.ifCond .ne 6, 3) := by decide +kernel
theorem dX1_isBlank_0 : decode cX1_isBlank 0 = .ok (.aload_n 0, 1) := by decide +kernel
theorem dX1_isBlank_1 : decode cX1_isBlank 1 = .ok (.getfield 21, 3) := by decide +kernel
theorem dX1_isBlank_13 : decode cX1_isBlank 13 = .ok (.ireturn, 1) := by decide +kernel
theorem dX1_isBlank_4 : decode cX1_isBlank 4 = .ok (.arraylength, 1) := by decide +kernel
theorem dX1_isBlank_5 : decode cX1_isBlank 5 = .ok (.ifCond .ne 7, 3) := by decide +kernel
theorem dX1_isBlank_8 : decode cX1_isBlank 8 = .ok (.iconst 1, 1) := by decide +kernel
theorem dX1_isBlank_9 : decode cX1_isBlank 9 = .ok (.goto 4, 3) := by decide +kernel
theorem dX3_numberOf_0 : decode cX3_numberOf 0 = .ok (.iload_n 2, 1) := by decide +kernel
theorem dX3_numberOf_1 : decode cX3_numberOf 1 = .ok (.ifCond .ne 5, 3) := by decide +kernel
theorem dX3_numberOf_4 : decode cX3_numberOf 4 = .ok (.iconst 1, 1) := by decide +kernel
theorem dX3_numberOf_5 : decode cX3_numberOf 5 = .ok (.ireturn, 1) := by decide +kernel
set_option maxRecDepth 20000 in
theorem ggX3_numberOf_J6_bitCount_0f7a4 : GoodIn wsX3_numberOf wsJ6_bitCount_0f7a4 := goodIn_r _ [10, 11, 12, 13] rfl (by decide +kernel)
set_option maxRecDepth 20000 in
theorem gX3_numberOf_J6_bitCount_0f7a4 : GoodIn wsX3_numberOf (va_wsS RX3 46 yJ6_bitCount_0f7a4 wsJ6_bitCount_0f7a4) := goodIn_app (goodIn_of _ (by decide +kernel)) ggX3_numberOf_J6_bitCount_0f7a4
set_option maxRecDepth 20000 in
theorem ggX3_numberOf_J6_numberOfLeadingZeros_0f7a4 : GoodIn wsX3_numberOf wsJ6_numberOfLeadingZeros_0f7a4 := goodIn_r _ [6, 7] rfl (by decide +kernel)
set_option maxRecDepth 20000 in
theorem gX3_numberOf_J6_numberOfLeadingZeros_0f7a4 : GoodIn wsX3_numberOf (va_wsS RX3 55 yJ6_numberOfLeadingZeros_0f7a4 wsJ6_numberOfLeadingZeros_0f7a4) := goodIn_app (goodIn_of _ (by decide +kernel)) ggX3_numberOf_J6_numberOfLeadingZeros_0f7a4
theorem dX3_numberOf_12 : decode cX3_numberOf 12 = .ok (.isub, 1) := by decide +kernel
theorem dX3_numberOf_13 : decode cX3_numberOf 13 = .ok (.istore 4, 2) := by decide +kernel
theorem dX3_numberOf_15 : decode cX3_numberOf 15 = .ok (.iload_n 2, 1) := by decide +kernel
theorem dX3_numberOf_16 : decode cX3_numberOf 16 = .ok (.ifCond .lt 26, 3) := by decide +kernel
theorem dX3_numberOf_19 : decode cX3_numberOf 19 = .ok (.iconst 2, 1) := by decide +kernel
theorem dX3_numberOf_20 : decode cX3_numberOf 20 = .ok (.iload_n 2, 1) := by decide +kernel
theorem dX3_numberOf_21 : decode cX3_numberOf 21 = .ok (.imul, 1) := by decide +kernel
theorem dX3_numberOf_22 : decode cX3_numberOf 22 = .ok (.iload_n 1, 1) := by decide +kernel
theorem dX3_numberOf_23 : decode cX3_numberOf 23 = .ok (.invokestatic 46, 3) := by decide +kernel
theorem dX3_numberOf_26 : decode cX3_numberOf 26 = .ok (.if_icmp .gt 16, 3) := by decide +kernel
theorem dX3_numberOf_42 : decode cX3_numberOf 42 = .ok (.iconst 0, 1) := by decide +kernel
theorem dX3_numberOf_43 : decode cX3_numberOf 43 = .ok (.ireturn, 1) := by decide +kernel
theorem dX3_numberOf_6 : decode cX3_numberOf 6 = .ok (.bipush 31, 2) := by decide +kernel
theorem dX3_numberOf_8 : decode cX3_numberOf 8 = .ok (.iload_n 1, 1) := by decide +kernel
theorem dX3_numberOf_9 : decode cX3_numberOf 9 = .ok (.invokestatic 55, 3) := by decide +kernel
set_option maxRecDepth 20000 in
theorem ggX11_mark_X2_hasPoint : GoodIn wsX11_mark wsX2_hasPoint := goodIn_r _ [7, 8, 90, 91, 92] rfl (by decide +kernel)
set_option maxRecDepth 20000 in
theorem gX11_mark_X2_hasPoint : GoodIn wsX11_mark (wsV RX11 116 RX2 yX2_hasPoint wsX2_hasPoint) := goodIn_app (goodIn_of _ (by decide +kernel)) ggX11_mark_X2_hasPoint
theorem dX11_mark_0 : decode cX11_mark 0 = .ok (.aload_n 0, 1) := by decide +kernel
theorem dX11_mark_1 : decode cX11_mark 1 = .ok (.getfield 12, 3) := by decide +kernel
theorem dX11_mark_22 : decode cX11_mark 22 = .ok (.bipush (-2), 2) := by decide +kernel
theorem dX11_mark_24 : decode cX11_mark 24 = .ok (.ireturn, 1) := by decide +kernel
theorem dX11_mark_4 : decode cX11_mark 4 = .ok (.iload_n 1, 1) := by decide +kernel
theorem dX11_mark_5 : decode cX11_mark 5 = .ok (.invokevirtual 116, 3) := by decide +kernel
theorem dX11_mark_8 : decode cX11_mark 8 = .ok (.ifCond .eq 14, 3) := by decide +kernel
set_option maxRecDepth 20000 in
theorem ggX3_loosePoints_X2_all : GoodIn wsX3_loosePoints wsX2_all := goodIn_r _ [6, 7, 55, 56, 57] rfl (by decide +kernel)
set_option maxRecDepth 20000 in
theorem gX3_loosePoints_X2_all : GoodIn wsX3_loosePoints (wsV RX3 77 RX2 yX2_all wsX2_all) := goodIn_app (goodIn_of _ (by decide +kernel)) ggX3_loosePoints_X2_all
set_option maxRecDepth 20000 in
theorem ggX3_loosePoints_X3_best : GoodIn wsX3_loosePoints wsX3_best := goodIn_r _ [12, 13, 14, 15, 11, 16, 17, 1, 18, 19, 20, 21, 22, 23, 24, 25, 26, 27, 28, 29, 30, 31, 32, 33, 34, 35, 36, 37, 38, 39, 40, 41, 42, 43, 44, 45, 46, 47, 48, 49, 50, 51, 52, 53, 54, 55, 56, 57, 58, 59] rfl (by decide +kernel)
set_option maxRecDepth 20000 in
theorem gX3_loosePoints_X3_best : GoodIn wsX3_loosePoints (wsV RX3 52 RX3 yX3_best wsX3_best) := goodIn_app (goodIn_of _ (by decide +kernel)) ggX3_loosePoints_X3_best
theorem dX3_loosePoints_0 : decode cX3_loosePoints 0 = .ok (.aload_n 0, 1) := by decide +kernel
theorem dX3_loosePoints_1 : decode cX3_loosePoints 1 = .ok (.aload_n 0, 1) := by decide +kernel
theorem dX3_loosePoints_11 : decode cX3_loosePoints 11 = .ok (.istore_n 1, 1) := by decide +kernel
theorem dX3_loosePoints_12 : decode cX3_loosePoints 12 = .ok (.iconst 0, 1) := by decide +kernel
theorem dX3_loosePoints_13 : decode cX3_loosePoints 13 = .ok (.istore_n 2, 1) := by decide +kernel
theorem dX3_loosePoints_14 : decode cX3_loosePoints 14 = .ok (.iconst 0, 1) := by decide +kernel
theorem dX3_loosePoints_15 : decode cX3_loosePoints 15 = .ok (.istore_n 3, 1) := by decide +kernel
theorem dX3_loosePoints_16 : decode cX3_loosePoints 16 = .ok (.iload_n 3, 1) := by decide +kernel
theorem dX3_loosePoints_17 : decode cX3_loosePoints 17 = .ok (.aload_n 0, 1) := by decide +kernel
theorem dX3_loosePoints_18 : decode cX3_loosePoints 18 = .ok (.getfield 23, 3) := by decide +kernel
theorem dX3_loosePoints_2 : decode cX3_loosePoints 2 = .ok (.getfield 23, 3) := by decide +kernel
theorem dX3_loosePoints_21 : decode cX3_loosePoints 21 = .ok (.getfield 81, 3) := by decide +kernel
theorem dX3_loosePoints_24 : decode cX3_loosePoints 24 = .ok (.if_icmp .ge 36, 3) := by decide +kernel
theorem dX3_loosePoints_5 : decode cX3_loosePoints 5 = .ok (.invokevirtual 77, 3) := by decide +kernel
theorem dX3_loosePoints_60 : decode cX3_loosePoints 60 = .ok (.iload_n 2, 1) := by decide +kernel
theorem dX3_loosePoints_61 : decode cX3_loosePoints 61 = .ok (.ireturn, 1) := by decide +kernel
theorem dX3_loosePoints_8 : decode cX3_loosePoints 8 = .ok (.invokevirtual 52, 3) := by decide +kernel
theorem dX2_nearAny_0 : decode cX2_nearAny 0 = .ok (.iconst 0, 1) := by decide +kernel
theorem dX2_nearAny_1 : decode cX2_nearAny 1 = .ok (.istore_n 2, 1) := by decide +kernel
theorem dX2_nearAny_2 : decode cX2_nearAny 2 = .ok (.iconst 0, 1) := by decide +kernel
theorem dX2_nearAny_3 : decode cX2_nearAny 3 = .ok (.istore_n 3, 1) := by decide +kernel
theorem dX2_nearAny_35 : decode cX2_nearAny 35 = .ok (.iload_n 2, 1) := by decide +kernel
theorem dX2_nearAny_36 : decode cX2_nearAny 36 = .ok (.ireturn, 1) := by decide +kernel
theorem dX2_nearAny_4 : decode cX2_nearAny 4 = .ok (.iload_n 3, 1) := by decide +kernel
theorem dX2_nearAny_5 : decode cX2_nearAny 5 = .ok (.aload_n 0, 1) := by decide +kernel
theorem dX2_nearAny_6 : decode cX2_nearAny 6 = .ok (.getfield 15, 3) := by decide +kernel
theorem dX2_nearAny_9 : decode cX2_nearAny 9 = .ok (.if_icmp .ge 26, 3) := by decide +kernel
set_option maxRecDepth 20000 in
theorem ggX4_allOf_X2_all : GoodIn wsX4_allOf wsX2_all := goodIn_r _ [13, 14, 69, 70, 71] rfl (by decide +kernel)
set_option maxRecDepth 20000 in
theorem gX4_allOf_X2_all : GoodIn wsX4_allOf (wsV RX4 31 RX2 yX2_all wsX2_all) := goodIn_app (goodIn_of _ (by decide +kernel)) ggX4_allOf_X2_all
set_option maxRecDepth 20000 in
theorem ggX4_allOf_X2_nearAny : GoodIn wsX4_allOf wsX2_nearAny := goodIn_r _ [60, 14, 61, 69, 70, 71] rfl (by decide +kernel)
set_option maxRecDepth 20000 in
theorem gX4_allOf_X2_nearAny : GoodIn wsX4_allOf (wsV RX4 25 RX2 yX2_nearAny wsX2_nearAny) := goodIn_app (goodIn_of _ (by decide +kernel)) ggX4_allOf_X2_nearAny
set_option maxRecDepth 20000 in
theorem ggX4_allOf_X3_loosePoints : GoodIn wsX4_allOf wsX3_loosePoints := goodIn_r _ [7, 8, 9, 10, 11, 12, 13, 14, 15, 16, 17, 6, 18, 19, 20, 21, 22, 23, 24, 25, 26, 27, 28, 29, 30, 31, 32, 33, 34, 35, 36, 37, 38, 39, 40, 41, 42, 43, 44, 45, 46, 47, 48, 49, 50, 51, 52, 53, 54, 55, 56, 65, 66, 67, 68, 69, 70, 71, 72, 73] rfl (by decide +kernel)
set_option maxRecDepth 20000 in
theorem gX4_allOf_X3_loosePoints : GoodIn wsX4_allOf (wsV RX4 19 RX3 yX3_loosePoints wsX3_loosePoints) := goodIn_app (goodIn_of _ (by decide +kernel)) ggX4_allOf_X3_loosePoints
theorem dX4_allOf_0 : decode cX4_allOf 0 = .ok (.aload_n 0, 1) := by decide +kernel
theorem dX4_allOf_1 : decode cX4_allOf 1 = .ok (.getfield 15, 3) := by decide +kernel
theorem dX4_allOf_12 : decode cX4_allOf 12 = .ok (.iload_n 2, 1) := by decide +kernel
theorem dX4_allOf_13 : decode cX4_allOf 13 = .ok (.invokevirtual 25, 3) := by decide +kernel
theorem dX4_allOf_16 : decode cX4_allOf 16 = .ok (.iload_n 2, 1) := by decide +kernel
theorem dX4_allOf_17 : decode cX4_allOf 17 = .ok (.iconst (-1), 1) := by decide +kernel
theorem dX4_allOf_18 : decode cX4_allOf 18 = .ok (.ixor, 1) := by decide +kernel
theorem dX4_allOf_19 : decode cX4_allOf 19 = .ok (.iand, 1) := by decide +kernel
theorem dX4_allOf_20 : decode cX4_allOf 20 = .ok (.istore_n 3, 1) := by decide +kernel
theorem dX4_allOf_21 : decode cX4_allOf 21 = .ok (.iload_n 1, 1) := by decide +kernel
theorem dX4_allOf_22 : decode cX4_allOf 22 = .ok (.ifCond .ne 5, 3) := by decide +kernel
theorem dX4_allOf_25 : decode cX4_allOf 25 = .ok (.iload_n 2, 1) := by decide +kernel
theorem dX4_allOf_26 : decode cX4_allOf 26 = .ok (.ireturn, 1) := by decide +kernel
theorem dX4_allOf_27 : decode cX4_allOf 27 = .ok (.iload_n 1, 1) := by decide +kernel
theorem dX4_allOf_28 : decode cX4_allOf 28 = .ok (.iconst 1, 1) := by decide +kernel
theorem dX4_allOf_29 : decode cX4_allOf 29 = .ok (.if_icmp .ne 7, 3) := by decide +kernel
theorem dX4_allOf_32 : decode cX4_allOf 32 = .ok (.iload_n 3, 1) := by decide +kernel
theorem dX4_allOf_33 : decode cX4_allOf 33 = .ok (.goto 16, 3) := by decide +kernel
theorem dX4_allOf_36 : decode cX4_allOf 36 = .ok (.aload_n 0, 1) := by decide +kernel
theorem dX4_allOf_37 : decode cX4_allOf 37 = .ok (.getfield 9, 3) := by decide +kernel
theorem dX4_allOf_4 : decode cX4_allOf 4 = .ok (.invokevirtual 19, 3) := by decide +kernel
theorem dX4_allOf_40 : decode cX4_allOf 40 = .ok (.invokevirtual 31, 3) := by decide +kernel
theorem dX4_allOf_43 : decode cX4_allOf 43 = .ok (.iload_n 2, 1) := by decide +kernel
theorem dX4_allOf_44 : decode cX4_allOf 44 = .ok (.iload_n 3, 1) := by decide +kernel
theorem dX4_allOf_45 : decode cX4_allOf 45 = .ok (.ior, 1) := by decide +kernel
theorem dX4_allOf_46 : decode cX4_allOf 46 = .ok (.iconst (-1), 1) := by decide +kernel
theorem dX4_allOf_47 : decode cX4_allOf 47 = .ok (.ixor, 1) := by decide +kernel
theorem dX4_allOf_48 : decode cX4_allOf 48 = .ok (.iand, 1) := by decide +kernel
theorem dX4_allOf_49 : decode cX4_allOf 49 = .ok (.ireturn, 1) := by decide +kernel
theorem dX4_allOf_7 : decode cX4_allOf 7 = .ok (.istore_n 2, 1) := by decide +kernel
theorem dX4_allOf_8 : decode cX4_allOf 8 = .ok (.aload_n 0, 1) := by decide +kernel
theorem dX4_allOf_9 : decode cX4_allOf 9 = .ok (.getfield 9, 3) := by decide +kernel
set_option maxRecDepth 20000 in
theorem ggX11_marked_X4_allOf : GoodIn wsX11_marked wsX4_allOf := goodIn_r _ [6, 7, 8, 9, 10, 11, 12, 13, 14, 15, 16, 17, 18, 19, 20, 21, 22, 23, 24, 25, 26, 27, 28, 29, 30, 31, 32, 33, 34, 35, 36, 37, 38, 39, 40, 41, 42, 43, 44, 45, 46, 47, 48, 49, 50, 51, 52, 53, 54, 55, 56, 57, 58, 59, 60, 61, 62, 63, 64, 65, 66, 67, 68, 85, 86, 87, 88, 89, 90, 91, 92, 93, 94, 95] rfl (by decide +kernel)
set_option maxRecDepth 20000 in
theorem gX11_marked_X4_allOf : GoodIn wsX11_marked (wsV RX11 163 RX4 yX4_allOf wsX4_allOf) := goodIn_app (goodIn_of _ (by decide +kernel)) ggX11_marked_X4_allOf
theorem dX11_marked_0 : decode cX11_marked 0 = .ok (.iload_n 1, 1) := by decide +kernel
theorem dX11_marked_1 : decode cX11_marked 1 = .ok (.ifCond .lt 8, 3) := by decide +kernel
theorem dX11_marked_11 : decode cX11_marked 11 = .ok (.goto 11, 3) := by decide +kernel
theorem dX11_marked_14 : decode cX11_marked 14 = .ok (.aload_n 0, 1) := by decide +kernel
theorem dX11_marked_15 : decode cX11_marked 15 = .ok (.getfield 30, 3) := by decide +kernel
theorem dX11_marked_18 : decode cX11_marked 18 = .ok (.iload_n 1, 1) := by decide +kernel
theorem dX11_marked_19 : decode cX11_marked 19 = .ok (.invokevirtual 163, 3) := by decide +kernel
theorem dX11_marked_22 : decode cX11_marked 22 = .ok (.ireturn, 1) := by decide +kernel
theorem dX11_marked_4 : decode cX11_marked 4 = .ok (.iload_n 1, 1) := by decide +kernel
theorem dX11_marked_5 : decode cX11_marked 5 = .ok (.iconst 2, 1) := by decide +kernel
theorem dX11_marked_6 : decode cX11_marked 6 = .ok (.if_icmp .le 8, 3) := by decide +kernel
theorem dX11_marked_9 : decode cX11_marked 9 = .ok (.bipush (-2), 2) := by decide +kernel
theorem dX11_markOfPieces_0 : decode cX11_markOfPieces 0 = .ok (.iload_n 0, 1) := by decide +kernel
theorem dX11_markOfPieces_1 : decode cX11_markOfPieces 1 = .ok (.ifCond .ne 7, 3) := by decide +kernel
theorem dX11_markOfPieces_4 : decode cX11_markOfPieces 4 = .ok (.iconst 0, 1) := by decide +kernel
theorem dX11_markOfPieces_5 : decode cX11_markOfPieces 5 = .ok (.goto 4, 3) := by decide +kernel
theorem dX11_markOfPieces_9 : decode cX11_markOfPieces 9 = .ok (.ireturn, 1) := by decide +kernel
theorem dX11_markOfPieces_8 : decode cX11_markOfPieces 8 = .ok (.iconst 2, 1) := by decide +kernel
set_option maxRecDepth 20000 in
theorem ggX11_pieces_X11_markOfPieces : GoodIn wsX11_pieces wsX11_markOfPieces := goodIn_r _ [6] rfl (by decide +kernel)
set_option maxRecDepth 20000 in
theorem gX11_pieces_X11_markOfPieces : GoodIn wsX11_pieces (va_wsS RX11 166 yX11_markOfPieces wsX11_markOfPieces) := goodIn_app (goodIn_of _ (by decide +kernel)) ggX11_pieces_X11_markOfPieces
set_option maxRecDepth 20000 in
theorem ggX11_pieces_X2_pieceCount : GoodIn wsX11_pieces wsX2_pieceCount := goodIn_r _ [77, 72, 78, 21, 22, 23, 24, 25, 79, 80, 81, 82, 83, 50, 84, 85, 86, 87, 52, 110, 111, 112] rfl (by decide +kernel)
set_option maxRecDepth 20000 in
theorem gX11_pieces_X2_pieceCount : GoodIn wsX11_pieces (wsV RX11 137 RX2 yX2_pieceCount wsX2_pieceCount) := goodIn_app (goodIn_of _ (by decide +kernel)) ggX11_pieces_X2_pieceCount
set_option maxRecDepth 20000 in
theorem ggX11_pieces_X4_allOf : GoodIn wsX11_pieces wsX4_allOf := goodIn_r _ [11, 12, 13, 14, 15, 16, 17, 18, 19, 20, 21, 22, 23, 24, 25, 26, 27, 28, 29, 30, 31, 32, 33, 34, 35, 36, 37, 38, 39, 40, 41, 42, 43, 44, 45, 46, 47, 48, 49, 50, 51, 52, 53, 54, 55, 56, 57, 58, 59, 60, 61, 62, 63, 64, 65, 66, 67, 68, 69, 70, 71, 72, 73, 104, 105, 106, 107, 108, 109, 110, 111, 112, 113, 114] rfl (by decide +kernel)
set_option maxRecDepth 20000 in
theorem gX11_pieces_X4_allOf : GoodIn wsX11_pieces (wsV RX11 163 RX4 yX4_allOf wsX4_allOf) := goodIn_app (goodIn_of _ (by decide +kernel)) ggX11_pieces_X4_allOf
theorem dX11_pieces_0 : decode cX11_pieces 0 = .ok (.iload_n 1, 1) := by decide +kernel
theorem dX11_pieces_1 : decode cX11_pieces 1 = .ok (.ifCond .eq 11, 3) := by decide +kernel
theorem dX11_pieces_11 : decode cX11_pieces 11 = .ok (.ireturn, 1) := by decide +kernel
theorem dX11_pieces_12 : decode cX11_pieces 12 = .ok (.aload_n 0, 1) := by decide +kernel
theorem dX11_pieces_13 : decode cX11_pieces 13 = .ok (.getfield 12, 3) := by decide +kernel
theorem dX11_pieces_16 : decode cX11_pieces 16 = .ok (.aload_n 0, 1) := by decide +kernel
theorem dX11_pieces_17 : decode cX11_pieces 17 = .ok (.getfield 30, 3) := by decide +kernel
theorem dX11_pieces_20 : decode cX11_pieces 20 = .ok (.iload_n 1, 1) := by decide +kernel
theorem dX11_pieces_21 : decode cX11_pieces 21 = .ok (.invokestatic 166, 3) := by decide +kernel
theorem dX11_pieces_24 : decode cX11_pieces 24 = .ok (.invokevirtual 163, 3) := by decide +kernel
theorem dX11_pieces_27 : decode cX11_pieces 27 = .ok (.invokevirtual 137, 3) := by decide +kernel
theorem dX11_pieces_30 : decode cX11_pieces 30 = .ok (.ireturn, 1) := by decide +kernel
theorem dX11_pieces_4 : decode cX11_pieces 4 = .ok (.iload_n 1, 1) := by decide +kernel
theorem dX11_pieces_5 : decode cX11_pieces 5 = .ok (.iconst 1, 1) := by decide +kernel
theorem dX11_pieces_6 : decode cX11_pieces 6 = .ok (.if_icmp .eq 6, 3) := by decide +kernel
theorem dX11_pieces_9 : decode cX11_pieces 9 = .ok (.bipush (-2), 2) := by decide +kernel
set_option maxRecDepth 20000 in
theorem ggX2_pieceAt_X2_all : GoodIn wsX2_pieceAt wsX2_all := goodIn_r _ [6, 7, 19, 20, 21] rfl (by decide +kernel)
set_option maxRecDepth 20000 in
theorem gX2_pieceAt_X2_all : GoodIn wsX2_pieceAt (wsV RX2 19 RX2 yX2_all wsX2_all) := goodIn_app (goodIn_of _ (by decide +kernel)) ggX2_pieceAt_X2_all
theorem dX2_pieceAt_0 : decode cX2_pieceAt 0 = .ok (.iload_n 1, 1) := by decide +kernel
theorem dX2_pieceAt_1 : decode cX2_pieceAt 1 = .ok (.aload_n 0, 1) := by decide +kernel
theorem dX2_pieceAt_10 : decode cX2_pieceAt 10 = .ok (.iload 4, 2) := by decide +kernel
theorem dX2_pieceAt_12 : decode cX2_pieceAt 12 = .ok (.bipush 12, 2) := by decide +kernel
theorem dX2_pieceAt_14 : decode cX2_pieceAt 14 = .ok (.if_icmp .ge 39, 3) := by decide +kernel
theorem dX2_pieceAt_17 : decode cX2_pieceAt 17 = .ok (.iload_n 3, 1) := by decide +kernel
theorem dX2_pieceAt_18 : decode cX2_pieceAt 18 = .ok (.ifCond .eq 35, 3) := by decide +kernel
theorem dX2_pieceAt_2 : decode cX2_pieceAt 2 = .ok (.invokevirtual 19, 3) := by decide +kernel
theorem dX2_pieceAt_5 : decode cX2_pieceAt 5 = .ok (.iand, 1) := by decide +kernel
theorem dX2_pieceAt_53 : decode cX2_pieceAt 53 = .ok (.iconst 0, 1) := by decide +kernel
theorem dX2_pieceAt_54 : decode cX2_pieceAt 54 = .ok (.ireturn, 1) := by decide +kernel
theorem dX2_pieceAt_6 : decode cX2_pieceAt 6 = .ok (.istore_n 3, 1) := by decide +kernel
theorem dX2_pieceAt_7 : decode cX2_pieceAt 7 = .ok (.iconst 0, 1) := by decide +kernel
theorem dX2_pieceAt_8 : decode cX2_pieceAt 8 = .ok (.istore 4, 2) := by decide +kernel
set_option maxRecDepth 20000 in
theorem ggX11_piece_X11_markOfPieces : GoodIn wsX11_piece wsX11_markOfPieces := goodIn_r _ [6] rfl (by decide +kernel)
set_option maxRecDepth 20000 in
theorem gX11_piece_X11_markOfPieces : GoodIn wsX11_piece (va_wsS RX11 166 yX11_markOfPieces wsX11_markOfPieces) := goodIn_app (goodIn_of _ (by decide +kernel)) ggX11_piece_X11_markOfPieces
set_option maxRecDepth 20000 in
theorem ggX11_piece_X2_pieceAt : GoodIn wsX11_piece wsX2_pieceAt := goodIn_r _ [77, 72, 78, 21, 22, 23, 24, 25, 79, 80, 81, 82, 83, 50, 84, 85, 86, 87, 52, 111, 112, 113] rfl (by decide +kernel)
set_option maxRecDepth 20000 in
theorem gX11_piece_X2_pieceAt : GoodIn wsX11_piece (wsV RX11 169 RX2 yX2_pieceAt wsX2_pieceAt) := goodIn_app (goodIn_of _ (by decide +kernel)) ggX11_piece_X2_pieceAt
set_option maxRecDepth 20000 in
theorem ggX11_piece_X4_allOf : GoodIn wsX11_piece wsX4_allOf := goodIn_r _ [11, 12, 13, 14, 15, 16, 17, 18, 19, 20, 21, 22, 23, 24, 25, 26, 27, 28, 29, 30, 31, 32, 33, 34, 35, 36, 37, 38, 39, 40, 41, 42, 43, 44, 45, 46, 47, 48, 49, 50, 51, 52, 53, 54, 55, 56, 57, 58, 59, 60, 61, 62, 63, 64, 65, 66, 67, 68, 69, 70, 71, 72, 73, 105, 106, 107, 108, 109, 110, 111, 112, 113, 114, 115] rfl (by decide +kernel)
set_option maxRecDepth 20000 in
theorem gX11_piece_X4_allOf : GoodIn wsX11_piece (wsV RX11 163 RX4 yX4_allOf wsX4_allOf) := goodIn_app (goodIn_of _ (by decide +kernel)) ggX11_piece_X4_allOf
theorem dX11_piece_0 : decode cX11_piece 0 = .ok (.iload_n 1, 1) := by decide +kernel
theorem dX11_piece_1 : decode cX11_piece 1 = .ok (.ifCond .eq 8, 3) := by decide +kernel
theorem dX11_piece_10 : decode cX11_piece 10 = .ok (.ifCond .eq 11, 3) := by decide +kernel
theorem dX11_piece_13 : decode cX11_piece 13 = .ok (.iload_n 3, 1) := by decide +kernel
theorem dX11_piece_14 : decode cX11_piece 14 = .ok (.iconst 1, 1) := by decide +kernel
theorem dX11_piece_15 : decode cX11_piece 15 = .ok (.if_icmp .eq 6, 3) := by decide +kernel
theorem dX11_piece_18 : decode cX11_piece 18 = .ok (.bipush (-2), 2) := by decide +kernel
theorem dX11_piece_20 : decode cX11_piece 20 = .ok (.ireturn, 1) := by decide +kernel
theorem dX11_piece_21 : decode cX11_piece 21 = .ok (.aload_n 0, 1) := by decide +kernel
theorem dX11_piece_22 : decode cX11_piece 22 = .ok (.getfield 12, 3) := by decide +kernel
theorem dX11_piece_25 : decode cX11_piece 25 = .ok (.aload_n 0, 1) := by decide +kernel
theorem dX11_piece_26 : decode cX11_piece 26 = .ok (.getfield 30, 3) := by decide +kernel
theorem dX11_piece_29 : decode cX11_piece 29 = .ok (.iload_n 1, 1) := by decide +kernel
theorem dX11_piece_30 : decode cX11_piece 30 = .ok (.invokestatic 166, 3) := by decide +kernel
theorem dX11_piece_33 : decode cX11_piece 33 = .ok (.invokevirtual 163, 3) := by decide +kernel
theorem dX11_piece_36 : decode cX11_piece 36 = .ok (.iload_n 2, 1) := by decide +kernel
theorem dX11_piece_37 : decode cX11_piece 37 = .ok (.invokevirtual 169, 3) := by decide +kernel
theorem dX11_piece_4 : decode cX11_piece 4 = .ok (.iload_n 1, 1) := by decide +kernel
theorem dX11_piece_40 : decode cX11_piece 40 = .ok (.istore 4, 2) := by decide +kernel
theorem dX11_piece_42 : decode cX11_piece 42 = .ok (.iload 4, 2) := by decide +kernel
theorem dX11_piece_44 : decode cX11_piece 44 = .ok (.ifCond .ne 5, 3) := by decide +kernel
theorem dX11_piece_47 : decode cX11_piece 47 = .ok (.iconst (-1), 1) := by decide +kernel
theorem dX11_piece_48 : decode cX11_piece 48 = .ok (.ireturn, 1) := by decide +kernel
theorem dX11_piece_5 : decode cX11_piece 5 = .ok (.iconst 1, 1) := by decide +kernel
theorem dX11_piece_6 : decode cX11_piece 6 = .ok (.if_icmp .ne 12, 3) := by decide +kernel
theorem dX11_piece_9 : decode cX11_piece 9 = .ok (.iload_n 3, 1) := by decide +kernel
set_option maxRecDepth 20000 in
theorem ggX4_surplusOf_J6_bitCount_0f7a4 : GoodIn wsX4_surplusOf wsJ6_bitCount_0f7a4 := goodIn_r _ [54, 55, 56, 57] rfl (by decide +kernel)
set_option maxRecDepth 20000 in
theorem gX4_surplusOf_J6_bitCount_0f7a4 : GoodIn wsX4_surplusOf (va_wsS RX4 37 yJ6_bitCount_0f7a4 wsJ6_bitCount_0f7a4) := goodIn_app (goodIn_of _ (by decide +kernel)) ggX4_surplusOf_J6_bitCount_0f7a4
set_option maxRecDepth 20000 in
theorem ggX4_surplusOf_X2_nearAny : GoodIn wsX4_surplusOf wsX2_nearAny := goodIn_r _ [7, 8, 9, 74, 75, 76] rfl (by decide +kernel)
set_option maxRecDepth 20000 in
theorem gX4_surplusOf_X2_nearAny : GoodIn wsX4_surplusOf (wsV RX4 25 RX2 yX2_nearAny wsX2_nearAny) := goodIn_app (goodIn_of _ (by decide +kernel)) ggX4_surplusOf_X2_nearAny
set_option maxRecDepth 20000 in
theorem ggX4_surplusOf_X3_loosePoints : GoodIn wsX4_surplusOf wsX3_loosePoints := goodIn_r _ [14, 15, 16, 17, 18, 6, 19, 8, 20, 21, 22, 13, 23, 24, 25, 26, 27, 28, 29, 30, 31, 32, 33, 34, 35, 36, 37, 38, 39, 40, 41, 42, 43, 44, 45, 46, 47, 48, 49, 50, 51, 52, 53, 54, 55, 56, 57, 58, 59, 60, 61, 77, 78, 79, 80, 74, 75, 76, 81, 82] rfl (by decide +kernel)
set_option maxRecDepth 20000 in
theorem gX4_surplusOf_X3_loosePoints : GoodIn wsX4_surplusOf (wsV RX4 19 RX3 yX3_loosePoints wsX3_loosePoints) := goodIn_app (goodIn_of _ (by decide +kernel)) ggX4_surplusOf_X3_loosePoints
theorem dX4_surplusOf_0 : decode cX4_surplusOf 0 = .ok (.aload_n 0, 1) := by decide +kernel
theorem dX4_surplusOf_1 : decode cX4_surplusOf 1 = .ok (.getfield 9, 3) := by decide +kernel
theorem dX4_surplusOf_10 : decode cX4_surplusOf 10 = .ok (.getfield 15, 3) := by decide +kernel
theorem dX4_surplusOf_13 : decode cX4_surplusOf 13 = .ok (.invokevirtual 19, 3) := by decide +kernel
theorem dX4_surplusOf_16 : decode cX4_surplusOf 16 = .ok (.istore_n 3, 1) := by decide +kernel
theorem dX4_surplusOf_17 : decode cX4_surplusOf 17 = .ok (.iload_n 1, 1) := by decide +kernel
theorem dX4_surplusOf_18 : decode cX4_surplusOf 18 = .ok (.invokestatic 37, 3) := by decide +kernel
theorem dX4_surplusOf_21 : decode cX4_surplusOf 21 = .ok (.ineg, 1) := by decide +kernel
theorem dX4_surplusOf_22 : decode cX4_surplusOf 22 = .ok (.istore 4, 2) := by decide +kernel
theorem dX4_surplusOf_24 : decode cX4_surplusOf 24 = .ok (.iconst 0, 1) := by decide +kernel
theorem dX4_surplusOf_25 : decode cX4_surplusOf 25 = .ok (.istore 5, 2) := by decide +kernel
theorem dX4_surplusOf_27 : decode cX4_surplusOf 27 = .ok (.iload 5, 2) := by decide +kernel
theorem dX4_surplusOf_29 : decode cX4_surplusOf 29 = .ok (.bipush 12, 2) := by decide +kernel
theorem dX4_surplusOf_31 : decode cX4_surplusOf 31 = .ok (.if_icmp .ge 43, 3) := by decide +kernel
theorem dX4_surplusOf_34 : decode cX4_surplusOf 34 = .ok (.iload_n 3, 1) := by decide +kernel
theorem dX4_surplusOf_35 : decode cX4_surplusOf 35 = .ok (.ifCond .eq 39, 3) := by decide +kernel
theorem dX4_surplusOf_4 : decode cX4_surplusOf 4 = .ok (.iload_n 1, 1) := by decide +kernel
theorem dX4_surplusOf_5 : decode cX4_surplusOf 5 = .ok (.invokevirtual 25, 3) := by decide +kernel
theorem dX4_surplusOf_74 : decode cX4_surplusOf 74 = .ok (.iload 4, 2) := by decide +kernel
theorem dX4_surplusOf_76 : decode cX4_surplusOf 76 = .ok (.ireturn, 1) := by decide +kernel
theorem dX4_surplusOf_8 : decode cX4_surplusOf 8 = .ok (.istore_n 2, 1) := by decide +kernel
theorem dX4_surplusOf_9 : decode cX4_surplusOf 9 = .ok (.aload_n 0, 1) := by decide +kernel
set_option maxRecDepth 20000 in
theorem ggX11_surplus_X4_allOf : GoodIn wsX11_surplus wsX4_allOf := goodIn_r _ [6, 7, 8, 9, 10, 11, 12, 13, 14, 15, 16, 17, 18, 19, 20, 21, 22, 23, 24, 25, 26, 27, 28, 29, 30, 31, 32, 33, 34, 35, 36, 37, 38, 39, 40, 41, 42, 43, 44, 45, 46, 47, 48, 49, 50, 51, 52, 53, 54, 55, 56, 57, 58, 59, 60, 61, 62, 63, 64, 65, 66, 67, 68, 99, 100, 101, 102, 103, 104, 105, 106, 107, 108, 109] rfl (by decide +kernel)
set_option maxRecDepth 20000 in
theorem gX11_surplus_X4_allOf : GoodIn wsX11_surplus (wsV RX11 163 RX4 yX4_allOf wsX4_allOf) := goodIn_app (goodIn_of _ (by decide +kernel)) ggX11_surplus_X4_allOf
set_option maxRecDepth 20000 in
theorem ggX11_surplus_X4_surplusOf : GoodIn wsX11_surplus wsX4_surplusOf := goodIn_r _ [72, 8, 7, 63, 64, 65, 18, 66, 20, 67, 9, 10, 11, 12, 13, 14, 15, 16, 17, 19, 21, 22, 23, 24, 25, 26, 27, 28, 29, 30, 31, 32, 33, 34, 35, 36, 37, 38, 39, 40, 41, 42, 43, 44, 45, 46, 47, 48, 49, 50, 51, 52, 53, 54, 55, 56, 57, 58, 59, 60, 61, 62, 73, 74, 75, 76, 77, 78, 79, 80, 81, 82, 99, 100, 105, 106, 107, 101, 102, 103, 104, 108, 109] rfl (by decide +kernel)
set_option maxRecDepth 20000 in
theorem gX11_surplus_X4_surplusOf : GoodIn wsX11_surplus (wsV RX11 175 RX4 yX4_surplusOf wsX4_surplusOf) := goodIn_app (goodIn_of _ (by decide +kernel)) ggX11_surplus_X4_surplusOf
theorem dX11_surplus_0 : decode cX11_surplus 0 = .ok (.iload_n 1, 1) := by decide +kernel
theorem dX11_surplus_1 : decode cX11_surplus 1 = .ok (.aload_n 0, 1) := by decide +kernel
theorem dX11_surplus_10 : decode cX11_surplus 10 = .ok (.ixor, 1) := by decide +kernel
theorem dX11_surplus_11 : decode cX11_surplus 11 = .ok (.iand, 1) := by decide +kernel
theorem dX11_surplus_12 : decode cX11_surplus 12 = .ok (.ifCond .eq 8, 3) := by decide +kernel
theorem dX11_surplus_15 : decode cX11_surplus 15 = .ok (.bipush (-2), 2) := by decide +kernel
theorem dX11_surplus_17 : decode cX11_surplus 17 = .ok (.goto 11, 3) := by decide +kernel
theorem dX11_surplus_2 : decode cX11_surplus 2 = .ok (.getfield 30, 3) := by decide +kernel
theorem dX11_surplus_20 : decode cX11_surplus 20 = .ok (.aload_n 0, 1) := by decide +kernel
theorem dX11_surplus_21 : decode cX11_surplus 21 = .ok (.getfield 30, 3) := by decide +kernel
theorem dX11_surplus_24 : decode cX11_surplus 24 = .ok (.iload_n 1, 1) := by decide +kernel
theorem dX11_surplus_25 : decode cX11_surplus 25 = .ok (.invokevirtual 175, 3) := by decide +kernel
theorem dX11_surplus_28 : decode cX11_surplus 28 = .ok (.ireturn, 1) := by decide +kernel
theorem dX11_surplus_5 : decode cX11_surplus 5 = .ok (.iconst 1, 1) := by decide +kernel
theorem dX11_surplus_6 : decode cX11_surplus 6 = .ok (.invokevirtual 163, 3) := by decide +kernel
theorem dX11_surplus_9 : decode cX11_surplus 9 = .ok (.iconst (-1), 1) := by decide +kernel
set_option maxRecDepth 20000 in
theorem ggX2_oddPieceCount_X2_all : GoodIn wsX2_oddPieceCount wsX2_all := goodIn_r _ [6, 7, 25, 26, 27] rfl (by decide +kernel)
set_option maxRecDepth 20000 in
theorem gX2_oddPieceCount_X2_all : GoodIn wsX2_oddPieceCount (wsV RX2 19 RX2 yX2_all wsX2_all) := goodIn_app (goodIn_of _ (by decide +kernel)) ggX2_oddPieceCount_X2_all
theorem dX2_oddPieceCount_0 : decode cX2_oddPieceCount 0 = .ok (.iload_n 1, 1) := by decide +kernel
theorem dX2_oddPieceCount_1 : decode cX2_oddPieceCount 1 = .ok (.aload_n 0, 1) := by decide +kernel
theorem dX2_oddPieceCount_10 : decode cX2_oddPieceCount 10 = .ok (.istore 4, 2) := by decide +kernel
theorem dX2_oddPieceCount_12 : decode cX2_oddPieceCount 12 = .ok (.iload 4, 2) := by decide +kernel
theorem dX2_oddPieceCount_14 : decode cX2_oddPieceCount 14 = .ok (.bipush 12, 2) := by decide +kernel
theorem dX2_oddPieceCount_16 : decode cX2_oddPieceCount 16 = .ok (.if_icmp .ge 40, 3) := by decide +kernel
theorem dX2_oddPieceCount_19 : decode cX2_oddPieceCount 19 = .ok (.iload_n 2, 1) := by decide +kernel
theorem dX2_oddPieceCount_2 : decode cX2_oddPieceCount 2 = .ok (.invokevirtual 19, 3) := by decide +kernel
theorem dX2_oddPieceCount_20 : decode cX2_oddPieceCount 20 = .ok (.ifCond .eq 36, 3) := by decide +kernel
theorem dX2_oddPieceCount_5 : decode cX2_oddPieceCount 5 = .ok (.iand, 1) := by decide +kernel
theorem dX2_oddPieceCount_56 : decode cX2_oddPieceCount 56 = .ok (.iload_n 3, 1) := by decide +kernel
theorem dX2_oddPieceCount_57 : decode cX2_oddPieceCount 57 = .ok (.ireturn, 1) := by decide +kernel
theorem dX2_oddPieceCount_6 : decode cX2_oddPieceCount 6 = .ok (.istore_n 2, 1) := by decide +kernel
theorem dX2_oddPieceCount_7 : decode cX2_oddPieceCount 7 = .ok (.iconst 0, 1) := by decide +kernel
theorem dX2_oddPieceCount_8 : decode cX2_oddPieceCount 8 = .ok (.istore_n 3, 1) := by decide +kernel
theorem dX2_oddPieceCount_9 : decode cX2_oddPieceCount 9 = .ok (.iconst 0, 1) := by decide +kernel
set_option maxRecDepth 20000 in
theorem ggX10_oddWithout_X2_all : GoodIn wsX10_oddWithout wsX2_all := goodIn_r _ [6, 7, 39, 40, 41] rfl (by decide +kernel)
set_option maxRecDepth 20000 in
theorem gX10_oddWithout_X2_all : GoodIn wsX10_oddWithout (wsV RX10 27 RX2 yX2_all wsX2_all) := goodIn_app (goodIn_of _ (by decide +kernel)) ggX10_oddWithout_X2_all
set_option maxRecDepth 20000 in
theorem ggX10_oddWithout_X2_oddPieceCount : GoodIn wsX10_oddWithout wsX2_oddPieceCount := goodIn_r _ [11, 12, 13, 3, 4, 5, 6, 7, 14, 15, 16, 17, 18, 19, 20, 21, 22, 23, 24, 25, 26, 27, 28, 29, 30, 39, 40, 41] rfl (by decide +kernel)
set_option maxRecDepth 20000 in
theorem gX10_oddWithout_X2_oddPieceCount : GoodIn wsX10_oddWithout (wsV RX10 33 RX2 yX2_oddPieceCount wsX2_oddPieceCount) := goodIn_app (goodIn_of _ (by decide +kernel)) ggX10_oddWithout_X2_oddPieceCount
theorem dX10_oddWithout_0 : decode cX10_oddWithout 0 = .ok (.aload_n 0, 1) := by decide +kernel
theorem dX10_oddWithout_1 : decode cX10_oddWithout 1 = .ok (.getfield 19, 3) := by decide +kernel
theorem dX10_oddWithout_11 : decode cX10_oddWithout 11 = .ok (.iload_n 1, 1) := by decide +kernel
theorem dX10_oddWithout_12 : decode cX10_oddWithout 12 = .ok (.iconst (-1), 1) := by decide +kernel
theorem dX10_oddWithout_13 : decode cX10_oddWithout 13 = .ok (.ixor, 1) := by decide +kernel
theorem dX10_oddWithout_14 : decode cX10_oddWithout 14 = .ok (.iand, 1) := by decide +kernel
theorem dX10_oddWithout_15 : decode cX10_oddWithout 15 = .ok (.invokevirtual 33, 3) := by decide +kernel
theorem dX10_oddWithout_18 : decode cX10_oddWithout 18 = .ok (.ireturn, 1) := by decide +kernel
theorem dX10_oddWithout_4 : decode cX10_oddWithout 4 = .ok (.aload_n 0, 1) := by decide +kernel
theorem dX10_oddWithout_5 : decode cX10_oddWithout 5 = .ok (.getfield 19, 3) := by decide +kernel
theorem dX10_oddWithout_8 : decode cX10_oddWithout 8 = .ok (.invokevirtual 27, 3) := by decide +kernel
set_option maxRecDepth 20000 in
theorem ggX11_odd_X10_oddWithout : GoodIn wsX11_odd wsX10_oddWithout := goodIn_r _ [17, 18, 19, 9, 10, 6, 11, 12, 20, 21, 22, 23, 24, 8, 25, 26, 27, 28, 29, 30, 31, 32, 33, 34, 35, 36, 37, 38, 39, 40, 41, 61, 62, 63, 64, 65, 66, 67, 68, 58, 59, 60] rfl (by decide +kernel)
set_option maxRecDepth 20000 in
theorem gX11_odd_X10_oddWithout : GoodIn wsX11_odd (wsV RX11 178 RX10 yX10_oddWithout wsX10_oddWithout) := goodIn_app (goodIn_of _ (by decide +kernel)) ggX11_odd_X10_oddWithout
set_option maxRecDepth 20000 in
theorem ggX11_odd_X2_hasAll : GoodIn wsX11_odd wsX2_hasAll := goodIn_r _ [7, 8, 9, 10, 6, 11, 12, 58, 59, 60] rfl (by decide +kernel)
set_option maxRecDepth 20000 in
theorem gX11_odd_X2_hasAll : GoodIn wsX11_odd (wsV RX11 144 RX2 yX2_hasAll wsX2_hasAll) := goodIn_app (goodIn_of _ (by decide +kernel)) ggX11_odd_X2_hasAll
theorem dX11_odd_0 : decode cX11_odd 0 = .ok (.aload_n 0, 1) := by decide +kernel
theorem dX11_odd_1 : decode cX11_odd 1 = .ok (.getfield 12, 3) := by decide +kernel
theorem dX11_odd_11 : decode cX11_odd 11 = .ok (.aload_n 0, 1) := by decide +kernel
theorem dX11_odd_12 : decode cX11_odd 12 = .ok (.getfield 37, 3) := by decide +kernel
theorem dX11_odd_15 : decode cX11_odd 15 = .ok (.iload_n 1, 1) := by decide +kernel
theorem dX11_odd_16 : decode cX11_odd 16 = .ok (.invokevirtual 178, 3) := by decide +kernel
theorem dX11_odd_19 : decode cX11_odd 19 = .ok (.goto 5, 3) := by decide +kernel
theorem dX11_odd_22 : decode cX11_odd 22 = .ok (.bipush (-2), 2) := by decide +kernel
theorem dX11_odd_24 : decode cX11_odd 24 = .ok (.ireturn, 1) := by decide +kernel
theorem dX11_odd_4 : decode cX11_odd 4 = .ok (.iload_n 1, 1) := by decide +kernel
theorem dX11_odd_5 : decode cX11_odd 5 = .ok (.invokevirtual 144, 3) := by decide +kernel
theorem dX11_odd_8 : decode cX11_odd 8 = .ok (.ifCond .eq 14, 3) := by decide +kernel
set_option maxRecDepth 20000 in
theorem ggX10_isBarrier_J6_bitCount_0f7a4 : GoodIn wsX10_isBarrier wsJ6_bitCount_0f7a4 := goodIn_r _ [33, 34, 35, 36] rfl (by decide +kernel)
set_option maxRecDepth 20000 in
theorem gX10_isBarrier_J6_bitCount_0f7a4 : GoodIn wsX10_isBarrier (va_wsS RX10 40 yJ6_bitCount_0f7a4 wsJ6_bitCount_0f7a4) := goodIn_app (goodIn_of _ (by decide +kernel)) ggX10_isBarrier_J6_bitCount_0f7a4
set_option maxRecDepth 20000 in
theorem ggX10_isBarrier_X10_oddWithout : GoodIn wsX10_isBarrier wsX10_oddWithout := goodIn_r _ [7, 2, 8, 9, 10, 11, 12, 13, 14, 15, 16, 17, 18, 19, 20, 21, 22, 23, 24, 25, 26, 27, 28, 29, 30, 31, 32, 33, 34, 35, 36, 79, 80, 81, 82, 83, 84, 85, 86, 87, 88, 89] rfl (by decide +kernel)
set_option maxRecDepth 20000 in
theorem gX10_isBarrier_X10_oddWithout : GoodIn wsX10_isBarrier (wsV RX10 37 RX10 yX10_oddWithout wsX10_oddWithout) := goodIn_app (goodIn_of _ (by decide +kernel)) ggX10_isBarrier_X10_oddWithout
set_option maxRecDepth 20000 in
theorem ggX10_isBarrier_X2_all : GoodIn wsX10_isBarrier wsX2_all := goodIn_r _ [12, 13, 87, 88, 89] rfl (by decide +kernel)
set_option maxRecDepth 20000 in
theorem gX10_isBarrier_X2_all : GoodIn wsX10_isBarrier (wsV RX10 27 RX2 yX2_all wsX2_all) := goodIn_app (goodIn_of _ (by decide +kernel)) ggX10_isBarrier_X2_all
set_option maxRecDepth 20000 in
theorem ggX10_isBarrier_X3_lack : GoodIn wsX10_isBarrier wsX3_lack := goodIn_r _ [42, 43, 32, 25, 33, 34, 35, 36, 44, 45, 46, 41, 47, 48, 49, 50, 51, 52, 53, 54, 55, 56, 57, 58, 59, 60, 61, 62, 63, 64, 65, 66, 67, 68, 69, 30, 70, 71, 72, 73, 74, 75, 76, 77, 78, 90, 91, 92, 93, 87, 88, 89, 94, 95] rfl (by decide +kernel)
set_option maxRecDepth 20000 in
theorem gX10_isBarrier_X3_lack : GoodIn wsX10_isBarrier (wsV RX10 45 RX3 yX3_lack wsX3_lack) := goodIn_app (goodIn_of _ (by decide +kernel)) ggX10_isBarrier_X3_lack
theorem dX10_isBarrier_0 : decode cX10_isBarrier 0 = .ok (.aload_n 0, 1) := by decide +kernel
theorem dX10_isBarrier_1 : decode cX10_isBarrier 1 = .ok (.iload_n 1, 1) := by decide +kernel
theorem dX10_isBarrier_10 : decode cX10_isBarrier 10 = .ok (.aload_n 0, 1) := by decide +kernel
theorem dX10_isBarrier_11 : decode cX10_isBarrier 11 = .ok (.getfield 23, 3) := by decide +kernel
theorem dX10_isBarrier_14 : decode cX10_isBarrier 14 = .ok (.aload_n 0, 1) := by decide +kernel
theorem dX10_isBarrier_15 : decode cX10_isBarrier 15 = .ok (.getfield 19, 3) := by decide +kernel
theorem dX10_isBarrier_18 : decode cX10_isBarrier 18 = .ok (.invokevirtual 27, 3) := by decide +kernel
theorem dX10_isBarrier_2 : decode cX10_isBarrier 2 = .ok (.invokevirtual 37, 3) := by decide +kernel
theorem dX10_isBarrier_21 : decode cX10_isBarrier 21 = .ok (.invokevirtual 45, 3) := by decide +kernel
theorem dX10_isBarrier_24 : decode cX10_isBarrier 24 = .ok (.if_icmp .ne 7, 3) := by decide +kernel
theorem dX10_isBarrier_27 : decode cX10_isBarrier 27 = .ok (.iconst 1, 1) := by decide +kernel
theorem dX10_isBarrier_28 : decode cX10_isBarrier 28 = .ok (.goto 4, 3) := by decide +kernel
theorem dX10_isBarrier_32 : decode cX10_isBarrier 32 = .ok (.ireturn, 1) := by decide +kernel
theorem dX10_isBarrier_5 : decode cX10_isBarrier 5 = .ok (.iload_n 1, 1) := by decide +kernel
theorem dX10_isBarrier_6 : decode cX10_isBarrier 6 = .ok (.invokestatic 40, 3) := by decide +kernel
theorem dX10_isBarrier_9 : decode cX10_isBarrier 9 = .ok (.isub, 1) := by decide +kernel
set_option maxRecDepth 20000 in
theorem ggX11_barrier_X10_isBarrier : GoodIn wsX11_barrier wsX10_isBarrier := goodIn_r _ [17, 18, 19, 20, 21, 22, 16, 23, 24, 9, 10, 6, 11, 12, 25, 26, 27, 28, 29, 8, 30, 31, 32, 33, 34, 35, 36, 37, 38, 39, 40, 41, 42, 43, 44, 45, 46, 47, 48, 49, 50, 51, 52, 53, 54, 55, 56, 57, 58, 59, 60, 61, 62, 63, 64, 65, 66, 67, 68, 69, 70, 71, 72, 73, 74, 75, 76, 77, 78, 79, 80, 81, 82, 83, 84, 85, 86, 87, 88, 108, 109, 110, 111, 112, 113, 114, 115, 105, 106, 107, 116, 117, 118, 119, 120, 121] rfl (by decide +kernel)
set_option maxRecDepth 20000 in
theorem gX11_barrier_X10_isBarrier : GoodIn wsX11_barrier (wsV RX11 181 RX10 yX10_isBarrier wsX10_isBarrier) := goodIn_app (goodIn_of _ (by decide +kernel)) ggX11_barrier_X10_isBarrier
set_option maxRecDepth 20000 in
theorem ggX11_barrier_X2_hasAll : GoodIn wsX11_barrier wsX2_hasAll := goodIn_r _ [7, 8, 9, 10, 6, 11, 12, 105, 106, 107] rfl (by decide +kernel)
set_option maxRecDepth 20000 in
theorem gX11_barrier_X2_hasAll : GoodIn wsX11_barrier (wsV RX11 144 RX2 yX2_hasAll wsX2_hasAll) := goodIn_app (goodIn_of _ (by decide +kernel)) ggX11_barrier_X2_hasAll
theorem dX11_barrier_0 : decode cX11_barrier 0 = .ok (.aload_n 0, 1) := by decide +kernel
theorem dX11_barrier_1 : decode cX11_barrier 1 = .ok (.getfield 12, 3) := by decide +kernel
theorem dX11_barrier_11 : decode cX11_barrier 11 = .ok (.bipush (-2), 2) := by decide +kernel
theorem dX11_barrier_13 : decode cX11_barrier 13 = .ok (.ireturn, 1) := by decide +kernel
theorem dX11_barrier_14 : decode cX11_barrier 14 = .ok (.aload_n 0, 1) := by decide +kernel
theorem dX11_barrier_15 : decode cX11_barrier 15 = .ok (.getfield 37, 3) := by decide +kernel
theorem dX11_barrier_18 : decode cX11_barrier 18 = .ok (.iload_n 1, 1) := by decide +kernel
theorem dX11_barrier_19 : decode cX11_barrier 19 = .ok (.invokevirtual 181, 3) := by decide +kernel
theorem dX11_barrier_22 : decode cX11_barrier 22 = .ok (.ifCond .eq 7, 3) := by decide +kernel
theorem dX11_barrier_25 : decode cX11_barrier 25 = .ok (.iconst 1, 1) := by decide +kernel
theorem dX11_barrier_26 : decode cX11_barrier 26 = .ok (.goto 4, 3) := by decide +kernel
theorem dX11_barrier_30 : decode cX11_barrier 30 = .ok (.ireturn, 1) := by decide +kernel
theorem dX11_barrier_4 : decode cX11_barrier 4 = .ok (.iload_n 1, 1) := by decide +kernel
theorem dX11_barrier_5 : decode cX11_barrier 5 = .ok (.invokevirtual 144, 3) := by decide +kernel
theorem dX11_barrier_8 : decode cX11_barrier 8 = .ok (.ifCond .ne 6, 3) := by decide +kernel
theorem dX10_noteBarrier_0 : decode cX10_noteBarrier 0 = .ok (.aload_n 0, 1) := by decide +kernel
theorem dX10_noteBarrier_1 : decode cX10_noteBarrier 1 = .ok (.getfield 56, 3) := by decide +kernel
theorem dX10_noteBarrier_21 : decode cX10_noteBarrier 21 = .ok (.aload_n 0, 1) := by decide +kernel
theorem dX10_noteBarrier_22 : decode cX10_noteBarrier 22 = .ok (.iload_n 1, 1) := by decide +kernel
theorem dX10_noteBarrier_23 : decode cX10_noteBarrier 23 = .ok (.putfield 59, 3) := by decide +kernel
theorem dX10_noteBarrier_26 : decode cX10_noteBarrier 26 = .ok (.aload_n 0, 1) := by decide +kernel
theorem dX10_noteBarrier_27 : decode cX10_noteBarrier 27 = .ok (.dup, 1) := by decide +kernel
theorem dX10_noteBarrier_28 : decode cX10_noteBarrier 28 = .ok (.getfield 62, 3) := by decide +kernel
theorem dX10_noteBarrier_31 : decode cX10_noteBarrier 31 = .ok (.iload_n 1, 1) := by decide +kernel
theorem dX10_noteBarrier_32 : decode cX10_noteBarrier 32 = .ok (.iand, 1) := by decide +kernel
theorem dX10_noteBarrier_33 : decode cX10_noteBarrier 33 = .ok (.putfield 62, 3) := by decide +kernel
theorem dX10_noteBarrier_36 : decode cX10_noteBarrier 36 = .ok (.aload_n 0, 1) := by decide +kernel
theorem dX10_noteBarrier_37 : decode cX10_noteBarrier 37 = .ok (.dup, 1) := by decide +kernel
theorem dX10_noteBarrier_38 : decode cX10_noteBarrier 38 = .ok (.getfield 56, 3) := by decide +kernel
theorem dX10_noteBarrier_4 : decode cX10_noteBarrier 4 = .ok (.ifCond .eq 17, 3) := by decide +kernel
theorem dX10_noteBarrier_41 : decode cX10_noteBarrier 41 = .ok (.iconst 1, 1) := by decide +kernel
theorem dX10_noteBarrier_42 : decode cX10_noteBarrier 42 = .ok (.iadd, 1) := by decide +kernel
theorem dX10_noteBarrier_43 : decode cX10_noteBarrier 43 = .ok (.putfield 56, 3) := by decide +kernel
theorem dX10_noteBarrier_46 : decode cX10_noteBarrier 46 = .ok (.return_, 1) := by decide +kernel
set_option maxRecDepth 20000 in
theorem ggX10_seekBarriers_J6_bitCount_0f7a4 : GoodIn wsX10_seekBarriers wsJ6_bitCount_0f7a4 := goodIn_r _ [54, 55, 56, 57] rfl (by decide +kernel)
set_option maxRecDepth 20000 in
theorem gX10_seekBarriers_J6_bitCount_0f7a4 : GoodIn wsX10_seekBarriers (va_wsS RX10 40 yJ6_bitCount_0f7a4 wsJ6_bitCount_0f7a4) := goodIn_app (goodIn_of _ (by decide +kernel)) ggX10_seekBarriers_J6_bitCount_0f7a4
set_option maxRecDepth 20000 in
theorem ggX10_seekBarriers_X10_noteBarrier : GoodIn wsX10_seekBarriers wsX10_noteBarrier := goodIn_r _ [91, 4, 5, 6, 66, 53, 44, 54, 55, 56, 57, 92, 93, 94, 95, 96, 97, 98, 99] rfl (by decide +kernel)
set_option maxRecDepth 20000 in
theorem gX10_seekBarriers_X10_noteBarrier : GoodIn wsX10_seekBarriers (wsV RX10 68 RX10 yX10_noteBarrier wsX10_noteBarrier) := goodIn_app (goodIn_of _ (by decide +kernel)) ggX10_seekBarriers_X10_noteBarrier
set_option maxRecDepth 20000 in
theorem ggX10_seekBarriers_X10_oddWithout : GoodIn wsX10_seekBarriers wsX10_oddWithout := goodIn_r _ [71, 2, 7, 8, 9, 10, 11, 12, 72, 73, 74, 75, 76, 77, 78, 79, 80, 81, 82, 44, 83, 84, 85, 86, 46, 87, 53, 54, 55, 56, 57, 92, 93, 94, 95, 96, 97, 98, 99, 100, 101, 102] rfl (by decide +kernel)
set_option maxRecDepth 20000 in
theorem gX10_seekBarriers_X10_oddWithout : GoodIn wsX10_seekBarriers (wsV RX10 37 RX10 yX10_oddWithout wsX10_oddWithout) := goodIn_app (goodIn_of _ (by decide +kernel)) ggX10_seekBarriers_X10_oddWithout
set_option maxRecDepth 20000 in
theorem ggX10_seekBarriers_X2_all : GoodIn wsX10_seekBarriers wsX2_all := goodIn_r _ [11, 12, 100, 101, 102] rfl (by decide +kernel)
set_option maxRecDepth 20000 in
theorem gX10_seekBarriers_X2_all : GoodIn wsX10_seekBarriers (wsV RX10 27 RX2 yX2_all wsX2_all) := goodIn_app (goodIn_of _ (by decide +kernel)) ggX10_seekBarriers_X2_all
set_option maxRecDepth 20000 in
theorem ggX10_seekBarriers_X3_lack : GoodIn wsX10_seekBarriers wsX3_lack := goodIn_r _ [65, 52, 53, 44, 54, 55, 56, 57, 20, 21, 22, 16, 23, 24, 25, 26, 27, 28, 18, 29, 30, 31, 32, 33, 34, 35, 36, 37, 38, 39, 40, 41, 42, 43, 45, 46, 47, 48, 49, 50, 51, 58, 59, 60, 61, 103, 104, 105, 106, 100, 101, 102, 107, 108] rfl (by decide +kernel)
set_option maxRecDepth 20000 in
theorem gX10_seekBarriers_X3_lack : GoodIn wsX10_seekBarriers (wsV RX10 45 RX3 yX3_lack wsX3_lack) := goodIn_app (goodIn_of _ (by decide +kernel)) ggX10_seekBarriers_X3_lack
set_option maxRecDepth 20000 in
theorem ggX10_seekBarriers_X3_loosePoints : GoodIn wsX10_seekBarriers wsX3_loosePoints := goodIn_r _ [17, 18, 19, 8, 9, 10, 11, 12, 20, 21, 22, 16, 23, 24, 25, 26, 27, 28, 29, 30, 31, 32, 33, 34, 35, 36, 37, 38, 39, 40, 41, 42, 43, 44, 45, 46, 47, 48, 49, 50, 51, 52, 53, 54, 55, 56, 57, 58, 59, 60, 61, 103, 104, 105, 106, 100, 101, 102, 107, 108] rfl (by decide +kernel)
set_option maxRecDepth 20000 in
theorem gX10_seekBarriers_X3_loosePoints : GoodIn wsX10_seekBarriers (wsV RX10 53 RX3 yX3_loosePoints wsX3_loosePoints) := goodIn_app (goodIn_of _ (by decide +kernel)) ggX10_seekBarriers_X3_loosePoints
theorem dX10_seekBarriers_0 : decode cX10_seekBarriers 0 = .ok (.aload_n 0, 1) := by decide +kernel
theorem dX10_seekBarriers_1 : decode cX10_seekBarriers 1 = .ok (.getfield 15, 3) := by decide +kernel
theorem dX10_seekBarriers_101 : decode cX10_seekBarriers 101 = .ok (.iload_n 3, 1) := by decide +kernel
theorem dX10_seekBarriers_102 : decode cX10_seekBarriers 102 = .ok (.invokestatic 40, 3) := by decide +kernel
theorem dX10_seekBarriers_105 : decode cX10_seekBarriers 105 = .ok (.iload 5, 2) := by decide +kernel
theorem dX10_seekBarriers_107 : decode cX10_seekBarriers 107 = .ok (.iadd, 1) := by decide +kernel
theorem dX10_seekBarriers_108 : decode cX10_seekBarriers 108 = .ok (.aload_n 0, 1) := by decide +kernel
theorem dX10_seekBarriers_109 : decode cX10_seekBarriers 109 = .ok (.getfield 19, 3) := by decide +kernel
theorem dX10_seekBarriers_11 : decode cX10_seekBarriers 11 = .ok (.if_icmp .ne 4, 3) := by decide +kernel
theorem dX10_seekBarriers_112 : decode cX10_seekBarriers 112 = .ok (.getfield 65, 3) := by decide +kernel
theorem dX10_seekBarriers_115 : decode cX10_seekBarriers 115 = .ok (.if_icmp .gt 7, 3) := by decide +kernel
theorem dX10_seekBarriers_118 : decode cX10_seekBarriers 118 = .ok (.iconst 1, 1) := by decide +kernel
theorem dX10_seekBarriers_119 : decode cX10_seekBarriers 119 = .ok (.goto 4, 3) := by decide +kernel
theorem dX10_seekBarriers_123 : decode cX10_seekBarriers 123 = .ok (.istore 6, 2) := by decide +kernel
theorem dX10_seekBarriers_125 : decode cX10_seekBarriers 125 = .ok (.iload 6, 2) := by decide +kernel
theorem dX10_seekBarriers_127 : decode cX10_seekBarriers 127 = .ok (.ifCond .eq 18, 3) := by decide +kernel
theorem dX10_seekBarriers_130 : decode cX10_seekBarriers 130 = .ok (.aload_n 0, 1) := by decide +kernel
theorem dX10_seekBarriers_131 : decode cX10_seekBarriers 131 = .ok (.iload_n 3, 1) := by decide +kernel
theorem dX10_seekBarriers_132 : decode cX10_seekBarriers 132 = .ok (.invokevirtual 37, 3) := by decide +kernel
theorem dX10_seekBarriers_135 : decode cX10_seekBarriers 135 = .ok (.iload 5, 2) := by decide +kernel
theorem dX10_seekBarriers_137 : decode cX10_seekBarriers 137 = .ok (.if_icmp .ne 8, 3) := by decide +kernel
theorem dX10_seekBarriers_140 : decode cX10_seekBarriers 140 = .ok (.aload_n 0, 1) := by decide +kernel
theorem dX10_seekBarriers_141 : decode cX10_seekBarriers 141 = .ok (.iload_n 3, 1) := by decide +kernel
theorem dX10_seekBarriers_142 : decode cX10_seekBarriers 142 = .ok (.invokevirtual 68, 3) := by decide +kernel
theorem dX10_seekBarriers_145 : decode cX10_seekBarriers 145 = .ok (.iload_n 3, 1) := by decide +kernel
theorem dX10_seekBarriers_146 : decode cX10_seekBarriers 146 = .ok (.iload_n 1, 1) := by decide +kernel
theorem dX10_seekBarriers_147 : decode cX10_seekBarriers 147 = .ok (.if_icmp .ne 4, 3) := by decide +kernel
theorem dX10_seekBarriers_15 : decode cX10_seekBarriers 15 = .ok (.aload_n 0, 1) := by decide +kernel
theorem dX10_seekBarriers_150 : decode cX10_seekBarriers 150 = .ok (.return_, 1) := by decide +kernel
theorem dX10_seekBarriers_16 : decode cX10_seekBarriers 16 = .ok (.aload_n 0, 1) := by decide +kernel
theorem dX10_seekBarriers_17 : decode cX10_seekBarriers 17 = .ok (.getfield 19, 3) := by decide +kernel
theorem dX10_seekBarriers_20 : decode cX10_seekBarriers 20 = .ok (.getfield 50, 3) := by decide +kernel
theorem dX10_seekBarriers_23 : decode cX10_seekBarriers 23 = .ok (.putfield 15, 3) := by decide +kernel
theorem dX10_seekBarriers_26 : decode cX10_seekBarriers 26 = .ok (.aload_n 0, 1) := by decide +kernel
theorem dX10_seekBarriers_27 : decode cX10_seekBarriers 27 = .ok (.getfield 19, 3) := by decide +kernel
theorem dX10_seekBarriers_30 : decode cX10_seekBarriers 30 = .ok (.invokevirtual 27, 3) := by decide +kernel
theorem dX10_seekBarriers_33 : decode cX10_seekBarriers 33 = .ok (.aload_n 0, 1) := by decide +kernel
theorem dX10_seekBarriers_34 : decode cX10_seekBarriers 34 = .ok (.getfield 23, 3) := by decide +kernel
theorem dX10_seekBarriers_37 : decode cX10_seekBarriers 37 = .ok (.invokevirtual 53, 3) := by decide +kernel
theorem dX10_seekBarriers_4 : decode cX10_seekBarriers 4 = .ok (.aload_n 0, 1) := by decide +kernel
theorem dX10_seekBarriers_40 : decode cX10_seekBarriers 40 = .ok (.iconst (-1), 1) := by decide +kernel
theorem dX10_seekBarriers_41 : decode cX10_seekBarriers 41 = .ok (.ixor, 1) := by decide +kernel
theorem dX10_seekBarriers_42 : decode cX10_seekBarriers 42 = .ok (.iand, 1) := by decide +kernel
theorem dX10_seekBarriers_43 : decode cX10_seekBarriers 43 = .ok (.istore_n 1, 1) := by decide +kernel
theorem dX10_seekBarriers_44 : decode cX10_seekBarriers 44 = .ok (.aload_n 0, 1) := by decide +kernel
theorem dX10_seekBarriers_45 : decode cX10_seekBarriers 45 = .ok (.getfield 23, 3) := by decide +kernel
theorem dX10_seekBarriers_48 : decode cX10_seekBarriers 48 = .ok (.aload_n 0, 1) := by decide +kernel
theorem dX10_seekBarriers_49 : decode cX10_seekBarriers 49 = .ok (.getfield 19, 3) := by decide +kernel
theorem dX10_seekBarriers_5 : decode cX10_seekBarriers 5 = .ok (.getfield 19, 3) := by decide +kernel
theorem dX10_seekBarriers_52 : decode cX10_seekBarriers 52 = .ok (.invokevirtual 27, 3) := by decide +kernel
theorem dX10_seekBarriers_55 : decode cX10_seekBarriers 55 = .ok (.invokevirtual 45, 3) := by decide +kernel
theorem dX10_seekBarriers_58 : decode cX10_seekBarriers 58 = .ok (.istore_n 2, 1) := by decide +kernel
theorem dX10_seekBarriers_59 : decode cX10_seekBarriers 59 = .ok (.aload_n 0, 1) := by decide +kernel
theorem dX10_seekBarriers_60 : decode cX10_seekBarriers 60 = .ok (.iconst 0, 1) := by decide +kernel
theorem dX10_seekBarriers_61 : decode cX10_seekBarriers 61 = .ok (.putfield 56, 3) := by decide +kernel
theorem dX10_seekBarriers_64 : decode cX10_seekBarriers 64 = .ok (.aload_n 0, 1) := by decide +kernel
theorem dX10_seekBarriers_65 : decode cX10_seekBarriers 65 = .ok (.iconst 0, 1) := by decide +kernel
theorem dX10_seekBarriers_66 : decode cX10_seekBarriers 66 = .ok (.putfield 59, 3) := by decide +kernel
theorem dX10_seekBarriers_69 : decode cX10_seekBarriers 69 = .ok (.aload_n 0, 1) := by decide +kernel
theorem dX10_seekBarriers_70 : decode cX10_seekBarriers 70 = .ok (.aload_n 0, 1) := by decide +kernel
theorem dX10_seekBarriers_71 : decode cX10_seekBarriers 71 = .ok (.getfield 19, 3) := by decide +kernel
theorem dX10_seekBarriers_74 : decode cX10_seekBarriers 74 = .ok (.invokevirtual 27, 3) := by decide +kernel
theorem dX10_seekBarriers_77 : decode cX10_seekBarriers 77 = .ok (.putfield 62, 3) := by decide +kernel
theorem dX10_seekBarriers_8 : decode cX10_seekBarriers 8 = .ok (.getfield 50, 3) := by decide +kernel
theorem dX10_seekBarriers_80 : decode cX10_seekBarriers 80 = .ok (.iconst 0, 1) := by decide +kernel
theorem dX10_seekBarriers_81 : decode cX10_seekBarriers 81 = .ok (.istore_n 3, 1) := by decide +kernel
theorem dX10_seekBarriers_82 : decode cX10_seekBarriers 82 = .ok (.iconst 0, 1) := by decide +kernel
theorem dX10_seekBarriers_83 : decode cX10_seekBarriers 83 = .ok (.istore 4, 2) := by decide +kernel
theorem dX10_seekBarriers_85 : decode cX10_seekBarriers 85 = .ok (.iload 4, 2) := by decide +kernel
theorem dX10_seekBarriers_87 : decode cX10_seekBarriers 87 = .ok (.sipush 4096, 3) := by decide +kernel
theorem dX10_seekBarriers_90 : decode cX10_seekBarriers 90 = .ok (.if_icmp .ge 73, 3) := by decide +kernel
theorem dX10_seekBarriers_93 : decode cX10_seekBarriers 93 = .ok (.iload_n 3, 1) := by decide +kernel
theorem dX10_seekBarriers_94 : decode cX10_seekBarriers 94 = .ok (.invokestatic 40, 3) := by decide +kernel
theorem dX10_seekBarriers_97 : decode cX10_seekBarriers 97 = .ok (.iload_n 2, 1) := by decide +kernel
theorem dX10_seekBarriers_98 : decode cX10_seekBarriers 98 = .ok (.iadd, 1) := by decide +kernel
theorem dX10_seekBarriers_99 : decode cX10_seekBarriers 99 = .ok (.istore 5, 2) := by decide +kernel
set_option maxRecDepth 20000 in
theorem ggX11_barriers_X10_seekBarriers : GoodIn wsX11_barriers wsX10_seekBarriers := goodIn_r _ [6, 7, 8, 9, 10, 11, 12, 13, 14, 15, 16, 17, 18, 19, 20, 21, 22, 23, 24, 25, 26, 27, 28, 29, 30, 31, 32, 33, 34, 35, 36, 37, 38, 39, 40, 41, 42, 43, 44, 45, 46, 47, 48, 49, 50, 51, 52, 53, 54, 55, 56, 57, 58, 59, 60, 61, 62, 63, 64, 65, 66, 67, 68, 69, 70, 71, 72, 73, 74, 75, 5, 76, 77, 78, 79, 80, 81, 82, 83, 84, 85, 86, 87, 88, 89, 90, 91, 92, 93, 94, 95, 96, 113, 114, 115, 116, 117, 118, 119, 120, 121, 122, 123, 124, 125, 126, 127, 128, 129] rfl (by decide +kernel)
set_option maxRecDepth 20000 in
theorem gX11_barriers_X10_seekBarriers : GoodIn wsX11_barriers (wsV RX11 184 RX10 yX10_seekBarriers wsX10_seekBarriers) := goodIn_app (goodIn_of _ (by decide +kernel)) ggX11_barriers_X10_seekBarriers
theorem dX11_barriers_0 : decode cX11_barriers 0 = .ok (.iload_n 1, 1) := by decide +kernel
theorem dX11_barriers_1 : decode cX11_barriers 1 = .ok (.ifCond .lt 8, 3) := by decide +kernel
theorem dX11_barriers_11 : decode cX11_barriers 11 = .ok (.ireturn, 1) := by decide +kernel
theorem dX11_barriers_12 : decode cX11_barriers 12 = .ok (.aload_n 0, 1) := by decide +kernel
theorem dX11_barriers_13 : decode cX11_barriers 13 = .ok (.getfield 37, 3) := by decide +kernel
theorem dX11_barriers_16 : decode cX11_barriers 16 = .ok (.invokevirtual 184, 3) := by decide +kernel
theorem dX11_barriers_19 : decode cX11_barriers 19 = .ok (.iload_n 1, 1) := by decide +kernel
theorem dX11_barriers_20 : decode cX11_barriers 20 = .ok (.ifCond .ne 11, 3) := by decide +kernel
theorem dX11_barriers_23 : decode cX11_barriers 23 = .ok (.aload_n 0, 1) := by decide +kernel
theorem dX11_barriers_24 : decode cX11_barriers 24 = .ok (.getfield 37, 3) := by decide +kernel
theorem dX11_barriers_27 : decode cX11_barriers 27 = .ok (.getfield 187, 3) := by decide +kernel
theorem dX11_barriers_30 : decode cX11_barriers 30 = .ok (.ireturn, 1) := by decide +kernel
theorem dX11_barriers_31 : decode cX11_barriers 31 = .ok (.iload_n 1, 1) := by decide +kernel
theorem dX11_barriers_32 : decode cX11_barriers 32 = .ok (.iconst 1, 1) := by decide +kernel
theorem dX11_barriers_33 : decode cX11_barriers 33 = .ok (.if_icmp .ne 13, 3) := by decide +kernel
theorem dX11_barriers_36 : decode cX11_barriers 36 = .ok (.aload_n 0, 1) := by decide +kernel
theorem dX11_barriers_37 : decode cX11_barriers 37 = .ok (.getfield 37, 3) := by decide +kernel
theorem dX11_barriers_4 : decode cX11_barriers 4 = .ok (.iload_n 1, 1) := by decide +kernel
theorem dX11_barriers_40 : decode cX11_barriers 40 = .ok (.getfield 190, 3) := by decide +kernel
theorem dX11_barriers_43 : decode cX11_barriers 43 = .ok (.goto 10, 3) := by decide +kernel
theorem dX11_barriers_46 : decode cX11_barriers 46 = .ok (.aload_n 0, 1) := by decide +kernel
theorem dX11_barriers_47 : decode cX11_barriers 47 = .ok (.getfield 37, 3) := by decide +kernel
theorem dX11_barriers_5 : decode cX11_barriers 5 = .ok (.iconst 2, 1) := by decide +kernel
theorem dX11_barriers_50 : decode cX11_barriers 50 = .ok (.getfield 193, 3) := by decide +kernel
theorem dX11_barriers_53 : decode cX11_barriers 53 = .ok (.ireturn, 1) := by decide +kernel
theorem dX11_barriers_6 : decode cX11_barriers 6 = .ok (.if_icmp .le 6, 3) := by decide +kernel
theorem dX11_barriers_9 : decode cX11_barriers 9 = .ok (.bipush (-2), 2) := by decide +kernel
set_option maxRecDepth 20000 in
theorem ggX10_isCritical_J6_bitCount_0f7a4 : GoodIn wsX10_isCritical wsJ6_bitCount_0f7a4 := goodIn_r _ [6, 7, 8, 9] rfl (by decide +kernel)
set_option maxRecDepth 20000 in
theorem gX10_isCritical_J6_bitCount_0f7a4 : GoodIn wsX10_isCritical (va_wsS RX10 40 yJ6_bitCount_0f7a4 wsJ6_bitCount_0f7a4) := goodIn_app (goodIn_of _ (by decide +kernel)) ggX10_isCritical_J6_bitCount_0f7a4
theorem dX10_isCritical_0 : decode cX10_isCritical 0 = .ok (.iload_n 1, 1) := by decide +kernel
theorem dX10_isCritical_1 : decode cX10_isCritical 1 = .ok (.invokestatic 40, 3) := by decide +kernel
theorem dX10_isCritical_11 : decode cX10_isCritical 11 = .ok (.iconst 0, 1) := by decide +kernel
theorem dX10_isCritical_12 : decode cX10_isCritical 12 = .ok (.ireturn, 1) := by decide +kernel
theorem dX10_isCritical_4 : decode cX10_isCritical 4 = .ok (.istore_n 2, 1) := by decide +kernel
theorem dX10_isCritical_5 : decode cX10_isCritical 5 = .ok (.iload_n 2, 1) := by decide +kernel
theorem dX10_isCritical_6 : decode cX10_isCritical 6 = .ok (.iconst 1, 1) := by decide +kernel
theorem dX10_isCritical_7 : decode cX10_isCritical 7 = .ok (.iand, 1) := by decide +kernel
theorem dX10_isCritical_8 : decode cX10_isCritical 8 = .ok (.ifCond .ne 5, 3) := by decide +kernel
set_option maxRecDepth 20000 in
theorem ggX11_critical_X10_isCritical : GoodIn wsX11_critical wsX10_isCritical := goodIn_r _ [17, 18, 19, 20, 21, 22, 23, 24, 25, 26, 27, 28, 29, 30, 31, 32, 33, 34, 35, 36, 37, 38, 39, 40, 41, 42, 43, 44, 45, 46, 47, 48, 49, 50, 51, 52, 53, 54, 55, 56, 57, 58, 59, 60, 61, 62, 63, 64, 84, 85, 86, 87, 88, 89, 90, 91, 81, 82, 83, 92, 93, 94, 95, 96, 97] rfl (by decide +kernel)
set_option maxRecDepth 20000 in
theorem gX11_critical_X10_isCritical : GoodIn wsX11_critical (wsV RX11 196 RX10 yX10_isCritical wsX10_isCritical) := goodIn_app (goodIn_of _ (by decide +kernel)) ggX11_critical_X10_isCritical
set_option maxRecDepth 20000 in
theorem ggX11_critical_X2_hasAll : GoodIn wsX11_critical wsX2_hasAll := goodIn_r _ [7, 8, 9, 10, 6, 11, 12, 81, 82, 83] rfl (by decide +kernel)
set_option maxRecDepth 20000 in
theorem gX11_critical_X2_hasAll : GoodIn wsX11_critical (wsV RX11 144 RX2 yX2_hasAll wsX2_hasAll) := goodIn_app (goodIn_of _ (by decide +kernel)) ggX11_critical_X2_hasAll
theorem dX11_critical_0 : decode cX11_critical 0 = .ok (.aload_n 0, 1) := by decide +kernel
theorem dX11_critical_1 : decode cX11_critical 1 = .ok (.getfield 12, 3) := by decide +kernel
theorem dX11_critical_11 : decode cX11_critical 11 = .ok (.bipush (-2), 2) := by decide +kernel
theorem dX11_critical_13 : decode cX11_critical 13 = .ok (.ireturn, 1) := by decide +kernel
theorem dX11_critical_14 : decode cX11_critical 14 = .ok (.aload_n 0, 1) := by decide +kernel
theorem dX11_critical_15 : decode cX11_critical 15 = .ok (.getfield 37, 3) := by decide +kernel
theorem dX11_critical_18 : decode cX11_critical 18 = .ok (.iload_n 1, 1) := by decide +kernel
theorem dX11_critical_19 : decode cX11_critical 19 = .ok (.invokevirtual 196, 3) := by decide +kernel
theorem dX11_critical_22 : decode cX11_critical 22 = .ok (.ifCond .eq 7, 3) := by decide +kernel
theorem dX11_critical_29 : decode cX11_critical 29 = .ok (.iconst 0, 1) := by decide +kernel
theorem dX11_critical_30 : decode cX11_critical 30 = .ok (.ireturn, 1) := by decide +kernel
theorem dX11_critical_4 : decode cX11_critical 4 = .ok (.iload_n 1, 1) := by decide +kernel
theorem dX11_critical_5 : decode cX11_critical 5 = .ok (.invokevirtual 144, 3) := by decide +kernel
theorem dX11_critical_8 : decode cX11_critical 8 = .ok (.ifCond .ne 6, 3) := by decide +kernel
set_option maxRecDepth 20000 in
theorem ggX11_ear_X10_isCritical : GoodIn wsX11_ear wsX10_isCritical := goodIn_r _ [17, 18, 19, 20, 21, 22, 23, 24, 25, 26, 27, 28, 29, 30, 31, 32, 33, 34, 35, 36, 37, 38, 39, 40, 41, 42, 43, 44, 45, 46, 47, 48, 49, 50, 51, 52, 53, 54, 55, 56, 57, 58, 59, 60, 61, 62, 63, 64, 104, 105, 106, 107, 108, 109, 110, 111, 112, 113, 114, 115, 116, 117, 118, 119, 120] rfl (by decide +kernel)
set_option maxRecDepth 20000 in
theorem gX11_ear_X10_isCritical : GoodIn wsX11_ear (wsV RX11 196 RX10 yX10_isCritical wsX10_isCritical) := goodIn_app (goodIn_of _ (by decide +kernel)) ggX11_ear_X10_isCritical
set_option maxRecDepth 20000 in
theorem ggX11_ear_X2_hasAll : GoodIn wsX11_ear wsX2_hasAll := goodIn_r _ [7, 8, 9, 10, 6, 11, 12, 112, 113, 114] rfl (by decide +kernel)
set_option maxRecDepth 20000 in
theorem gX11_ear_X2_hasAll : GoodIn wsX11_ear (wsV RX11 144 RX2 yX2_hasAll wsX2_hasAll) := goodIn_app (goodIn_of _ (by decide +kernel)) ggX11_ear_X2_hasAll
theorem dX11_ear_0 : decode cX11_ear 0 = .ok (.aload_n 0, 1) := by decide +kernel
theorem dX11_ear_1 : decode cX11_ear 1 = .ok (.getfield 12, 3) := by decide +kernel
theorem dX11_ear_11 : decode cX11_ear 11 = .ok (.bipush (-2), 2) := by decide +kernel
theorem dX11_ear_13 : decode cX11_ear 13 = .ok (.ireturn, 1) := by decide +kernel
theorem dX11_ear_14 : decode cX11_ear 14 = .ok (.aload_n 0, 1) := by decide +kernel
theorem dX11_ear_15 : decode cX11_ear 15 = .ok (.getfield 37, 3) := by decide +kernel
theorem dX11_ear_18 : decode cX11_ear 18 = .ok (.iload_n 1, 1) := by decide +kernel
theorem dX11_ear_19 : decode cX11_ear 19 = .ok (.invokevirtual 196, 3) := by decide +kernel
theorem dX11_ear_22 : decode cX11_ear 22 = .ok (.ifCond .ne 6, 3) := by decide +kernel
theorem dX11_ear_25 : decode cX11_ear 25 = .ok (.bipush (-3), 2) := by decide +kernel
theorem dX11_ear_27 : decode cX11_ear 27 = .ok (.ireturn, 1) := by decide +kernel
theorem dX11_ear_4 : decode cX11_ear 4 = .ok (.iload_n 1, 1) := by decide +kernel
theorem dX11_ear_5 : decode cX11_ear 5 = .ok (.invokevirtual 144, 3) := by decide +kernel
theorem dX11_ear_8 : decode cX11_ear 8 = .ok (.ifCond .ne 6, 3) := by decide +kernel
set_option maxRecDepth 20000 in
theorem ggX11_verdict_X2_areTwo : GoodIn wsX11_verdict wsX2_areTwo := goodIn_r _ [7, 8, 9, 10, 6, 11, 12, 95, 96, 97] rfl (by decide +kernel)
set_option maxRecDepth 20000 in
theorem gX11_verdict_X2_areTwo : GoodIn wsX11_verdict (wsV RX11 105 RX2 yX2_areTwo wsX2_areTwo) := goodIn_app (goodIn_of _ (by decide +kernel)) ggX11_verdict_X2_areTwo
theorem dX11_verdict_0 : decode cX11_verdict 0 = .ok (.aload_n 0, 1) := by decide +kernel
theorem dX11_verdict_1 : decode cX11_verdict 1 = .ok (.getfield 12, 3) := by decide +kernel
theorem dX11_verdict_12 : decode cX11_verdict 12 = .ok (.bipush (-2), 2) := by decide +kernel
theorem dX11_verdict_14 : decode cX11_verdict 14 = .ok (.ireturn, 1) := by decide +kernel
theorem dX11_verdict_4 : decode cX11_verdict 4 = .ok (.iload_n 1, 1) := by decide +kernel
theorem dX11_verdict_5 : decode cX11_verdict 5 = .ok (.iload_n 2, 1) := by decide +kernel
theorem dX11_verdict_6 : decode cX11_verdict 6 = .ok (.invokevirtual 105, 3) := by decide +kernel
theorem dX11_verdict_9 : decode cX11_verdict 9 = .ok (.ifCond .ne 6, 3) := by decide +kernel
theorem dX11_verdicts_0 : decode cX11_verdicts 0 = .ok (.iload_n 1, 1) := by decide +kernel
theorem dX11_verdicts_1 : decode cX11_verdicts 1 = .ok (.ifCond .lt 8, 3) := by decide +kernel
theorem dX11_verdicts_11 : decode cX11_verdicts 11 = .ok (.ireturn, 1) := by decide +kernel
theorem dX11_verdicts_12 : decode cX11_verdicts 12 = .ok (.iconst 0, 1) := by decide +kernel
theorem dX11_verdicts_13 : decode cX11_verdicts 13 = .ok (.istore_n 2, 1) := by decide +kernel
theorem dX11_verdicts_14 : decode cX11_verdicts 14 = .ok (.iconst 0, 1) := by decide +kernel
theorem dX11_verdicts_15 : decode cX11_verdicts 15 = .ok (.istore_n 3, 1) := by decide +kernel
theorem dX11_verdicts_16 : decode cX11_verdicts 16 = .ok (.iload_n 3, 1) := by decide +kernel
theorem dX11_verdicts_17 : decode cX11_verdicts 17 = .ok (.aload_n 0, 1) := by decide +kernel
theorem dX11_verdicts_18 : decode cX11_verdicts 18 = .ok (.getfield 12, 3) := by decide +kernel
theorem dX11_verdicts_21 : decode cX11_verdicts 21 = .ok (.getfield 97, 3) := by decide +kernel
theorem dX11_verdicts_24 : decode cX11_verdicts 24 = .ok (.if_icmp .ge 62, 3) := by decide +kernel
theorem dX11_verdicts_4 : decode cX11_verdicts 4 = .ok (.iload_n 1, 1) := by decide +kernel
theorem dX11_verdicts_5 : decode cX11_verdicts 5 = .ok (.iconst 2, 1) := by decide +kernel
theorem dX11_verdicts_6 : decode cX11_verdicts 6 = .ok (.if_icmp .le 6, 3) := by decide +kernel
theorem dX11_verdicts_86 : decode cX11_verdicts 86 = .ok (.iload_n 2, 1) := by decide +kernel
theorem dX11_verdicts_87 : decode cX11_verdicts 87 = .ok (.ireturn, 1) := by decide +kernel
theorem dX11_verdicts_9 : decode cX11_verdicts 9 = .ok (.bipush (-2), 2) := by decide +kernel
set_option maxRecDepth 20000 in
theorem ggX11_without_X2_hasPoint : GoodIn wsX11_without wsX2_hasPoint := goodIn_r _ [7, 8, 77, 78, 79] rfl (by decide +kernel)
set_option maxRecDepth 20000 in
theorem gX11_without_X2_hasPoint : GoodIn wsX11_without (wsV RX11 116 RX2 yX2_hasPoint wsX2_hasPoint) := goodIn_app (goodIn_of _ (by decide +kernel)) ggX11_without_X2_hasPoint
theorem dX11_without_0 : decode cX11_without 0 = .ok (.aload_n 0, 1) := by decide +kernel
theorem dX11_without_1 : decode cX11_without 1 = .ok (.getfield 12, 3) := by decide +kernel
theorem dX11_without_34 : decode cX11_without 34 = .ok (.bipush (-2), 2) := by decide +kernel
theorem dX11_without_36 : decode cX11_without 36 = .ok (.ireturn, 1) := by decide +kernel
theorem dX11_without_4 : decode cX11_without 4 = .ok (.iload_n 1, 1) := by decide +kernel
theorem dX11_without_5 : decode cX11_without 5 = .ok (.invokevirtual 116, 3) := by decide +kernel
theorem dX11_without_8 : decode cX11_without 8 = .ok (.ifCond .eq 26, 3) := by decide +kernel
theorem dX11_firstOrCount_0 : decode cX11_firstOrCount 0 = .ok (.iload_n 1, 1) := by decide +kernel
theorem dX11_firstOrCount_1 : decode cX11_firstOrCount 1 = .ok (.ifCond .eq 11, 3) := by decide +kernel
theorem dX11_firstOrCount_11 : decode cX11_firstOrCount 11 = .ok (.ireturn, 1) := by decide +kernel
theorem dX11_firstOrCount_111 : decode cX11_firstOrCount 111 = .ok (.iload_n 1, 1) := by decide +kernel
theorem dX11_firstOrCount_112 : decode cX11_firstOrCount 112 = .ok (.ifCond .ne 7, 3) := by decide +kernel
theorem dX11_firstOrCount_115 : decode cX11_firstOrCount 115 = .ok (.iconst (-1), 1) := by decide +kernel
theorem dX11_firstOrCount_116 : decode cX11_firstOrCount 116 = .ok (.goto 4, 3) := by decide +kernel
theorem dX11_firstOrCount_119 : decode cX11_firstOrCount 119 = .ok (.iload_n 3, 1) := by decide +kernel
theorem dX11_firstOrCount_12 : decode cX11_firstOrCount 12 = .ok (.iconst 0, 1) := by decide +kernel
theorem dX11_firstOrCount_120 : decode cX11_firstOrCount 120 = .ok (.ireturn, 1) := by decide +kernel
theorem dX11_firstOrCount_13 : decode cX11_firstOrCount 13 = .ok (.istore_n 3, 1) := by decide +kernel
theorem dX11_firstOrCount_14 : decode cX11_firstOrCount 14 = .ok (.iconst 0, 1) := by decide +kernel
theorem dX11_firstOrCount_15 : decode cX11_firstOrCount 15 = .ok (.istore 4, 2) := by decide +kernel
theorem dX11_firstOrCount_17 : decode cX11_firstOrCount 17 = .ok (.iload 4, 2) := by decide +kernel
theorem dX11_firstOrCount_19 : decode cX11_firstOrCount 19 = .ok (.aload_n 0, 1) := by decide +kernel
theorem dX11_firstOrCount_20 : decode cX11_firstOrCount 20 = .ok (.getfield 12, 3) := by decide +kernel
theorem dX11_firstOrCount_23 : decode cX11_firstOrCount 23 = .ok (.getfield 97, 3) := by decide +kernel
theorem dX11_firstOrCount_26 : decode cX11_firstOrCount 26 = .ok (.if_icmp .ge 85, 3) := by decide +kernel
theorem dX11_firstOrCount_4 : decode cX11_firstOrCount 4 = .ok (.iload_n 1, 1) := by decide +kernel
theorem dX11_firstOrCount_5 : decode cX11_firstOrCount 5 = .ok (.iconst 1, 1) := by decide +kernel
theorem dX11_firstOrCount_6 : decode cX11_firstOrCount 6 = .ok (.if_icmp .eq 6, 3) := by decide +kernel
theorem dX11_firstOrCount_9 : decode cX11_firstOrCount 9 = .ok (.bipush (-2), 2) := by decide +kernel
set_option maxRecDepth 20000 in
theorem ggX11_mends_X11_firstOrCount : GoodIn wsX11_mends wsX11_firstOrCount := goodIn_r _ [5, 6, 7, 8, 9, 10, 11, 12, 13, 14, 15, 16, 17, 18, 19, 20, 21, 22, 23, 24, 25, 26, 27, 28, 29, 30, 31, 32, 33, 34, 35, 36, 37, 38, 39, 40, 41, 42, 43, 44, 45, 46, 47, 48, 49, 50, 51, 52, 53, 54, 55, 56, 57, 58, 59, 60, 61, 62, 63, 64, 65, 66, 67, 68, 69, 70, 71, 72, 73, 74, 75, 76, 77, 78, 79, 80, 81, 82, 83, 84, 85, 86, 87, 88, 89, 90, 91, 92, 93, 94, 95, 96, 97, 98, 99, 100, 101, 102, 103, 104, 105, 106, 107, 108, 109, 110, 111] rfl (by decide +kernel)
set_option maxRecDepth 20000 in
theorem gX11_mends_X11_firstOrCount : GoodIn wsX11_mends (wsV RX11 211 RX11 yX11_firstOrCount wsX11_firstOrCount) := goodIn_app (goodIn_of _ (by decide +kernel)) ggX11_mends_X11_firstOrCount
theorem dX11_mends_0 : decode cX11_mends 0 = .ok (.aload_n 0, 1) := by decide +kernel
theorem dX11_mends_1 : decode cX11_mends 1 = .ok (.iload_n 1, 1) := by decide +kernel
theorem dX11_mends_2 : decode cX11_mends 2 = .ok (.iconst 1, 1) := by decide +kernel
theorem dX11_mends_3 : decode cX11_mends 3 = .ok (.invokevirtual 211, 3) := by decide +kernel
theorem dX11_mends_6 : decode cX11_mends 6 = .ok (.ireturn, 1) := by decide +kernel
set_option maxRecDepth 20000 in
theorem ggX11_breaks_X11_firstOrCount : GoodIn wsX11_breaks wsX11_firstOrCount := goodIn_r _ [5, 6, 7, 8, 9, 10, 11, 12, 13, 14, 15, 16, 17, 18, 19, 20, 21, 22, 23, 24, 25, 26, 27, 28, 29, 30, 31, 32, 33, 34, 35, 36, 37, 38, 39, 40, 41, 42, 43, 44, 45, 46, 47, 48, 49, 50, 51, 52, 53, 54, 55, 56, 57, 58, 59, 60, 61, 62, 63, 64, 65, 66, 67, 68, 69, 70, 71, 72, 73, 74, 75, 76, 77, 78, 79, 80, 81, 82, 83, 84, 85, 86, 87, 88, 89, 90, 91, 92, 93, 94, 95, 96, 97, 98, 99, 100, 101, 102, 103, 104, 105, 106, 107, 108, 109, 110, 111] rfl (by decide +kernel)
set_option maxRecDepth 20000 in
theorem gX11_breaks_X11_firstOrCount : GoodIn wsX11_breaks (wsV RX11 211 RX11 yX11_firstOrCount wsX11_firstOrCount) := goodIn_app (goodIn_of _ (by decide +kernel)) ggX11_breaks_X11_firstOrCount
theorem dX11_breaks_0 : decode cX11_breaks 0 = .ok (.aload_n 0, 1) := by decide +kernel
theorem dX11_breaks_1 : decode cX11_breaks 1 = .ok (.iload_n 1, 1) := by decide +kernel
theorem dX11_breaks_2 : decode cX11_breaks 2 = .ok (.iconst 0, 1) := by decide +kernel
theorem dX11_breaks_3 : decode cX11_breaks 3 = .ok (.invokevirtual 211, 3) := by decide +kernel
theorem dX11_breaks_6 : decode cX11_breaks 6 = .ok (.ireturn, 1) := by decide +kernel
theorem dX11_isSheet_0 : decode cX11_isSheet 0 = .ok (.iload_n 0, 1) := by decide +kernel
theorem dX11_isSheet_1 : decode cX11_isSheet 1 = .ok (.ifCond .lt 12, 3) := by decide +kernel
theorem dX11_isSheet_10 : decode cX11_isSheet 10 = .ok (.goto 4, 3) := by decide +kernel
theorem dX11_isSheet_13 : decode cX11_isSheet 13 = .ok (.iconst 0, 1) := by decide +kernel
theorem dX11_isSheet_14 : decode cX11_isSheet 14 = .ok (.ireturn, 1) := by decide +kernel
theorem dX11_isSheet_4 : decode cX11_isSheet 4 = .ok (.iload_n 0, 1) := by decide +kernel
theorem dX11_isSheet_5 : decode cX11_isSheet 5 = .ok (.iconst 4, 1) := by decide +kernel
theorem dX11_isSheet_6 : decode cX11_isSheet 6 = .ok (.if_icmp .ge 7, 3) := by decide +kernel
theorem dX11_isSheet_9 : decode cX11_isSheet 9 = .ok (.iconst 1, 1) := by decide +kernel
theorem dX6_isMissing_0 : decode cX6_isMissing 0 = .ok (.aload_n 0, 1) := by decide +kernel
theorem dX6_isMissing_1 : decode cX6_isMissing 1 = .ok (.getfield 15, 3) := by decide +kernel
theorem dX6_isMissing_13 : decode cX6_isMissing 13 = .ok (.ireturn, 1) := by decide +kernel
theorem dX6_isMissing_4 : decode cX6_isMissing 4 = .ok (.iconst (-1), 1) := by decide +kernel
theorem dX6_isMissing_5 : decode cX6_isMissing 5 = .ok (.if_icmp .ne 7, 3) := by decide +kernel
theorem dX6_isMissing_8 : decode cX6_isMissing 8 = .ok (.iconst 1, 1) := by decide +kernel
theorem dX6_isMissing_9 : decode cX6_isMissing 9 = .ok (.goto 4, 3) := by decide +kernel
set_option maxRecDepth 20000 in
theorem ggX11_refusalOfSheet_X11_isSheet : GoodIn wsX11_refusalOfSheet wsX11_isSheet := goodIn_r _ [5] rfl (by decide +kernel)
set_option maxRecDepth 20000 in
theorem gX11_refusalOfSheet_X11_isSheet : GoodIn wsX11_refusalOfSheet (va_wsS RX11 248 yX11_isSheet wsX11_isSheet) := goodIn_app (goodIn_of _ (by decide +kernel)) ggX11_refusalOfSheet_X11_isSheet
set_option maxRecDepth 20000 in
theorem ggX11_refusalOfSheet_X6_isMissing : GoodIn wsX11_refusalOfSheet wsX6_isMissing := goodIn_r _ [10, 11, 28, 29, 30] rfl (by decide +kernel)
set_option maxRecDepth 20000 in
theorem gX11_refusalOfSheet_X6_isMissing : GoodIn wsX11_refusalOfSheet (wsV RX11 251 RX6 yX6_isMissing wsX6_isMissing) := goodIn_app (goodIn_of _ (by decide +kernel)) ggX11_refusalOfSheet_X6_isMissing
theorem dX11_refusalOfSheet_0 : decode cX11_refusalOfSheet 0 = .ok (.iload_n 1, 1) := by decide +kernel
theorem dX11_refusalOfSheet_1 : decode cX11_refusalOfSheet 1 = .ok (.invokestatic 248, 3) := by decide +kernel
theorem dX11_refusalOfSheet_10 : decode cX11_refusalOfSheet 10 = .ok (.aload_n 0, 1) := by decide +kernel
theorem dX11_refusalOfSheet_11 : decode cX11_refusalOfSheet 11 = .ok (.getfield 75, 3) := by decide +kernel
theorem dX11_refusalOfSheet_14 : decode cX11_refusalOfSheet 14 = .ok (.iload_n 1, 1) := by decide +kernel
theorem dX11_refusalOfSheet_15 : decode cX11_refusalOfSheet 15 = .ok (.aaload, 1) := by decide +kernel
theorem dX11_refusalOfSheet_16 : decode cX11_refusalOfSheet 16 = .ok (.invokevirtual 251, 3) := by decide +kernel
theorem dX11_refusalOfSheet_19 : decode cX11_refusalOfSheet 19 = .ok (.ifCond .eq 8, 3) := by decide +kernel
theorem dX11_refusalOfSheet_22 : decode cX11_refusalOfSheet 22 = .ok (.bipush (-11), 2) := by decide +kernel
theorem dX11_refusalOfSheet_24 : decode cX11_refusalOfSheet 24 = .ok (.goto 4, 3) := by decide +kernel
theorem dX11_refusalOfSheet_28 : decode cX11_refusalOfSheet 28 = .ok (.ireturn, 1) := by decide +kernel
theorem dX11_refusalOfSheet_4 : decode cX11_refusalOfSheet 4 = .ok (.ifCond .ne 6, 3) := by decide +kernel
theorem dX11_refusalOfSheet_7 : decode cX11_refusalOfSheet 7 = .ok (.bipush (-2), 2) := by decide +kernel
theorem dX11_refusalOfSheet_9 : decode cX11_refusalOfSheet 9 = .ok (.ireturn, 1) := by decide +kernel
set_option maxRecDepth 20000 in
theorem ggX11_isTold_X11_refusalOfSheet : GoodIn wsX11_isTold wsX11_refusalOfSheet := goodIn_r _ [7, 2, 8, 9, 6, 10, 11, 12, 13, 14, 15, 16, 49, 50, 51, 52, 53, 54, 55, 56, 57, 58, 59, 60, 61, 62, 63, 64, 65, 66, 67] rfl (by decide +kernel)
set_option maxRecDepth 20000 in
theorem gX11_isTold_X11_refusalOfSheet : GoodIn wsX11_isTold (wsV RX11 218 RX11 yX11_refusalOfSheet wsX11_refusalOfSheet) := goodIn_app (goodIn_of _ (by decide +kernel)) ggX11_isTold_X11_refusalOfSheet
theorem dX11_isTold_0 : decode cX11_isTold 0 = .ok (.aload_n 0, 1) := by decide +kernel
theorem dX11_isTold_1 : decode cX11_isTold 1 = .ok (.iload_n 1, 1) := by decide +kernel
theorem dX11_isTold_10 : decode cX11_isTold 10 = .ok (.iload_n 2, 1) := by decide +kernel
theorem dX11_isTold_11 : decode cX11_isTold 11 = .ok (.ireturn, 1) := by decide +kernel
theorem dX11_isTold_2 : decode cX11_isTold 2 = .ok (.invokevirtual 218, 3) := by decide +kernel
theorem dX11_isTold_5 : decode cX11_isTold 5 = .ok (.istore_n 2, 1) := by decide +kernel
theorem dX11_isTold_6 : decode cX11_isTold 6 = .ok (.iload_n 2, 1) := by decide +kernel
theorem dX11_isTold_7 : decode cX11_isTold 7 = .ok (.ifCond .eq 5, 3) := by decide +kernel
set_option maxRecDepth 20000 in
theorem ggX11_refusalOfTold_X11_refusalOfSheet : GoodIn wsX11_refusalOfTold wsX11_refusalOfSheet := goodIn_r _ [7, 2, 8, 9, 6, 10, 11, 12, 13, 14, 15, 16, 49, 50, 51, 52, 53, 54, 55, 56, 57, 58, 59, 60, 61, 62, 63, 64, 65, 66, 67] rfl (by decide +kernel)
set_option maxRecDepth 20000 in
theorem gX11_refusalOfTold_X11_refusalOfSheet : GoodIn wsX11_refusalOfTold (wsV RX11 218 RX11 yX11_refusalOfSheet wsX11_refusalOfSheet) := goodIn_app (goodIn_of _ (by decide +kernel)) ggX11_refusalOfTold_X11_refusalOfSheet
theorem dX11_refusalOfTold_0 : decode cX11_refusalOfTold 0 = .ok (.aload_n 0, 1) := by decide +kernel
theorem dX11_refusalOfTold_1 : decode cX11_refusalOfTold 1 = .ok (.iload_n 1, 1) := by decide +kernel
theorem dX11_refusalOfTold_10 : decode cX11_refusalOfTold 10 = .ok (.iload_n 2, 1) := by decide +kernel
theorem dX11_refusalOfTold_11 : decode cX11_refusalOfTold 11 = .ok (.ireturn, 1) := by decide +kernel
theorem dX11_refusalOfTold_2 : decode cX11_refusalOfTold 2 = .ok (.invokevirtual 218, 3) := by decide +kernel
theorem dX11_refusalOfTold_5 : decode cX11_refusalOfTold 5 = .ok (.istore_n 2, 1) := by decide +kernel
theorem dX11_refusalOfTold_6 : decode cX11_refusalOfTold 6 = .ok (.iload_n 2, 1) := by decide +kernel
theorem dX11_refusalOfTold_7 : decode cX11_refusalOfTold 7 = .ok (.ifCond .eq 5, 3) := by decide +kernel
set_option maxRecDepth 20000 in
theorem ggX11_misses_X11_refusalOfTold : GoodIn wsX11_misses wsX11_refusalOfTold := goodIn_r _ [6, 1, 7, 8, 9, 10, 5, 11, 12, 13, 14, 15, 16, 17, 18, 19, 20, 21, 22, 23, 24, 25, 26, 27, 28, 29, 30, 31, 32, 33, 34, 35, 36, 37, 38, 39, 40, 41, 42, 43, 44, 45, 46, 47, 48, 49, 50, 51, 52, 57, 58, 59, 60, 61, 62, 63, 64, 65, 66, 67, 68, 69, 70, 71, 72, 73, 74, 75, 76, 77, 78, 79, 80, 81, 82, 83, 84] rfl (by decide +kernel)
set_option maxRecDepth 20000 in
theorem gX11_misses_X11_refusalOfTold : GoodIn wsX11_misses (wsV RX11 225 RX11 yX11_refusalOfTold wsX11_refusalOfTold) := goodIn_app (goodIn_of _ (by decide +kernel)) ggX11_misses_X11_refusalOfTold
theorem dX11_misses_0 : decode cX11_misses 0 = .ok (.aload_n 0, 1) := by decide +kernel
theorem dX11_misses_1 : decode cX11_misses 1 = .ok (.iload_n 1, 1) := by decide +kernel
theorem dX11_misses_10 : decode cX11_misses 10 = .ok (.iload_n 2, 1) := by decide +kernel
theorem dX11_misses_11 : decode cX11_misses 11 = .ok (.goto 10, 3) := by decide +kernel
theorem dX11_misses_2 : decode cX11_misses 2 = .ok (.invokevirtual 225, 3) := by decide +kernel
theorem dX11_misses_21 : decode cX11_misses 21 = .ok (.ireturn, 1) := by decide +kernel
theorem dX11_misses_5 : decode cX11_misses 5 = .ok (.istore_n 2, 1) := by decide +kernel
theorem dX11_misses_6 : decode cX11_misses 6 = .ok (.iload_n 2, 1) := by decide +kernel
theorem dX11_misses_7 : decode cX11_misses 7 = .ok (.ifCond .eq 7, 3) := by decide +kernel
set_option maxRecDepth 20000 in
theorem ggX11_way_X11_refusalOfTold : GoodIn wsX11_way wsX11_refusalOfTold := goodIn_r _ [6, 1, 7, 8, 9, 10, 5, 11, 12, 13, 14, 15, 16, 17, 18, 19, 20, 21, 22, 23, 24, 25, 26, 27, 28, 29, 30, 31, 32, 33, 34, 35, 36, 37, 38, 39, 40, 41, 42, 43, 44, 45, 46, 47, 48, 49, 50, 51, 52, 133, 134, 135, 136, 137, 138, 139, 140, 141, 142, 143, 144, 145, 146, 147, 148, 149, 150, 151, 152, 153, 154, 155, 156, 157, 158, 159, 160] rfl (by decide +kernel)
set_option maxRecDepth 20000 in
theorem gX11_way_X11_refusalOfTold : GoodIn wsX11_way (wsV RX11 225 RX11 yX11_refusalOfTold wsX11_refusalOfTold) := goodIn_app (goodIn_of _ (by decide +kernel)) ggX11_way_X11_refusalOfTold
theorem dX11_way_0 : decode cX11_way 0 = .ok (.aload_n 0, 1) := by decide +kernel
theorem dX11_way_1 : decode cX11_way 1 = .ok (.iload_n 1, 1) := by decide +kernel
theorem dX11_way_10 : decode cX11_way 10 = .ok (.iload_n 3, 1) := by decide +kernel
theorem dX11_way_11 : decode cX11_way 11 = .ok (.ireturn, 1) := by decide +kernel
theorem dX11_way_2 : decode cX11_way 2 = .ok (.invokevirtual 225, 3) := by decide +kernel
theorem dX11_way_5 : decode cX11_way 5 = .ok (.istore_n 3, 1) := by decide +kernel
theorem dX11_way_6 : decode cX11_way 6 = .ok (.iload_n 3, 1) := by decide +kernel
theorem dX11_way_7 : decode cX11_way 7 = .ok (.ifCond .eq 5, 3) := by decide +kernel
set_option maxRecDepth 20000 in
theorem ggX11_chains_X11_isSheet : GoodIn wsX11_chains wsX11_isSheet := goodIn_r _ [7] rfl (by decide +kernel)
set_option maxRecDepth 20000 in
theorem gX11_chains_X11_isSheet : GoodIn wsX11_chains (va_wsS RX11 248 yX11_isSheet wsX11_isSheet) := goodIn_app (goodIn_of _ (by decide +kernel)) ggX11_chains_X11_isSheet
set_option maxRecDepth 20000 in
theorem ggX11_chains_X6_isMissing : GoodIn wsX11_chains wsX6_isMissing := goodIn_r _ [12, 13, 99, 100, 101] rfl (by decide +kernel)
set_option maxRecDepth 20000 in
theorem gX11_chains_X6_isMissing : GoodIn wsX11_chains (wsV RX11 251 RX6 yX6_isMissing wsX6_isMissing) := goodIn_app (goodIn_of _ (by decide +kernel)) ggX11_chains_X6_isMissing
theorem dX11_chains_0 : decode cX11_chains 0 = .ok (.iload_n 1, 1) := by decide +kernel
theorem dX11_chains_1 : decode cX11_chains 1 = .ok (.invokestatic 248, 3) := by decide +kernel
theorem dX11_chains_11 : decode cX11_chains 11 = .ok (.ifCond .eq 12, 3) := by decide +kernel
theorem dX11_chains_14 : decode cX11_chains 14 = .ok (.iload_n 3, 1) := by decide +kernel
theorem dX11_chains_15 : decode cX11_chains 15 = .ok (.ifCond .lt 8, 3) := by decide +kernel
theorem dX11_chains_18 : decode cX11_chains 18 = .ok (.iload_n 3, 1) := by decide +kernel
theorem dX11_chains_19 : decode cX11_chains 19 = .ok (.iconst 2, 1) := by decide +kernel
theorem dX11_chains_20 : decode cX11_chains 20 = .ok (.if_icmp .le 6, 3) := by decide +kernel
theorem dX11_chains_23 : decode cX11_chains 23 = .ok (.bipush (-2), 2) := by decide +kernel
theorem dX11_chains_25 : decode cX11_chains 25 = .ok (.ireturn, 1) := by decide +kernel
theorem dX11_chains_26 : decode cX11_chains 26 = .ok (.aload_n 0, 1) := by decide +kernel
theorem dX11_chains_27 : decode cX11_chains 27 = .ok (.getfield 75, 3) := by decide +kernel
theorem dX11_chains_30 : decode cX11_chains 30 = .ok (.iload_n 1, 1) := by decide +kernel
theorem dX11_chains_31 : decode cX11_chains 31 = .ok (.aaload, 1) := by decide +kernel
theorem dX11_chains_32 : decode cX11_chains 32 = .ok (.invokevirtual 251, 3) := by decide +kernel
theorem dX11_chains_35 : decode cX11_chains 35 = .ok (.ifCond .ne 15, 3) := by decide +kernel
theorem dX11_chains_4 : decode cX11_chains 4 = .ok (.ifCond .eq 19, 3) := by decide +kernel
theorem dX11_chains_50 : decode cX11_chains 50 = .ok (.bipush (-11), 2) := by decide +kernel
theorem dX11_chains_52 : decode cX11_chains 52 = .ok (.ireturn, 1) := by decide +kernel
theorem dX11_chains_7 : decode cX11_chains 7 = .ok (.iload_n 2, 1) := by decide +kernel
theorem dX11_chains_8 : decode cX11_chains 8 = .ok (.invokestatic 248, 3) := by decide +kernel
theorem dX11_isSort_0 : decode cX11_isSort 0 = .ok (.iload_n 0, 1) := by decide +kernel
theorem dX11_isSort_1 : decode cX11_isSort 1 = .ok (.ifCond .eq 8, 3) := by decide +kernel
theorem dX11_isSort_10 : decode cX11_isSort 10 = .ok (.goto 4, 3) := by decide +kernel
theorem dX11_isSort_13 : decode cX11_isSort 13 = .ok (.iconst 0, 1) := by decide +kernel
theorem dX11_isSort_14 : decode cX11_isSort 14 = .ok (.ireturn, 1) := by decide +kernel
theorem dX11_isSort_4 : decode cX11_isSort 4 = .ok (.iload_n 0, 1) := by decide +kernel
theorem dX11_isSort_5 : decode cX11_isSort 5 = .ok (.iconst 1, 1) := by decide +kernel
theorem dX11_isSort_6 : decode cX11_isSort 6 = .ok (.if_icmp .ne 7, 3) := by decide +kernel
theorem dX11_isSort_9 : decode cX11_isSort 9 = .ok (.iconst 1, 1) := by decide +kernel
set_option maxRecDepth 20000 in
theorem ggX3_layFirst_X2_all : GoodIn wsX3_layFirst wsX2_all := goodIn_r _ [6, 7, 68, 69, 70] rfl (by decide +kernel)
set_option maxRecDepth 20000 in
theorem gX3_layFirst_X2_all : GoodIn wsX3_layFirst (wsV RX3 77 RX2 yX2_all wsX2_all) := goodIn_app (goodIn_of _ (by decide +kernel)) ggX3_layFirst_X2_all
theorem dX3_layFirst_0 : decode cX3_layFirst 0 = .ok (.aload_n 0, 1) := by decide +kernel
theorem dX3_layFirst_1 : decode cX3_layFirst 1 = .ok (.getfield 23, 3) := by decide +kernel
theorem dX3_layFirst_10 : decode cX3_layFirst 10 = .ok (.iload_n 3, 1) := by decide +kernel
theorem dX3_layFirst_11 : decode cX3_layFirst 11 = .ok (.aload_n 1, 1) := by decide +kernel
theorem dX3_layFirst_110 : decode cX3_layFirst 110 = .ok (.return_, 1) := by decide +kernel
theorem dX3_layFirst_12 : decode cX3_layFirst 12 = .ok (.arraylength, 1) := by decide +kernel
theorem dX3_layFirst_13 : decode cX3_layFirst 13 = .ok (.if_icmp .ge 13, 3) := by decide +kernel
theorem dX3_layFirst_16 : decode cX3_layFirst 16 = .ok (.aload_n 1, 1) := by decide +kernel
theorem dX3_layFirst_17 : decode cX3_layFirst 17 = .ok (.iload_n 3, 1) := by decide +kernel
theorem dX3_layFirst_18 : decode cX3_layFirst 18 = .ok (.iconst (-1), 1) := by decide +kernel
theorem dX3_layFirst_19 : decode cX3_layFirst 19 = .ok (.iastore, 1) := by decide +kernel
theorem dX3_layFirst_20 : decode cX3_layFirst 20 = .ok (.iinc 3 1, 3) := by decide +kernel
theorem dX3_layFirst_23 : decode cX3_layFirst 23 = .ok (.goto (-13), 3) := by decide +kernel
theorem dX3_layFirst_26 : decode cX3_layFirst 26 = .ok (.iconst 0, 1) := by decide +kernel
theorem dX3_layFirst_27 : decode cX3_layFirst 27 = .ok (.istore_n 3, 1) := by decide +kernel
theorem dX3_layFirst_28 : decode cX3_layFirst 28 = .ok (.iload_n 3, 1) := by decide +kernel
theorem dX3_layFirst_29 : decode cX3_layFirst 29 = .ok (.aload_n 0, 1) := by decide +kernel
theorem dX3_layFirst_30 : decode cX3_layFirst 30 = .ok (.getfield 23, 3) := by decide +kernel
theorem dX3_layFirst_33 : decode cX3_layFirst 33 = .ok (.getfield 81, 3) := by decide +kernel
theorem dX3_layFirst_36 : decode cX3_layFirst 36 = .ok (.if_icmp .ge 74, 3) := by decide +kernel
theorem dX3_layFirst_4 : decode cX3_layFirst 4 = .ok (.invokevirtual 77, 3) := by decide +kernel
theorem dX3_layFirst_7 : decode cX3_layFirst 7 = .ok (.istore_n 2, 1) := by decide +kernel
theorem dX3_layFirst_8 : decode cX3_layFirst 8 = .ok (.iconst 0, 1) := by decide +kernel
theorem dX3_layFirst_9 : decode cX3_layFirst 9 = .ok (.istore_n 3, 1) := by decide +kernel
set_option maxRecDepth 20000 in
theorem ggX9_becomeFirst_X3_layFirst : GoodIn wsX9_becomeFirst wsX3_layFirst := goodIn_r _ [7, 8, 9, 10, 11, 12, 13, 14, 15, 16, 17, 6, 18, 19, 20, 21, 22, 23, 24, 25, 26, 27, 28, 29, 30, 31, 32, 33, 34, 35, 36, 37, 38, 39, 40, 41, 42, 43, 44, 45, 46, 47, 48, 49, 50, 51, 52, 53, 54, 55, 56, 57, 58, 59, 60, 61, 62, 63, 64, 65, 66, 67, 68, 69, 76, 77, 78, 79, 80, 81, 82, 83, 84] rfl (by decide +kernel)
set_option maxRecDepth 20000 in
theorem gX9_becomeFirst_X3_layFirst : GoodIn wsX9_becomeFirst (wsV RX9 29 RX3 yX3_layFirst wsX3_layFirst) := goodIn_app (goodIn_of _ (by decide +kernel)) ggX9_becomeFirst_X3_layFirst
theorem dX9_becomeFirst_0 : decode cX9_becomeFirst 0 = .ok (.aload_n 0, 1) := by decide +kernel
theorem dX9_becomeFirst_1 : decode cX9_becomeFirst 1 = .ok (.getfield 25, 3) := by decide +kernel
theorem dX9_becomeFirst_11 : decode cX9_becomeFirst 11 = .ok (.return_, 1) := by decide +kernel
theorem dX9_becomeFirst_4 : decode cX9_becomeFirst 4 = .ok (.aload_n 0, 1) := by decide +kernel
theorem dX9_becomeFirst_5 : decode cX9_becomeFirst 5 = .ok (.getfield 9, 3) := by decide +kernel
theorem dX9_becomeFirst_8 : decode cX9_becomeFirst 8 = .ok (.invokevirtual 29, 3) := by decide +kernel
theorem dX8_byteAt_0 : decode cX8_byteAt 0 = .ok (.iload_n 1, 1) := by decide +kernel
theorem dX8_byteAt_1 : decode cX8_byteAt 1 = .ok (.ifCond .lt 26, 3) := by decide +kernel
theorem dX8_byteAt_27 : decode cX8_byteAt 27 = .ok (.iconst (-1), 1) := by decide +kernel
theorem dX8_byteAt_28 : decode cX8_byteAt 28 = .ok (.ireturn, 1) := by decide +kernel
theorem dX8_byteAt_4 : decode cX8_byteAt 4 = .ok (.iload_n 1, 1) := by decide +kernel
theorem dX8_byteAt_5 : decode cX8_byteAt 5 = .ok (.aload_n 0, 1) := by decide +kernel
theorem dX8_byteAt_6 : decode cX8_byteAt 6 = .ok (.getfield 15, 3) := by decide +kernel
theorem dX8_byteAt_9 : decode cX8_byteAt 9 = .ok (.if_icmp .ge 18, 3) := by decide +kernel
theorem dX5_tokenOf_0 : decode cX5_tokenOf 0 = .ok (.iload_n 0, 1) := by decide +kernel
theorem dX5_tokenOf_1 : decode cX5_tokenOf 1 = .ok (.ifCond .ge 5, 3) := by decide +kernel
theorem dX5_tokenOf_4 : decode cX5_tokenOf 4 = .ok (.iconst (-1), 1) := by decide +kernel
theorem dX5_tokenOf_5 : decode cX5_tokenOf 5 = .ok (.ireturn, 1) := by decide +kernel
set_option maxRecDepth 20000 in
theorem ggX5_step_X5_tokenOf : GoodIn wsX5_step wsX5_tokenOf := goodIn_r _ [16] rfl (by decide +kernel)
set_option maxRecDepth 20000 in
theorem gX5_step_X5_tokenOf : GoodIn wsX5_step (va_wsS RX5 54 yX5_tokenOf wsX5_tokenOf) := goodIn_app (goodIn_of _ (by decide +kernel)) ggX5_step_X5_tokenOf
set_option maxRecDepth 20000 in
theorem ggX5_step_X8_byteAt : GoodIn wsX5_step wsX8_byteAt := goodIn_r _ [10, 11, 12, 25, 26] rfl (by decide +kernel)
set_option maxRecDepth 20000 in
theorem gX5_step_X8_byteAt : GoodIn wsX5_step (wsV RX5 45 RX8 yX8_byteAt wsX8_byteAt) := goodIn_app (goodIn_of _ (by decide +kernel)) ggX5_step_X8_byteAt
theorem dX5_step_0 : decode cX5_step 0 = .ok (.iconst 0, 1) := by decide +kernel
theorem dX5_step_1 : decode cX5_step 1 = .ok (.istore_n 1, 1) := by decide +kernel
theorem dX5_step_102 : decode cX5_step 102 = .ok (.return_, 1) := by decide +kernel
theorem dX5_step_12 : decode cX5_step 12 = .ok (.aload_n 0, 1) := by decide +kernel
theorem dX5_step_13 : decode cX5_step 13 = .ok (.getfield 23, 3) := by decide +kernel
theorem dX5_step_16 : decode cX5_step 16 = .ok (.invokevirtual 45, 3) := by decide +kernel
theorem dX5_step_19 : decode cX5_step 19 = .ok (.bipush 32, 2) := by decide +kernel
theorem dX5_step_2 : decode cX5_step 2 = .ok (.iload_n 1, 1) := by decide +kernel
theorem dX5_step_21 : decode cX5_step 21 = .ok (.if_icmp .ne 19, 3) := by decide +kernel
theorem dX5_step_3 : decode cX5_step 3 = .ok (.bipush 120, 2) := by decide +kernel
theorem dX5_step_40 : decode cX5_step 40 = .ok (.aload_n 0, 1) := by decide +kernel
theorem dX5_step_41 : decode cX5_step 41 = .ok (.aload_n 0, 1) := by decide +kernel
theorem dX5_step_42 : decode cX5_step 42 = .ok (.getfield 23, 3) := by decide +kernel
theorem dX5_step_45 : decode cX5_step 45 = .ok (.putfield 42, 3) := by decide +kernel
theorem dX5_step_48 : decode cX5_step 48 = .ok (.aload_n 0, 1) := by decide +kernel
theorem dX5_step_49 : decode cX5_step 49 = .ok (.iconst 0, 1) := by decide +kernel
theorem dX5_step_5 : decode cX5_step 5 = .ok (.if_icmp .ge 35, 3) := by decide +kernel
theorem dX5_step_50 : decode cX5_step 50 = .ok (.putfield 51, 3) := by decide +kernel
theorem dX5_step_53 : decode cX5_step 53 = .ok (.aload_n 0, 1) := by decide +kernel
theorem dX5_step_54 : decode cX5_step 54 = .ok (.aload_n 0, 1) := by decide +kernel
theorem dX5_step_55 : decode cX5_step 55 = .ok (.getfield 15, 3) := by decide +kernel
theorem dX5_step_58 : decode cX5_step 58 = .ok (.aload_n 0, 1) := by decide +kernel
theorem dX5_step_59 : decode cX5_step 59 = .ok (.getfield 23, 3) := by decide +kernel
theorem dX5_step_62 : decode cX5_step 62 = .ok (.invokevirtual 45, 3) := by decide +kernel
theorem dX5_step_65 : decode cX5_step 65 = .ok (.invokestatic 54, 3) := by decide +kernel
theorem dX5_step_68 : decode cX5_step 68 = .ok (.putfield 36, 3) := by decide +kernel
theorem dX5_step_71 : decode cX5_step 71 = .ok (.aload_n 0, 1) := by decide +kernel
theorem dX5_step_72 : decode cX5_step 72 = .ok (.getfield 36, 3) := by decide +kernel
theorem dX5_step_75 : decode cX5_step 75 = .ok (.bipush (-2), 2) := by decide +kernel
theorem dX5_step_77 : decode cX5_step 77 = .ok (.if_icmp .eq 26, 3) := by decide +kernel
theorem dX5_step_8 : decode cX5_step 8 = .ok (.aload_n 0, 1) := by decide +kernel
theorem dX5_step_80 : decode cX5_step 80 = .ok (.aload_n 0, 1) := by decide +kernel
theorem dX5_step_81 : decode cX5_step 81 = .ok (.dup, 1) := by decide +kernel
theorem dX5_step_82 : decode cX5_step 82 = .ok (.getfield 23, 3) := by decide +kernel
theorem dX5_step_85 : decode cX5_step 85 = .ok (.aload_n 0, 1) := by decide +kernel
theorem dX5_step_86 : decode cX5_step 86 = .ok (.getfield 36, 3) := by decide +kernel
theorem dX5_step_89 : decode cX5_step 89 = .ok (.iconst (-1), 1) := by decide +kernel
theorem dX5_step_9 : decode cX5_step 9 = .ok (.getfield 15, 3) := by decide +kernel
theorem dX5_step_90 : decode cX5_step 90 = .ok (.if_icmp .ne 7, 3) := by decide +kernel
theorem dX5_step_93 : decode cX5_step 93 = .ok (.iconst 0, 1) := by decide +kernel
theorem dX5_step_94 : decode cX5_step 94 = .ok (.goto 4, 3) := by decide +kernel
theorem dX5_step_98 : decode cX5_step 98 = .ok (.iadd, 1) := by decide +kernel
theorem dX5_step_99 : decode cX5_step 99 = .ok (.putfield 23, 3) := by decide +kernel
theorem dX5_fail_0 : decode cX5_fail 0 = .ok (.aload_n 0, 1) := by decide +kernel
theorem dX5_fail_1 : decode cX5_fail 1 = .ok (.getfield 27, 3) := by decide +kernel
theorem dX5_fail_12 : decode cX5_fail 12 = .ok (.putfield 27, 3) := by decide +kernel
theorem dX5_fail_15 : decode cX5_fail 15 = .ok (.return_, 1) := by decide +kernel
theorem dX5_fail_4 : decode cX5_fail 4 = .ok (.ifCond .ge 11, 3) := by decide +kernel
theorem dX5_fail_7 : decode cX5_fail 7 = .ok (.aload_n 0, 1) := by decide +kernel
theorem dX5_fail_8 : decode cX5_fail 8 = .ok (.aload_n 0, 1) := by decide +kernel
theorem dX5_fail_9 : decode cX5_fail 9 = .ok (.getfield 42, 3) := by decide +kernel
set_option maxRecDepth 20000 in
theorem ggX5_readItem_X5_fail : GoodIn wsX5_readItem wsX5_fail := goodIn_r _ [22, 23, 24, 57, 58, 59, 60, 61, 62, 63, 64] rfl (by decide +kernel)
set_option maxRecDepth 20000 in
theorem gX5_readItem_X5_fail : GoodIn wsX5_readItem (wsV RX5 39 RX5 yX5_fail wsX5_fail) := goodIn_app (goodIn_of _ (by decide +kernel)) ggX5_readItem_X5_fail
theorem dX5_readItem_0 : decode cX5_readItem 0 = .ok (.aload_n 0, 1) := by decide +kernel
theorem dX5_readItem_1 : decode cX5_readItem 1 = .ok (.getfield 36, 3) := by decide +kernel
theorem dX5_readItem_16 : decode cX5_readItem 16 = .ok (.aload_n 0, 1) := by decide +kernel
theorem dX5_readItem_17 : decode cX5_readItem 17 = .ok (.getfield 36, 3) := by decide +kernel
theorem dX5_readItem_20 : decode cX5_readItem 20 = .ok (.bipush 40, 2) := by decide +kernel
theorem dX5_readItem_22 : decode cX5_readItem 22 = .ok (.if_icmp .ne 13, 3) := by decide +kernel
theorem dX5_readItem_35 : decode cX5_readItem 35 = .ok (.aload_n 0, 1) := by decide +kernel
theorem dX5_readItem_36 : decode cX5_readItem 36 = .ok (.getfield 36, 3) := by decide +kernel
theorem dX5_readItem_39 : decode cX5_readItem 39 = .ok (.bipush 91, 2) := by decide +kernel
theorem dX5_readItem_4 : decode cX5_readItem 4 = .ok (.bipush (-2), 2) := by decide +kernel
theorem dX5_readItem_41 : decode cX5_readItem 41 = .ok (.if_icmp .ne 13, 3) := by decide +kernel
theorem dX5_readItem_54 : decode cX5_readItem 54 = .ok (.aload_n 0, 1) := by decide +kernel
theorem dX5_readItem_55 : decode cX5_readItem 55 = .ok (.invokevirtual 39, 3) := by decide +kernel
theorem dX5_readItem_58 : decode cX5_readItem 58 = .ok (.return_, 1) := by decide +kernel
theorem dX5_readItem_6 : decode cX5_readItem 6 = .ok (.if_icmp .ne 10, 3) := by decide +kernel
set_option maxRecDepth 20000 in
theorem ggX5_readAll_X5_readItem : GoodIn wsX5_readAll wsX5_readItem := goodIn_r _ [26, 4, 27, 28, 29, 8, 30, 31, 32, 33, 34, 35, 12, 36, 37, 38, 39, 40, 41, 42, 43, 44, 45, 3, 11, 5, 6, 7, 9, 10, 2, 13, 14, 15, 16, 17, 18, 19, 20, 21, 22, 46, 47, 48, 49, 1, 50, 51, 52, 53, 54, 55, 56, 57, 58, 59, 60, 61, 62, 63, 64, 65, 66, 67, 68, 71, 72, 73, 69, 70] rfl (by decide +kernel)
set_option maxRecDepth 20000 in
theorem gX5_readAll_X5_readItem : GoodIn wsX5_readAll (wsV RX5 33 RX5 yX5_readItem wsX5_readItem) := goodIn_app (goodIn_of _ (by decide +kernel)) ggX5_readAll_X5_readItem
set_option maxRecDepth 20000 in
theorem ggX5_readAll_X5_step : GoodIn wsX5_readAll wsX5_step := goodIn_r _ [9, 10, 2, 11, 12, 4, 13, 14, 15, 16, 17, 18, 19, 20, 21, 8, 22, 61, 62, 63, 64, 65, 66, 67, 68, 69, 70] rfl (by decide +kernel)
set_option maxRecDepth 20000 in
theorem gX5_readAll_X5_step : GoodIn wsX5_readAll (wsV RX5 30 RX5 yX5_step wsX5_step) := goodIn_app (goodIn_of _ (by decide +kernel)) ggX5_readAll_X5_step
theorem dX5_readAll_0 : decode cX5_readAll 0 = .ok (.iconst 0, 1) := by decide +kernel
theorem dX5_readAll_1 : decode cX5_readAll 1 = .ok (.istore_n 1, 1) := by decide +kernel
theorem dX5_readAll_12 : decode cX5_readAll 12 = .ok (.iload_n 1, 1) := by decide +kernel
theorem dX5_readAll_13 : decode cX5_readAll 13 = .ok (.iconst 0, 1) := by decide +kernel
theorem dX5_readAll_14 : decode cX5_readAll 14 = .ok (.iastore, 1) := by decide +kernel
theorem dX5_readAll_15 : decode cX5_readAll 15 = .ok (.iinc 1 1, 3) := by decide +kernel
theorem dX5_readAll_18 : decode cX5_readAll 18 = .ok (.goto (-16), 3) := by decide +kernel
theorem dX5_readAll_2 : decode cX5_readAll 2 = .ok (.iload_n 1, 1) := by decide +kernel
theorem dX5_readAll_21 : decode cX5_readAll 21 = .ok (.aload_n 0, 1) := by decide +kernel
theorem dX5_readAll_22 : decode cX5_readAll 22 = .ok (.iconst 0, 1) := by decide +kernel
theorem dX5_readAll_23 : decode cX5_readAll 23 = .ok (.putfield 23, 3) := by decide +kernel
theorem dX5_readAll_26 : decode cX5_readAll 26 = .ok (.aload_n 0, 1) := by decide +kernel
theorem dX5_readAll_27 : decode cX5_readAll 27 = .ok (.iconst (-1), 1) := by decide +kernel
theorem dX5_readAll_28 : decode cX5_readAll 28 = .ok (.putfield 27, 3) := by decide +kernel
theorem dX5_readAll_3 : decode cX5_readAll 3 = .ok (.bipush 12, 2) := by decide +kernel
theorem dX5_readAll_31 : decode cX5_readAll 31 = .ok (.aload_n 0, 1) := by decide +kernel
theorem dX5_readAll_32 : decode cX5_readAll 32 = .ok (.invokevirtual 30, 3) := by decide +kernel
theorem dX5_readAll_35 : decode cX5_readAll 35 = .ok (.aload_n 0, 1) := by decide +kernel
theorem dX5_readAll_36 : decode cX5_readAll 36 = .ok (.invokevirtual 33, 3) := by decide +kernel
theorem dX5_readAll_39 : decode cX5_readAll 39 = .ok (.iconst 0, 1) := by decide +kernel
theorem dX5_readAll_40 : decode cX5_readAll 40 = .ok (.istore_n 1, 1) := by decide +kernel
theorem dX5_readAll_41 : decode cX5_readAll 41 = .ok (.iload_n 1, 1) := by decide +kernel
theorem dX5_readAll_42 : decode cX5_readAll 42 = .ok (.bipush 120, 2) := by decide +kernel
theorem dX5_readAll_44 : decode cX5_readAll 44 = .ok (.if_icmp .ge 33, 3) := by decide +kernel
theorem dX5_readAll_47 : decode cX5_readAll 47 = .ok (.aload_n 0, 1) := by decide +kernel
theorem dX5_readAll_48 : decode cX5_readAll 48 = .ok (.getfield 27, 3) := by decide +kernel
theorem dX5_readAll_5 : decode cX5_readAll 5 = .ok (.if_icmp .ge 16, 3) := by decide +kernel
theorem dX5_readAll_51 : decode cX5_readAll 51 = .ok (.ifCond .ge 26, 3) := by decide +kernel
theorem dX5_readAll_77 : decode cX5_readAll 77 = .ok (.aload_n 0, 1) := by decide +kernel
theorem dX5_readAll_78 : decode cX5_readAll 78 = .ok (.getfield 36, 3) := by decide +kernel
theorem dX5_readAll_8 : decode cX5_readAll 8 = .ok (.aload_n 0, 1) := by decide +kernel
theorem dX5_readAll_81 : decode cX5_readAll 81 = .ok (.iconst (-1), 1) := by decide +kernel
theorem dX5_readAll_82 : decode cX5_readAll 82 = .ok (.if_icmp .eq 7, 3) := by decide +kernel
theorem dX5_readAll_89 : decode cX5_readAll 89 = .ok (.aload_n 0, 1) := by decide +kernel
theorem dX5_readAll_9 : decode cX5_readAll 9 = .ok (.getfield 9, 3) := by decide +kernel
theorem dX5_readAll_90 : decode cX5_readAll 90 = .ok (.getfield 27, 3) := by decide +kernel
theorem dX5_readAll_93 : decode cX5_readAll 93 = .ok (.ireturn, 1) := by decide +kernel
theorem dX11_isShelf_0 : decode cX11_isShelf 0 = .ok (.iload_n 0, 1) := by decide +kernel
theorem dX11_isShelf_1 : decode cX11_isShelf 1 = .ok (.ifCond .lt 12, 3) := by decide +kernel
theorem dX11_isShelf_10 : decode cX11_isShelf 10 = .ok (.goto 4, 3) := by decide +kernel
theorem dX11_isShelf_13 : decode cX11_isShelf 13 = .ok (.iconst 0, 1) := by decide +kernel
theorem dX11_isShelf_14 : decode cX11_isShelf 14 = .ok (.ireturn, 1) := by decide +kernel
theorem dX11_isShelf_4 : decode cX11_isShelf 4 = .ok (.iload_n 0, 1) := by decide +kernel
theorem dX11_isShelf_5 : decode cX11_isShelf 5 = .ok (.iconst 4, 1) := by decide +kernel
theorem dX11_isShelf_6 : decode cX11_isShelf 6 = .ok (.if_icmp .ge 7, 3) := by decide +kernel
theorem dX11_isShelf_9 : decode cX11_isShelf 9 = .ok (.iconst 1, 1) := by decide +kernel
set_option maxRecDepth 20000 in
theorem ggX11_shelvePoint_X2_hasPoint : GoodIn wsX11_shelvePoint wsX2_hasPoint := goodIn_r _ [8, 9, 101, 102, 103] rfl (by decide +kernel)
set_option maxRecDepth 20000 in
theorem gX11_shelvePoint_X2_hasPoint : GoodIn wsX11_shelvePoint (wsV RX11 116 RX2 yX2_hasPoint wsX2_hasPoint) := goodIn_app (goodIn_of _ (by decide +kernel)) ggX11_shelvePoint_X2_hasPoint
theorem dX11_shelvePoint_0 : decode cX11_shelvePoint 0 = .ok (.aload_n 0, 1) := by decide +kernel
theorem dX11_shelvePoint_1 : decode cX11_shelvePoint 1 = .ok (.getfield 12, 3) := by decide +kernel
theorem dX11_shelvePoint_11 : decode cX11_shelvePoint 11 = .ok (.bipush (-2), 2) := by decide +kernel
theorem dX11_shelvePoint_13 : decode cX11_shelvePoint 13 = .ok (.ireturn, 1) := by decide +kernel
theorem dX11_shelvePoint_4 : decode cX11_shelvePoint 4 = .ok (.iload_n 2, 1) := by decide +kernel
theorem dX11_shelvePoint_5 : decode cX11_shelvePoint 5 = .ok (.invokevirtual 116, 3) := by decide +kernel
theorem dX11_shelvePoint_8 : decode cX11_shelvePoint 8 = .ok (.ifCond .ne 6, 3) := by decide +kernel
set_option maxRecDepth 20000 in
theorem ggX11_shelvePiece_X2_pieceAt : GoodIn wsX11_shelvePiece wsX2_pieceAt := goodIn_r _ [74, 69, 75, 18, 19, 20, 21, 22, 76, 77, 78, 79, 80, 47, 81, 82, 83, 84, 49, 117, 118, 119] rfl (by decide +kernel)
set_option maxRecDepth 20000 in
theorem gX11_shelvePiece_X2_pieceAt : GoodIn wsX11_shelvePiece (wsV RX11 169 RX2 yX2_pieceAt wsX2_pieceAt) := goodIn_app (goodIn_of _ (by decide +kernel)) ggX11_shelvePiece_X2_pieceAt
set_option maxRecDepth 20000 in
theorem ggX11_shelvePiece_X4_allOf : GoodIn wsX11_shelvePiece wsX4_allOf := goodIn_r _ [8, 9, 10, 11, 12, 13, 14, 15, 16, 17, 18, 19, 20, 21, 22, 23, 24, 25, 26, 27, 28, 29, 30, 31, 32, 33, 34, 35, 36, 37, 38, 39, 40, 41, 42, 43, 44, 45, 46, 47, 48, 49, 50, 51, 52, 53, 54, 55, 56, 57, 58, 59, 60, 61, 62, 63, 64, 65, 66, 67, 68, 69, 70, 111, 112, 113, 114, 115, 116, 117, 118, 119, 120, 121] rfl (by decide +kernel)
set_option maxRecDepth 20000 in
theorem gX11_shelvePiece_X4_allOf : GoodIn wsX11_shelvePiece (wsV RX11 163 RX4 yX4_allOf wsX4_allOf) := goodIn_app (goodIn_of _ (by decide +kernel)) ggX11_shelvePiece_X4_allOf
theorem dX11_shelvePiece_0 : decode cX11_shelvePiece 0 = .ok (.aload_n 0, 1) := by decide +kernel
theorem dX11_shelvePiece_1 : decode cX11_shelvePiece 1 = .ok (.getfield 12, 3) := by decide +kernel
theorem dX11_shelvePiece_12 : decode cX11_shelvePiece 12 = .ok (.iload 4, 2) := by decide +kernel
theorem dX11_shelvePiece_14 : decode cX11_shelvePiece 14 = .ok (.invokevirtual 169, 3) := by decide +kernel
theorem dX11_shelvePiece_17 : decode cX11_shelvePiece 17 = .ok (.istore 5, 2) := by decide +kernel
theorem dX11_shelvePiece_19 : decode cX11_shelvePiece 19 = .ok (.iload 5, 2) := by decide +kernel
theorem dX11_shelvePiece_21 : decode cX11_shelvePiece 21 = .ok (.ifCond .ne 8, 3) := by decide +kernel
theorem dX11_shelvePiece_24 : decode cX11_shelvePiece 24 = .ok (.bipush (-2), 2) := by decide +kernel
theorem dX11_shelvePiece_26 : decode cX11_shelvePiece 26 = .ok (.goto 14, 3) := by decide +kernel
theorem dX11_shelvePiece_4 : decode cX11_shelvePiece 4 = .ok (.aload_n 0, 1) := by decide +kernel
theorem dX11_shelvePiece_40 : decode cX11_shelvePiece 40 = .ok (.ireturn, 1) := by decide +kernel
theorem dX11_shelvePiece_5 : decode cX11_shelvePiece 5 = .ok (.getfield 30, 3) := by decide +kernel
theorem dX11_shelvePiece_8 : decode cX11_shelvePiece 8 = .ok (.iload_n 3, 1) := by decide +kernel
theorem dX11_shelvePiece_9 : decode cX11_shelvePiece 9 = .ok (.invokevirtual 163, 3) := by decide +kernel
set_option maxRecDepth 20000 in
theorem ggX7_put_X11_isShelf : GoodIn wsX7_put wsX11_isShelf := goodIn_r _ [5] rfl (by decide +kernel)
set_option maxRecDepth 20000 in
theorem gX7_put_X11_isShelf_n18 : GoodIn wsX7_put (wsX11_isShelf) := ggX7_put_X11_isShelf
theorem dX7_put_0 : decode cX7_put 0 = .ok (.iload_n 1, 1) := by decide +kernel
theorem dX7_put_1 : decode cX7_put 1 = .ok (.invokestatic 18, 3) := by decide +kernel
theorem dX7_put_10 : decode cX7_put 10 = .ok (.aload_n 0, 1) := by decide +kernel
theorem dX7_put_11 : decode cX7_put 11 = .ok (.getfield 11, 3) := by decide +kernel
theorem dX7_put_14 : decode cX7_put 14 = .ok (.iload_n 1, 1) := by decide +kernel
theorem dX7_put_15 : decode cX7_put 15 = .ok (.iload_n 2, 1) := by decide +kernel
theorem dX7_put_16 : decode cX7_put 16 = .ok (.iastore, 1) := by decide +kernel
theorem dX7_put_17 : decode cX7_put 17 = .ok (.aload_n 0, 1) := by decide +kernel
theorem dX7_put_18 : decode cX7_put 18 = .ok (.getfield 15, 3) := by decide +kernel
theorem dX7_put_21 : decode cX7_put 21 = .ok (.iload_n 1, 1) := by decide +kernel
theorem dX7_put_22 : decode cX7_put 22 = .ok (.iload_n 3, 1) := by decide +kernel
theorem dX7_put_23 : decode cX7_put 23 = .ok (.iastore, 1) := by decide +kernel
theorem dX7_put_24 : decode cX7_put 24 = .ok (.iconst 1, 1) := by decide +kernel
theorem dX7_put_25 : decode cX7_put 25 = .ok (.ireturn, 1) := by decide +kernel
theorem dX7_put_4 : decode cX7_put 4 = .ok (.ifCond .ne 6, 3) := by decide +kernel
theorem dX7_put_7 : decode cX7_put 7 = .ok (.bipush (-2), 2) := by decide +kernel
theorem dX7_put_9 : decode cX7_put 9 = .ok (.ireturn, 1) := by decide +kernel
set_option maxRecDepth 20000 in
theorem ggX11_shelveArea_X2_hasAll : GoodIn wsX11_shelveArea wsX2_hasAll := goodIn_r _ [7, 8, 9, 10, 6, 11, 12, 39, 40, 41] rfl (by decide +kernel)
set_option maxRecDepth 20000 in
theorem gX11_shelveArea_X2_hasAll : GoodIn wsX11_shelveArea (wsV RX11 144 RX2 yX2_hasAll wsX2_hasAll) := goodIn_app (goodIn_of _ (by decide +kernel)) ggX11_shelveArea_X2_hasAll
set_option maxRecDepth 20000 in
theorem ggX11_shelveArea_X7_put : GoodIn wsX11_shelveArea wsX7_put := goodIn_r _ [17, 18, 19, 20, 21, 22, 42, 43] rfl (by decide +kernel)
set_option maxRecDepth 20000 in
theorem gX11_shelveArea_X7_put : GoodIn wsX11_shelveArea (wsV RX11 302 RX7 yX7_put wsX7_put) := goodIn_app (goodIn_of _ (by decide +kernel)) ggX11_shelveArea_X7_put
theorem dX11_shelveArea_0 : decode cX11_shelveArea 0 = .ok (.aload_n 0, 1) := by decide +kernel
theorem dX11_shelveArea_1 : decode cX11_shelveArea 1 = .ok (.getfield 12, 3) := by decide +kernel
theorem dX11_shelveArea_11 : decode cX11_shelveArea 11 = .ok (.aload_n 0, 1) := by decide +kernel
theorem dX11_shelveArea_12 : decode cX11_shelveArea 12 = .ok (.getfield 92, 3) := by decide +kernel
theorem dX11_shelveArea_15 : decode cX11_shelveArea 15 = .ok (.iload_n 1, 1) := by decide +kernel
theorem dX11_shelveArea_16 : decode cX11_shelveArea 16 = .ok (.iconst 2, 1) := by decide +kernel
theorem dX11_shelveArea_17 : decode cX11_shelveArea 17 = .ok (.iload_n 2, 1) := by decide +kernel
theorem dX11_shelveArea_18 : decode cX11_shelveArea 18 = .ok (.invokevirtual 302, 3) := by decide +kernel
theorem dX11_shelveArea_21 : decode cX11_shelveArea 21 = .ok (.goto 5, 3) := by decide +kernel
theorem dX11_shelveArea_24 : decode cX11_shelveArea 24 = .ok (.bipush (-2), 2) := by decide +kernel
theorem dX11_shelveArea_26 : decode cX11_shelveArea 26 = .ok (.ireturn, 1) := by decide +kernel
theorem dX11_shelveArea_4 : decode cX11_shelveArea 4 = .ok (.iload_n 2, 1) := by decide +kernel
theorem dX11_shelveArea_5 : decode cX11_shelveArea 5 = .ok (.invokevirtual 144, 3) := by decide +kernel
theorem dX11_shelveArea_8 : decode cX11_shelveArea 8 = .ok (.ifCond .eq 16, 3) := by decide +kernel
set_option maxRecDepth 20000 in
theorem ggX11_shelveRow_X11_refusalOfSheet : GoodIn wsX11_shelveRow wsX11_refusalOfSheet := goodIn_r _ [7, 2, 8, 9, 6, 10, 11, 12, 13, 14, 15, 16, 26, 27, 28, 29, 30, 31, 32, 33, 34, 35, 36, 37, 38, 39, 40, 41, 42, 43, 44] rfl (by decide +kernel)
set_option maxRecDepth 20000 in
theorem gX11_shelveRow_X11_refusalOfSheet : GoodIn wsX11_shelveRow (wsV RX11 218 RX11 yX11_refusalOfSheet wsX11_refusalOfSheet) := goodIn_app (goodIn_of _ (by decide +kernel)) ggX11_shelveRow_X11_refusalOfSheet
theorem dX11_shelveRow_0 : decode cX11_shelveRow 0 = .ok (.aload_n 0, 1) := by decide +kernel
theorem dX11_shelveRow_1 : decode cX11_shelveRow 1 = .ok (.iload_n 2, 1) := by decide +kernel
theorem dX11_shelveRow_10 : decode cX11_shelveRow 10 = .ok (.iload_n 3, 1) := by decide +kernel
theorem dX11_shelveRow_11 : decode cX11_shelveRow 11 = .ok (.ireturn, 1) := by decide +kernel
theorem dX11_shelveRow_2 : decode cX11_shelveRow 2 = .ok (.invokevirtual 218, 3) := by decide +kernel
theorem dX11_shelveRow_5 : decode cX11_shelveRow 5 = .ok (.istore_n 3, 1) := by decide +kernel
theorem dX11_shelveRow_6 : decode cX11_shelveRow 6 = .ok (.iload_n 3, 1) := by decide +kernel
theorem dX11_shelveRow_7 : decode cX11_shelveRow 7 = .ok (.ifCond .eq 5, 3) := by decide +kernel
set_option maxRecDepth 20000 in
theorem ggX11_shelf_X11_isShelf : GoodIn wsX11_shelf wsX11_isShelf := goodIn_r _ [5] rfl (by decide +kernel)
set_option maxRecDepth 20000 in
theorem gX11_shelf_X11_isShelf : GoodIn wsX11_shelf (va_wsS RX11 286 yX11_isShelf wsX11_isShelf) := goodIn_app (goodIn_of _ (by decide +kernel)) ggX11_shelf_X11_isShelf
set_option maxRecDepth 20000 in
theorem ggX11_shelf_X11_shelveArea : GoodIn wsX11_shelf wsX11_shelveArea := goodIn_r _ [120, 10, 1, 121, 122, 123, 15, 124, 107, 32, 33, 34, 17, 83, 84, 85, 86, 87, 88, 89, 3, 4, 5, 143, 144, 145, 146, 147, 148, 149, 150, 151, 152, 153, 154, 155, 156, 157, 158, 159, 160, 161, 170, 171] rfl (by decide +kernel)
set_option maxRecDepth 20000 in
theorem gX11_shelf_X11_shelveArea : GoodIn wsX11_shelf (wsV RX11 296 RX11 yX11_shelveArea wsX11_shelveArea) := goodIn_app (goodIn_of _ (by decide +kernel)) ggX11_shelf_X11_shelveArea
set_option maxRecDepth 20000 in
theorem ggX11_shelf_X11_shelvePiece : GoodIn wsX11_shelf wsX11_shelvePiece := goodIn_r _ [93, 10, 11, 1, 94, 95, 96, 21, 97, 23, 24, 25, 26, 27, 28, 29, 30, 31, 32, 33, 15, 34, 17, 35, 36, 37, 38, 39, 40, 41, 42, 43, 44, 45, 46, 47, 48, 49, 50, 51, 52, 53, 54, 55, 56, 57, 58, 59, 60, 61, 62, 63, 64, 65, 66, 67, 68, 69, 70, 71, 72, 73, 74, 75, 76, 98, 99, 100, 101, 81, 102, 103, 104, 105, 106, 107, 108, 109, 110, 111, 112, 113, 114, 115, 116, 83, 84, 85, 86, 87, 88, 89, 3, 4, 5, 143, 144, 145, 146, 147, 148, 149, 150, 151, 152, 153, 154, 155, 156, 157, 158, 162, 163, 164, 165, 166, 167, 159, 160, 161, 168, 169, 170, 171] rfl (by decide +kernel)
set_option maxRecDepth 20000 in
theorem gX11_shelf_X11_shelvePiece : GoodIn wsX11_shelf (wsV RX11 292 RX11 yX11_shelvePiece wsX11_shelvePiece) := goodIn_app (goodIn_of _ (by decide +kernel)) ggX11_shelf_X11_shelvePiece
set_option maxRecDepth 20000 in
theorem ggX11_shelf_X11_shelvePoint : GoodIn wsX11_shelf wsX11_shelvePoint := goodIn_r _ [9, 10, 1, 11, 12, 13, 14, 15, 16, 17, 18, 19, 20, 21, 22, 23, 24, 25, 26, 27, 28, 29, 30, 31, 32, 33, 34, 35, 36, 37, 38, 39, 40, 41, 42, 43, 44, 45, 46, 47, 48, 49, 50, 51, 52, 53, 54, 55, 56, 57, 58, 59, 60, 61, 62, 63, 64, 65, 66, 67, 68, 69, 70, 71, 72, 73, 74, 75, 76, 77, 78, 79, 80, 81, 82, 83, 84, 85, 86, 87, 88, 89, 3, 4, 5, 143, 144, 145, 146, 147, 148, 149, 150, 151, 152, 153, 154, 155, 156, 157, 158, 159, 160, 161, 162, 163, 164, 165, 166, 167, 168, 169, 170, 171] rfl (by decide +kernel)
set_option maxRecDepth 20000 in
theorem gX11_shelf_X11_shelvePoint : GoodIn wsX11_shelf (wsV RX11 289 RX11 yX11_shelvePoint wsX11_shelvePoint) := goodIn_app (goodIn_of _ (by decide +kernel)) ggX11_shelf_X11_shelvePoint
set_option maxRecDepth 20000 in
theorem ggX11_shelf_X11_shelveRow : GoodIn wsX11_shelf wsX11_shelveRow := goodIn_r _ [128, 1, 129, 130, 131, 132, 4, 133, 134, 135, 136, 137, 138, 139, 140, 141, 142, 83, 84, 85, 86, 87, 88, 89, 3, 5, 143, 144, 145, 146, 147, 148, 149, 150, 151, 152, 153, 154, 155, 156, 157, 158, 172, 173, 174, 170, 171] rfl (by decide +kernel)
set_option maxRecDepth 20000 in
theorem gX11_shelf_X11_shelveRow : GoodIn wsX11_shelf (wsV RX11 299 RX11 yX11_shelveRow wsX11_shelveRow) := goodIn_app (goodIn_of _ (by decide +kernel)) ggX11_shelf_X11_shelveRow
set_option maxRecDepth 20000 in
theorem ggX11_shelf_X7_put : GoodIn wsX11_shelf wsX7_put := goodIn_r _ [87, 88, 89, 3, 4, 5, 170, 171] rfl (by decide +kernel)
set_option maxRecDepth 20000 in
theorem gX11_shelf_X7_put : GoodIn wsX11_shelf (wsV RX11 302 RX7 yX7_put wsX7_put) := goodIn_app (goodIn_of _ (by decide +kernel)) ggX11_shelf_X7_put
theorem dX11_shelf_0 : decode cX11_shelf 0 = .ok (.iload_n 1, 1) := by decide +kernel
theorem dX11_shelf_1 : decode cX11_shelf 1 = .ok (.invokestatic 286, 3) := by decide +kernel
theorem dX11_shelf_10 : decode cX11_shelf 10 = .ok (.iload_n 2, 1) := by decide +kernel
theorem dX11_shelf_100 : decode cX11_shelf 100 = .ok (.ireturn, 1) := by decide +kernel
theorem dX11_shelf_11 : decode cX11_shelf 11 = .ok (.tableswitch 87 0 5 #[37, 44, 53, 62, 69, 76], 37) := by decide +kernel
theorem dX11_shelf_4 : decode cX11_shelf 4 = .ok (.ifCond .ne 6, 3) := by decide +kernel
theorem dX11_shelf_48 : decode cX11_shelf 48 = .ok (.aload_n 0, 1) := by decide +kernel
theorem dX11_shelf_49 : decode cX11_shelf 49 = .ok (.iload_n 1, 1) := by decide +kernel
theorem dX11_shelf_50 : decode cX11_shelf 50 = .ok (.iload_n 3, 1) := by decide +kernel
theorem dX11_shelf_51 : decode cX11_shelf 51 = .ok (.invokevirtual 289, 3) := by decide +kernel
theorem dX11_shelf_54 : decode cX11_shelf 54 = .ok (.ireturn, 1) := by decide +kernel
theorem dX11_shelf_55 : decode cX11_shelf 55 = .ok (.aload_n 0, 1) := by decide +kernel
theorem dX11_shelf_56 : decode cX11_shelf 56 = .ok (.iload_n 1, 1) := by decide +kernel
theorem dX11_shelf_57 : decode cX11_shelf 57 = .ok (.iconst 4, 1) := by decide +kernel
theorem dX11_shelf_58 : decode cX11_shelf 58 = .ok (.iconst 0, 1) := by decide +kernel
theorem dX11_shelf_59 : decode cX11_shelf 59 = .ok (.iload_n 3, 1) := by decide +kernel
theorem dX11_shelf_60 : decode cX11_shelf 60 = .ok (.invokevirtual 292, 3) := by decide +kernel
theorem dX11_shelf_63 : decode cX11_shelf 63 = .ok (.ireturn, 1) := by decide +kernel
theorem dX11_shelf_64 : decode cX11_shelf 64 = .ok (.aload_n 0, 1) := by decide +kernel
theorem dX11_shelf_65 : decode cX11_shelf 65 = .ok (.iload_n 1, 1) := by decide +kernel
theorem dX11_shelf_66 : decode cX11_shelf 66 = .ok (.iconst 5, 1) := by decide +kernel
theorem dX11_shelf_67 : decode cX11_shelf 67 = .ok (.iconst 2, 1) := by decide +kernel
theorem dX11_shelf_68 : decode cX11_shelf 68 = .ok (.iload_n 3, 1) := by decide +kernel
theorem dX11_shelf_69 : decode cX11_shelf 69 = .ok (.invokevirtual 292, 3) := by decide +kernel
theorem dX11_shelf_7 : decode cX11_shelf 7 = .ok (.bipush (-2), 2) := by decide +kernel
theorem dX11_shelf_72 : decode cX11_shelf 72 = .ok (.ireturn, 1) := by decide +kernel
theorem dX11_shelf_73 : decode cX11_shelf 73 = .ok (.aload_n 0, 1) := by decide +kernel
theorem dX11_shelf_74 : decode cX11_shelf 74 = .ok (.iload_n 1, 1) := by decide +kernel
theorem dX11_shelf_75 : decode cX11_shelf 75 = .ok (.iload_n 3, 1) := by decide +kernel
theorem dX11_shelf_76 : decode cX11_shelf 76 = .ok (.invokevirtual 296, 3) := by decide +kernel
theorem dX11_shelf_79 : decode cX11_shelf 79 = .ok (.ireturn, 1) := by decide +kernel
theorem dX11_shelf_80 : decode cX11_shelf 80 = .ok (.aload_n 0, 1) := by decide +kernel
theorem dX11_shelf_81 : decode cX11_shelf 81 = .ok (.iload_n 1, 1) := by decide +kernel
theorem dX11_shelf_82 : decode cX11_shelf 82 = .ok (.iload_n 3, 1) := by decide +kernel
theorem dX11_shelf_83 : decode cX11_shelf 83 = .ok (.invokevirtual 299, 3) := by decide +kernel
theorem dX11_shelf_86 : decode cX11_shelf 86 = .ok (.ireturn, 1) := by decide +kernel
theorem dX11_shelf_87 : decode cX11_shelf 87 = .ok (.aload_n 0, 1) := by decide +kernel
theorem dX11_shelf_88 : decode cX11_shelf 88 = .ok (.getfield 92, 3) := by decide +kernel
theorem dX11_shelf_9 : decode cX11_shelf 9 = .ok (.ireturn, 1) := by decide +kernel
theorem dX11_shelf_91 : decode cX11_shelf 91 = .ok (.iload_n 1, 1) := by decide +kernel
theorem dX11_shelf_92 : decode cX11_shelf 92 = .ok (.iconst (-1), 1) := by decide +kernel
theorem dX11_shelf_93 : decode cX11_shelf 93 = .ok (.iconst 0, 1) := by decide +kernel
theorem dX11_shelf_94 : decode cX11_shelf 94 = .ok (.invokevirtual 302, 3) := by decide +kernel
theorem dX11_shelf_97 : decode cX11_shelf 97 = .ok (.ireturn, 1) := by decide +kernel
theorem dX11_shelf_98 : decode cX11_shelf 98 = .ok (.bipush (-2), 2) := by decide +kernel
theorem dX11_isKind_0 : decode cX11_isKind 0 = .ok (.iload_n 0, 1) := by decide +kernel
theorem dX11_isKind_1 : decode cX11_isKind 1 = .ok (.ifCond .lt 13, 3) := by decide +kernel
theorem dX11_isKind_10 : decode cX11_isKind 10 = .ok (.iconst 1, 1) := by decide +kernel
theorem dX11_isKind_11 : decode cX11_isKind 11 = .ok (.goto 4, 3) := by decide +kernel
theorem dX11_isKind_14 : decode cX11_isKind 14 = .ok (.iconst 0, 1) := by decide +kernel
theorem dX11_isKind_15 : decode cX11_isKind 15 = .ok (.ireturn, 1) := by decide +kernel
theorem dX11_isKind_4 : decode cX11_isKind 4 = .ok (.iload_n 0, 1) := by decide +kernel
theorem dX11_isKind_5 : decode cX11_isKind 5 = .ok (.bipush 6, 2) := by decide +kernel
theorem dX11_isKind_7 : decode cX11_isKind 7 = .ok (.if_icmp .ge 7, 3) := by decide +kernel
set_option maxRecDepth 20000 in
theorem ggX7_isEmpty_X11_isShelf : GoodIn wsX7_isEmpty wsX11_isShelf := goodIn_r _ [4] rfl (by decide +kernel)
set_option maxRecDepth 20000 in
theorem gX7_isEmpty_X11_isShelf_n18 : GoodIn wsX7_isEmpty (wsX11_isShelf) := ggX7_isEmpty_X11_isShelf
theorem dX7_isEmpty_0 : decode cX7_isEmpty 0 = .ok (.iload_n 1, 1) := by decide +kernel
theorem dX7_isEmpty_1 : decode cX7_isEmpty 1 = .ok (.invokestatic 18, 3) := by decide +kernel
theorem dX7_isEmpty_11 : decode cX7_isEmpty 11 = .ok (.iload_n 1, 1) := by decide +kernel
theorem dX7_isEmpty_12 : decode cX7_isEmpty 12 = .ok (.iaload, 1) := by decide +kernel
theorem dX7_isEmpty_13 : decode cX7_isEmpty 13 = .ok (.iconst (-1), 1) := by decide +kernel
theorem dX7_isEmpty_14 : decode cX7_isEmpty 14 = .ok (.if_icmp .ne 7, 3) := by decide +kernel
theorem dX7_isEmpty_17 : decode cX7_isEmpty 17 = .ok (.iconst 1, 1) := by decide +kernel
theorem dX7_isEmpty_18 : decode cX7_isEmpty 18 = .ok (.goto 4, 3) := by decide +kernel
theorem dX7_isEmpty_22 : decode cX7_isEmpty 22 = .ok (.ireturn, 1) := by decide +kernel
theorem dX7_isEmpty_4 : decode cX7_isEmpty 4 = .ok (.ifCond .eq 13, 3) := by decide +kernel
theorem dX7_isEmpty_7 : decode cX7_isEmpty 7 = .ok (.aload_n 0, 1) := by decide +kernel
theorem dX7_isEmpty_8 : decode cX7_isEmpty 8 = .ok (.getfield 11, 3) := by decide +kernel
set_option maxRecDepth 20000 in
theorem ggX11_taken_X11_isKind : GoodIn wsX11_taken wsX11_isKind := goodIn_r _ [5] rfl (by decide +kernel)
set_option maxRecDepth 20000 in
theorem gX11_taken_X11_isKind : GoodIn wsX11_taken (va_wsS RX11 307 yX11_isKind wsX11_isKind) := goodIn_app (goodIn_of _ (by decide +kernel)) ggX11_taken_X11_isKind
set_option maxRecDepth 20000 in
theorem ggX11_taken_X11_isShelf : GoodIn wsX11_taken wsX11_isShelf := goodIn_r _ [8] rfl (by decide +kernel)
set_option maxRecDepth 20000 in
theorem gX11_taken_X11_isShelf : GoodIn wsX11_taken (va_wsS RX11 286 yX11_isShelf wsX11_isShelf) := goodIn_app (goodIn_of _ (by decide +kernel)) ggX11_taken_X11_isShelf
set_option maxRecDepth 20000 in
theorem ggX11_taken_X11_isSort : GoodIn wsX11_taken wsX11_isSort := goodIn_r _ [11] rfl (by decide +kernel)
set_option maxRecDepth 20000 in
theorem gX11_taken_X11_isSort : GoodIn wsX11_taken (va_wsS RX11 259 yX11_isSort wsX11_isSort) := goodIn_app (goodIn_of _ (by decide +kernel)) ggX11_taken_X11_isSort
set_option maxRecDepth 20000 in
theorem ggX11_taken_X7_isEmpty : GoodIn wsX11_taken wsX7_isEmpty := goodIn_r _ [16, 17, 7, 4, 8, 48, 49] rfl (by decide +kernel)
set_option maxRecDepth 20000 in
theorem gX11_taken_X7_isEmpty : GoodIn wsX11_taken (wsV RX11 310 RX7 yX7_isEmpty wsX7_isEmpty) := goodIn_app (goodIn_of _ (by decide +kernel)) ggX11_taken_X7_isEmpty
theorem dX11_taken_0 : decode cX11_taken 0 = .ok (.iload_n 2, 1) := by decide +kernel
theorem dX11_taken_1 : decode cX11_taken 1 = .ok (.invokestatic 307, 3) := by decide +kernel
theorem dX11_taken_12 : decode cX11_taken 12 = .ok (.iload_n 3, 1) := by decide +kernel
theorem dX11_taken_13 : decode cX11_taken 13 = .ok (.ifCond .ne 16, 3) := by decide +kernel
theorem dX11_taken_16 : decode cX11_taken 16 = .ok (.iload_n 2, 1) := by decide +kernel
theorem dX11_taken_17 : decode cX11_taken 17 = .ok (.bipush 10, 2) := by decide +kernel
theorem dX11_taken_19 : decode cX11_taken 19 = .ok (.isub, 1) := by decide +kernel
theorem dX11_taken_20 : decode cX11_taken 20 = .ok (.invokestatic 259, 3) := by decide +kernel
theorem dX11_taken_23 : decode cX11_taken 23 = .ok (.ifCond .ne 6, 3) := by decide +kernel
theorem dX11_taken_26 : decode cX11_taken 26 = .ok (.bipush (-2), 2) := by decide +kernel
theorem dX11_taken_28 : decode cX11_taken 28 = .ok (.ireturn, 1) := by decide +kernel
theorem dX11_taken_29 : decode cX11_taken 29 = .ok (.aload_n 0, 1) := by decide +kernel
theorem dX11_taken_30 : decode cX11_taken 30 = .ok (.getfield 92, 3) := by decide +kernel
theorem dX11_taken_33 : decode cX11_taken 33 = .ok (.iload_n 1, 1) := by decide +kernel
theorem dX11_taken_34 : decode cX11_taken 34 = .ok (.invokevirtual 310, 3) := by decide +kernel
theorem dX11_taken_37 : decode cX11_taken 37 = .ok (.ifCond .eq 6, 3) := by decide +kernel
theorem dX11_taken_4 : decode cX11_taken 4 = .ok (.istore_n 3, 1) := by decide +kernel
theorem dX11_taken_40 : decode cX11_taken 40 = .ok (.bipush (-11), 2) := by decide +kernel
theorem dX11_taken_42 : decode cX11_taken 42 = .ok (.ireturn, 1) := by decide +kernel
theorem dX11_taken_5 : decode cX11_taken 5 = .ok (.iload_n 1, 1) := by decide +kernel
theorem dX11_taken_6 : decode cX11_taken 6 = .ok (.invokestatic 286, 3) := by decide +kernel
theorem dX11_taken_9 : decode cX11_taken 9 = .ok (.ifCond .eq 17, 3) := by decide +kernel
set_option maxRecDepth 20000 in
theorem ggX7_holdsThing_X11_isKind : GoodIn wsX7_holdsThing wsX11_isKind := goodIn_r _ [7] rfl (by decide +kernel)
set_option maxRecDepth 20000 in
theorem gX7_holdsThing_X11_isKind_n22 : GoodIn wsX7_holdsThing (wsX11_isKind) := ggX7_holdsThing_X11_isKind
set_option maxRecDepth 20000 in
theorem ggX7_holdsThing_X11_isShelf : GoodIn wsX7_holdsThing wsX11_isShelf := goodIn_r _ [5] rfl (by decide +kernel)
set_option maxRecDepth 20000 in
theorem gX7_holdsThing_X11_isShelf_n18 : GoodIn wsX7_holdsThing (wsX11_isShelf) := ggX7_holdsThing_X11_isShelf
theorem dX7_holdsThing_0 : decode cX7_holdsThing 0 = .ok (.iload_n 1, 1) := by decide +kernel
theorem dX7_holdsThing_1 : decode cX7_holdsThing 1 = .ok (.invokestatic 18, 3) := by decide +kernel
theorem dX7_holdsThing_11 : decode cX7_holdsThing 11 = .ok (.iload_n 1, 1) := by decide +kernel
theorem dX7_holdsThing_12 : decode cX7_holdsThing 12 = .ok (.iaload, 1) := by decide +kernel
theorem dX7_holdsThing_13 : decode cX7_holdsThing 13 = .ok (.goto 4, 3) := by decide +kernel
theorem dX7_holdsThing_17 : decode cX7_holdsThing 17 = .ok (.istore_n 3, 1) := by decide +kernel
theorem dX7_holdsThing_18 : decode cX7_holdsThing 18 = .ok (.iconst 0, 1) := by decide +kernel
theorem dX7_holdsThing_19 : decode cX7_holdsThing 19 = .ok (.istore 4, 2) := by decide +kernel
theorem dX7_holdsThing_21 : decode cX7_holdsThing 21 = .ok (.iload 4, 2) := by decide +kernel
theorem dX7_holdsThing_23 : decode cX7_holdsThing 23 = .ok (.iconst 3, 1) := by decide +kernel
theorem dX7_holdsThing_24 : decode cX7_holdsThing 24 = .ok (.if_icmp .ge 29, 3) := by decide +kernel
theorem dX7_holdsThing_27 : decode cX7_holdsThing 27 = .ok (.iload_n 3, 1) := by decide +kernel
theorem dX7_holdsThing_28 : decode cX7_holdsThing 28 = .ok (.invokestatic 22, 3) := by decide +kernel
theorem dX7_holdsThing_31 : decode cX7_holdsThing 31 = .ok (.ifCond .eq 22, 3) := by decide +kernel
theorem dX7_holdsThing_4 : decode cX7_holdsThing 4 = .ok (.ifCond .eq 12, 3) := by decide +kernel
theorem dX7_holdsThing_53 : decode cX7_holdsThing 53 = .ok (.iconst 0, 1) := by decide +kernel
theorem dX7_holdsThing_54 : decode cX7_holdsThing 54 = .ok (.ireturn, 1) := by decide +kernel
theorem dX7_holdsThing_7 : decode cX7_holdsThing 7 = .ok (.aload_n 0, 1) := by decide +kernel
theorem dX7_holdsThing_8 : decode cX7_holdsThing 8 = .ok (.getfield 11, 3) := by decide +kernel
set_option maxRecDepth 20000 in
theorem ggX7_fullestOf_X7_holdsThing : GoodIn wsX7_fullestOf wsX7_holdsThing := goodIn_r _ [6, 7, 8, 9, 10, 11, 12, 13, 21, 22] rfl (by decide +kernel)
set_option maxRecDepth 20000 in
theorem gX7_fullestOf_X7_holdsThing : GoodIn wsX7_fullestOf (wsV RX7 28 RX7 yX7_holdsThing wsX7_holdsThing) := goodIn_app (goodIn_of _ (by decide +kernel)) ggX7_fullestOf_X7_holdsThing
theorem dX7_fullestOf_0 : decode cX7_fullestOf 0 = .ok (.iconst (-1), 1) := by decide +kernel
theorem dX7_fullestOf_1 : decode cX7_fullestOf 1 = .ok (.istore_n 2, 1) := by decide +kernel
theorem dX7_fullestOf_10 : decode cX7_fullestOf 10 = .ok (.if_icmp .ge 47, 3) := by decide +kernel
theorem dX7_fullestOf_13 : decode cX7_fullestOf 13 = .ok (.aload_n 0, 1) := by decide +kernel
theorem dX7_fullestOf_14 : decode cX7_fullestOf 14 = .ok (.iload 4, 2) := by decide +kernel
theorem dX7_fullestOf_16 : decode cX7_fullestOf 16 = .ok (.iload_n 1, 1) := by decide +kernel
theorem dX7_fullestOf_17 : decode cX7_fullestOf 17 = .ok (.invokevirtual 28, 3) := by decide +kernel
theorem dX7_fullestOf_2 : decode cX7_fullestOf 2 = .ok (.iconst (-1), 1) := by decide +kernel
theorem dX7_fullestOf_20 : decode cX7_fullestOf 20 = .ok (.ifCond .eq 31, 3) := by decide +kernel
theorem dX7_fullestOf_3 : decode cX7_fullestOf 3 = .ok (.istore_n 3, 1) := by decide +kernel
theorem dX7_fullestOf_4 : decode cX7_fullestOf 4 = .ok (.iconst 0, 1) := by decide +kernel
theorem dX7_fullestOf_5 : decode cX7_fullestOf 5 = .ok (.istore 4, 2) := by decide +kernel
theorem dX7_fullestOf_51 : decode cX7_fullestOf 51 = .ok (.iinc 4 1, 3) := by decide +kernel
theorem dX7_fullestOf_54 : decode cX7_fullestOf 54 = .ok (.goto (-47), 3) := by decide +kernel
theorem dX7_fullestOf_57 : decode cX7_fullestOf 57 = .ok (.iload_n 2, 1) := by decide +kernel
theorem dX7_fullestOf_58 : decode cX7_fullestOf 58 = .ok (.ireturn, 1) := by decide +kernel
theorem dX7_fullestOf_7 : decode cX7_fullestOf 7 = .ok (.iload 4, 2) := by decide +kernel
theorem dX7_fullestOf_9 : decode cX7_fullestOf 9 = .ok (.iconst 4, 1) := by decide +kernel
set_option maxRecDepth 20000 in
theorem ggX7_pointsOf_X7_holdsThing : GoodIn wsX7_pointsOf wsX7_holdsThing := goodIn_r _ [6, 7, 8, 9, 10, 11, 12, 13, 14, 15] rfl (by decide +kernel)
set_option maxRecDepth 20000 in
theorem gX7_pointsOf_X7_holdsThing : GoodIn wsX7_pointsOf (wsV RX7 28 RX7 yX7_holdsThing wsX7_holdsThing) := goodIn_app (goodIn_of _ (by decide +kernel)) ggX7_pointsOf_X7_holdsThing
theorem dX7_pointsOf_0 : decode cX7_pointsOf 0 = .ok (.iconst 0, 1) := by decide +kernel
theorem dX7_pointsOf_1 : decode cX7_pointsOf 1 = .ok (.istore_n 2, 1) := by decide +kernel
theorem dX7_pointsOf_10 : decode cX7_pointsOf 10 = .ok (.iload_n 3, 1) := by decide +kernel
theorem dX7_pointsOf_11 : decode cX7_pointsOf 11 = .ok (.iload_n 1, 1) := by decide +kernel
theorem dX7_pointsOf_12 : decode cX7_pointsOf 12 = .ok (.invokevirtual 28, 3) := by decide +kernel
theorem dX7_pointsOf_15 : decode cX7_pointsOf 15 = .ok (.ifCond .eq 12, 3) := by decide +kernel
theorem dX7_pointsOf_2 : decode cX7_pointsOf 2 = .ok (.iconst 0, 1) := by decide +kernel
theorem dX7_pointsOf_27 : decode cX7_pointsOf 27 = .ok (.iinc 3 1, 3) := by decide +kernel
theorem dX7_pointsOf_3 : decode cX7_pointsOf 3 = .ok (.istore_n 3, 1) := by decide +kernel
theorem dX7_pointsOf_30 : decode cX7_pointsOf 30 = .ok (.goto (-26), 3) := by decide +kernel
theorem dX7_pointsOf_33 : decode cX7_pointsOf 33 = .ok (.iload_n 2, 1) := by decide +kernel
theorem dX7_pointsOf_34 : decode cX7_pointsOf 34 = .ok (.ireturn, 1) := by decide +kernel
theorem dX7_pointsOf_4 : decode cX7_pointsOf 4 = .ok (.iload_n 3, 1) := by decide +kernel
theorem dX7_pointsOf_5 : decode cX7_pointsOf 5 = .ok (.iconst 4, 1) := by decide +kernel
theorem dX7_pointsOf_6 : decode cX7_pointsOf 6 = .ok (.if_icmp .ge 27, 3) := by decide +kernel
theorem dX7_pointsOf_9 : decode cX7_pointsOf 9 = .ok (.aload_n 0, 1) := by decide +kernel
set_option maxRecDepth 20000 in
theorem ggX7_countOf_X7_holdsThing : GoodIn wsX7_countOf wsX7_holdsThing := goodIn_r _ [5, 6, 7, 8, 9, 10, 11, 12, 13, 14] rfl (by decide +kernel)
set_option maxRecDepth 20000 in
theorem gX7_countOf_X7_holdsThing : GoodIn wsX7_countOf (wsV RX7 28 RX7 yX7_holdsThing wsX7_holdsThing) := goodIn_app (goodIn_of _ (by decide +kernel)) ggX7_countOf_X7_holdsThing
theorem dX7_countOf_0 : decode cX7_countOf 0 = .ok (.iconst 0, 1) := by decide +kernel
theorem dX7_countOf_1 : decode cX7_countOf 1 = .ok (.istore_n 2, 1) := by decide +kernel
theorem dX7_countOf_10 : decode cX7_countOf 10 = .ok (.iload_n 3, 1) := by decide +kernel
theorem dX7_countOf_11 : decode cX7_countOf 11 = .ok (.iload_n 1, 1) := by decide +kernel
theorem dX7_countOf_12 : decode cX7_countOf 12 = .ok (.invokevirtual 28, 3) := by decide +kernel
theorem dX7_countOf_15 : decode cX7_countOf 15 = .ok (.ifCond .eq 6, 3) := by decide +kernel
theorem dX7_countOf_2 : decode cX7_countOf 2 = .ok (.iconst 0, 1) := by decide +kernel
theorem dX7_countOf_21 : decode cX7_countOf 21 = .ok (.iinc 3 1, 3) := by decide +kernel
theorem dX7_countOf_24 : decode cX7_countOf 24 = .ok (.goto (-20), 3) := by decide +kernel
theorem dX7_countOf_27 : decode cX7_countOf 27 = .ok (.iload_n 2, 1) := by decide +kernel
theorem dX7_countOf_28 : decode cX7_countOf 28 = .ok (.ireturn, 1) := by decide +kernel
theorem dX7_countOf_3 : decode cX7_countOf 3 = .ok (.istore_n 3, 1) := by decide +kernel
theorem dX7_countOf_4 : decode cX7_countOf 4 = .ok (.iload_n 3, 1) := by decide +kernel
theorem dX7_countOf_5 : decode cX7_countOf 5 = .ok (.iconst 4, 1) := by decide +kernel
theorem dX7_countOf_6 : decode cX7_countOf 6 = .ok (.if_icmp .ge 21, 3) := by decide +kernel
theorem dX7_countOf_9 : decode cX7_countOf 9 = .ok (.aload_n 0, 1) := by decide +kernel
set_option maxRecDepth 20000 in
theorem ggX11_held_X11_isKind : GoodIn wsX11_held wsX11_isKind := goodIn_r _ [5] rfl (by decide +kernel)
set_option maxRecDepth 20000 in
theorem gX11_held_X11_isKind : GoodIn wsX11_held (va_wsS RX11 307 yX11_isKind wsX11_isKind) := goodIn_app (goodIn_of _ (by decide +kernel)) ggX11_held_X11_isKind
set_option maxRecDepth 20000 in
theorem ggX11_held_X7_countOf : GoodIn wsX11_held wsX7_countOf := goodIn_r _ [10, 11, 12, 13, 9, 14, 15, 16, 17, 4, 18, 3, 5, 51, 52] rfl (by decide +kernel)
set_option maxRecDepth 20000 in
theorem gX11_held_X7_countOf : GoodIn wsX11_held (wsV RX11 322 RX7 yX7_countOf wsX7_countOf) := goodIn_app (goodIn_of _ (by decide +kernel)) ggX11_held_X7_countOf
set_option maxRecDepth 20000 in
theorem ggX11_held_X7_fullestOf : GoodIn wsX11_held wsX7_fullestOf := goodIn_r _ [27, 23, 11, 12, 13, 9, 14, 15, 16, 17, 4, 18, 3, 5, 28, 29, 30, 31, 32, 33, 34, 51, 52] rfl (by decide +kernel)
set_option maxRecDepth 20000 in
theorem gX11_held_X7_fullestOf : GoodIn wsX11_held (wsV RX11 328 RX7 yX7_fullestOf wsX7_fullestOf) := goodIn_app (goodIn_of _ (by decide +kernel)) ggX11_held_X7_fullestOf
set_option maxRecDepth 20000 in
theorem ggX11_held_X7_pointsOf : GoodIn wsX11_held wsX7_pointsOf := goodIn_r _ [22, 23, 11, 12, 13, 9, 14, 15, 16, 17, 4, 18, 3, 5, 51, 52] rfl (by decide +kernel)
set_option maxRecDepth 20000 in
theorem gX11_held_X7_pointsOf : GoodIn wsX11_held (wsV RX11 325 RX7 yX7_pointsOf wsX7_pointsOf) := goodIn_app (goodIn_of _ (by decide +kernel)) ggX11_held_X7_pointsOf
theorem dX11_held_0 : decode cX11_held 0 = .ok (.iload_n 1, 1) := by decide +kernel
theorem dX11_held_1 : decode cX11_held 1 = .ok (.invokestatic 307, 3) := by decide +kernel
theorem dX11_held_11 : decode cX11_held 11 = .ok (.iload_n 2, 1) := by decide +kernel
theorem dX11_held_12 : decode cX11_held 12 = .ok (.iconst 2, 1) := by decide +kernel
theorem dX11_held_13 : decode cX11_held 13 = .ok (.if_icmp .le 6, 3) := by decide +kernel
theorem dX11_held_16 : decode cX11_held 16 = .ok (.bipush (-2), 2) := by decide +kernel
theorem dX11_held_18 : decode cX11_held 18 = .ok (.ireturn, 1) := by decide +kernel
theorem dX11_held_19 : decode cX11_held 19 = .ok (.iload_n 2, 1) := by decide +kernel
theorem dX11_held_20 : decode cX11_held 20 = .ok (.ifCond .ne 12, 3) := by decide +kernel
theorem dX11_held_23 : decode cX11_held 23 = .ok (.aload_n 0, 1) := by decide +kernel
theorem dX11_held_24 : decode cX11_held 24 = .ok (.getfield 92, 3) := by decide +kernel
theorem dX11_held_27 : decode cX11_held 27 = .ok (.iload_n 1, 1) := by decide +kernel
theorem dX11_held_28 : decode cX11_held 28 = .ok (.invokevirtual 322, 3) := by decide +kernel
theorem dX11_held_31 : decode cX11_held 31 = .ok (.ireturn, 1) := by decide +kernel
theorem dX11_held_32 : decode cX11_held 32 = .ok (.iload_n 2, 1) := by decide +kernel
theorem dX11_held_33 : decode cX11_held 33 = .ok (.iconst 1, 1) := by decide +kernel
theorem dX11_held_34 : decode cX11_held 34 = .ok (.if_icmp .ne 14, 3) := by decide +kernel
theorem dX11_held_37 : decode cX11_held 37 = .ok (.aload_n 0, 1) := by decide +kernel
theorem dX11_held_38 : decode cX11_held 38 = .ok (.getfield 92, 3) := by decide +kernel
theorem dX11_held_4 : decode cX11_held 4 = .ok (.ifCond .eq 12, 3) := by decide +kernel
theorem dX11_held_41 : decode cX11_held 41 = .ok (.iload_n 1, 1) := by decide +kernel
theorem dX11_held_42 : decode cX11_held 42 = .ok (.invokevirtual 325, 3) := by decide +kernel
theorem dX11_held_45 : decode cX11_held 45 = .ok (.goto 11, 3) := by decide +kernel
theorem dX11_held_48 : decode cX11_held 48 = .ok (.aload_n 0, 1) := by decide +kernel
theorem dX11_held_49 : decode cX11_held 49 = .ok (.getfield 92, 3) := by decide +kernel
theorem dX11_held_52 : decode cX11_held 52 = .ok (.iload_n 1, 1) := by decide +kernel
theorem dX11_held_53 : decode cX11_held 53 = .ok (.invokevirtual 328, 3) := by decide +kernel
theorem dX11_held_56 : decode cX11_held 56 = .ok (.ireturn, 1) := by decide +kernel
theorem dX11_held_7 : decode cX11_held 7 = .ok (.iload_n 2, 1) := by decide +kernel
theorem dX11_held_8 : decode cX11_held 8 = .ok (.ifCond .lt 8, 3) := by decide +kernel
set_option maxRecDepth 20000 in
theorem ggX11_refusalOfNumber_X11_refusalOfSheet : GoodIn wsX11_refusalOfNumber wsX11_refusalOfSheet := goodIn_r _ [6, 1, 7, 8, 5, 9, 10, 11, 12, 13, 14, 15, 21, 22, 23, 24, 25, 26, 27, 28, 29, 30, 31, 32, 33, 34, 35, 36, 37, 38, 39] rfl (by decide +kernel)
set_option maxRecDepth 20000 in
theorem gX11_refusalOfNumber_X11_refusalOfSheet : GoodIn wsX11_refusalOfNumber (wsV RX11 218 RX11 yX11_refusalOfSheet wsX11_refusalOfSheet) := goodIn_app (goodIn_of _ (by decide +kernel)) ggX11_refusalOfNumber_X11_refusalOfSheet
theorem dX11_refusalOfNumber_0 : decode cX11_refusalOfNumber 0 = .ok (.aload_n 0, 1) := by decide +kernel
theorem dX11_refusalOfNumber_1 : decode cX11_refusalOfNumber 1 = .ok (.iload_n 1, 1) := by decide +kernel
theorem dX11_refusalOfNumber_10 : decode cX11_refusalOfNumber 10 = .ok (.iload_n 3, 1) := by decide +kernel
theorem dX11_refusalOfNumber_11 : decode cX11_refusalOfNumber 11 = .ok (.ireturn, 1) := by decide +kernel
theorem dX11_refusalOfNumber_2 : decode cX11_refusalOfNumber 2 = .ok (.invokevirtual 218, 3) := by decide +kernel
theorem dX11_refusalOfNumber_5 : decode cX11_refusalOfNumber 5 = .ok (.istore_n 3, 1) := by decide +kernel
theorem dX11_refusalOfNumber_6 : decode cX11_refusalOfNumber 6 = .ok (.iload_n 3, 1) := by decide +kernel
theorem dX11_refusalOfNumber_7 : decode cX11_refusalOfNumber 7 = .ok (.ifCond .eq 5, 3) := by decide +kernel
set_option maxRecDepth 20000 in
theorem ggX11_write_X11_refusalOfNumber : GoodIn wsX11_write wsX11_refusalOfNumber := goodIn_r _ [6, 1, 7, 8, 9, 5, 10, 11, 12, 13, 14, 15, 16, 17, 18, 19, 20, 21, 22, 23, 24, 31, 32, 33, 34, 35, 36, 37, 38, 39, 40, 41, 42, 43, 44, 45, 46, 47, 48, 49] rfl (by decide +kernel)
set_option maxRecDepth 20000 in
theorem gX11_write_X11_refusalOfNumber : GoodIn wsX11_write (wsV RX11 335 RX11 yX11_refusalOfNumber wsX11_refusalOfNumber) := goodIn_app (goodIn_of _ (by decide +kernel)) ggX11_write_X11_refusalOfNumber
theorem dX11_write_0 : decode cX11_write 0 = .ok (.aload_n 0, 1) := by decide +kernel
theorem dX11_write_1 : decode cX11_write 1 = .ok (.iload_n 1, 1) := by decide +kernel
theorem dX11_write_10 : decode cX11_write 10 = .ok (.ifCond .eq 6, 3) := by decide +kernel
theorem dX11_write_13 : decode cX11_write 13 = .ok (.iload 4, 2) := by decide +kernel
theorem dX11_write_15 : decode cX11_write 15 = .ok (.ireturn, 1) := by decide +kernel
theorem dX11_write_2 : decode cX11_write 2 = .ok (.iload_n 2, 1) := by decide +kernel
theorem dX11_write_3 : decode cX11_write 3 = .ok (.invokevirtual 335, 3) := by decide +kernel
theorem dX11_write_6 : decode cX11_write 6 = .ok (.istore 4, 2) := by decide +kernel
theorem dX11_write_8 : decode cX11_write 8 = .ok (.iload 4, 2) := by decide +kernel
set_option maxRecDepth 20000 in
theorem ggX11_item_X11_refusalOfNumber : GoodIn wsX11_item wsX11_refusalOfNumber := goodIn_r _ [6, 1, 7, 8, 9, 5, 10, 11, 12, 13, 14, 15, 16, 17, 18, 19, 20, 21, 22, 23, 24, 31, 32, 33, 34, 35, 36, 37, 38, 39, 40, 41, 42, 43, 44, 45, 46, 47, 48, 49] rfl (by decide +kernel)
set_option maxRecDepth 20000 in
theorem gX11_item_X11_refusalOfNumber : GoodIn wsX11_item (wsV RX11 335 RX11 yX11_refusalOfNumber wsX11_refusalOfNumber) := goodIn_app (goodIn_of _ (by decide +kernel)) ggX11_item_X11_refusalOfNumber
theorem dX11_item_0 : decode cX11_item 0 = .ok (.aload_n 0, 1) := by decide +kernel
theorem dX11_item_1 : decode cX11_item 1 = .ok (.iload_n 1, 1) := by decide +kernel
theorem dX11_item_11 : decode cX11_item 11 = .ok (.iload_n 3, 1) := by decide +kernel
theorem dX11_item_12 : decode cX11_item 12 = .ok (.goto 13, 3) := by decide +kernel
theorem dX11_item_2 : decode cX11_item 2 = .ok (.iload_n 2, 1) := by decide +kernel
theorem dX11_item_25 : decode cX11_item 25 = .ok (.ireturn, 1) := by decide +kernel
theorem dX11_item_3 : decode cX11_item 3 = .ok (.invokevirtual 335, 3) := by decide +kernel
theorem dX11_item_6 : decode cX11_item 6 = .ok (.istore_n 3, 1) := by decide +kernel
theorem dX11_item_7 : decode cX11_item 7 = .ok (.iload_n 3, 1) := by decide +kernel
theorem dX11_item_8 : decode cX11_item 8 = .ok (.ifCond .eq 7, 3) := by decide +kernel
/-- how many of the points below k are in S -/
def ncn (S : Nat → Bool) : Nat → Nat
  | 0 => 0
  | k + 1 => ncn S k + (if S k then 1 else 0)
def bt1 (j : Nat) : Int32 := (1 : Int32) <<< (nI j &&& 31)
section LW2
variable {p : Program} {l : Launch} {e : Env} {R : Room} {s : State} {m : MethodId} {args : Array Value} {below : List Frame} {meth : Method} {c : Code} {H : Heap} {locs : List Loc} {cells slots : Nat} {Q : State → Prop}
variable {pc : Nat} {ls : Array Slot} {rest st0 : List Value} {cc bytes : ByteArray} {nL maxL index n mc ms : Nat} {own : String} {y : MethodName} {ret : Option FieldType} {rm : Room} {Ts ws : List Cond} {D : va_G} {cI cS : ClassId} {wc : va_W} {b : Addr} {As : List Value} {ci : Nat} {q : vw_C} {fs : List Value}
/-- a place that is a number below the length -/
theorem lz_ald {tys : List (ClassId × FieldType)} {W0 : va_W} {a : Nat} (hexec : p.tables.exec = Jvm.exec) (hb : c.code = cc) (hK : va_K D cls tys s) (hP : va_P D cls W0 H) (q0 t0 : Nat) {cA : ClassId} {k : Nat} {f : Nat → Int32} (ha : W0[q0]? = some (a, .inl (cA, k, .inl f))) (ht : tys[t0]? = some (cA, .int)) (i : Nat) (hi : i < k ∧ k < 2 ^ 31) (hdg : decode cc pc = .ok (.iaload, 1))
    (kk : W p l e R s m args below meth c H locs cells slots Q (F0 m (pc + 1) ls (.int (f i) :: rest))) : W p l e R s m args below meth c H locs cells slots Q (F0 m pc ls (.int (nI i) :: .ref a :: rest)) := by
  refine va_iald hexec hb hK hP q0 t0 ha ht (vp_in_nI hi.1 hi.2) hdg ?_
  rw [nI_clamp (by omega)]
  exact kk
theorem lz_ast {tys : List (ClassId × FieldType)} {W0 : va_W} {A1 : Nat → Prop} {H2 : Heap} {a : Nat} (hexec : p.tables.exec = Jvm.exec) (hb : c.code = cc) (hK : va_K D cls tys s) (hP : va_P D cls W0 H) (hD : va_D A1 W0) (hS : va_S A1 H2 H locs) (q0 t0 : Nat) {cA : ClassId} {k : Nat} {f : Nat → Int32} {x : Int32} (ha : W0[q0]? = some (a, .inl (cA, k, .inl f))) (ht : tys[t0]? = some (cA, .int)) (i : Nat) (hi : i < k ∧ k < 2 ^ 31) (hdg : decode cc pc = .ok (.iastore, 1))
    (kk : ∀ (H1 : Heap) (locs1 : List Loc), va_P D cls (W0.set q0 (a, .inl (cA, k, .inl (upd f i x)))) H1 → va_D A1 (W0.set q0 (a, .inl (cA, k, .inl (upd f i x)))) → va_S A1 H2 H1 locs1 → W p l e R s m args below meth c H1 locs1 cells slots Q (F0 m (pc + 1) ls rest)) : W p l e R s m args below meth c H locs cells slots Q (F0 m pc ls (.int x :: .int (nI i) :: .ref a :: rest)) := by
  refine va_iast hexec hb hK hP hD hS q0 t0 ha ht (vp_in_nI hi.1 hi.2) hdg (fun H1 locs1 h1 h2 h3 => ?_)
  rw [nI_clamp (by omega)] at h1 h2
  exact kk H1 locs1 h1 h2 h3
variable {S : Type} {A : Nat → Prop} {H0 : Heap} {W0 wr : va_W} {w1 : S → va_W} {isC isR : List Nat} {pv : S → Prop} {pi : Int32 → S → Prop}
/-- a method that writes; what it leaves is told by a word of its own kind -/
abbrev QE {S : Type} (D : va_G) (ws : va_W) (w' : S → va_W) (sz : Nat) (post : S → Prop) : Array Value → State → Outcome → State → Prop := va_Qv post (fun u t => va_P D cls (w' u) t.heap ∧ va_D (va_A ws sz) (w' u)) (va_A ws sz)
abbrev QF {S : Type} (D : va_G) (ws : va_W) (w' : S → va_W) (sz : Nat) (post : Int32 → S → Prop) : Array Value → State → Outcome → State → Prop := va_Qi post (fun u t => va_P D cls (w' u) t.heap ∧ va_D (va_A ws sz) (w' u)) (va_A ws sz)
theorem lz_qe (F : CallFix p m c cc nL s args Ts own) (hM : Met l y ws rm (PQ D cI cS wc H.size (.ref b :: As)) (QE D wc w1 H.size pv) mc ms (va_A wc H.size)) (hK : KK D cI cS s) (hP : va_P D cls W0 H) (hD : va_D A W0) (hS : va_S A H0 H locs) (hA : ∀ q, H0.size ≤ q → A q)
    (isC isR : List Nat) (hnC : va_nd isC = true) (hC : isC.map (fun i => W0[i]?) = wc.map some) (hR : isR.map (fun i => W0[i]?) = wr.map some) (hnR : va_nd isR = true) (hdis : ∀ i ∈ isR, i ∉ isC) (hPc : va_P D cls wc H) (hDc : va_D A wc) (hc : cls[ci]? = some q) (he : wc[0]? = some (b, .inr (ci, fs)))
    (cw : CallW R s args own q.1 index y bytes maxL ret ws rm mc ms n) (hn : As.length = n) (hsize : ls.size = nL) (hst : st0 = As.reverse ++ .ref b :: rest) (hW : (rest.map fun v => v.category).sum ≤ 8) (hdg : decode cc pc = .ok (.invokevirtual index, 3)) (hf : cells + mc ≤ R.cells ∧ slots + ms ≤ R.slots)
    (kk : ∀ (u : S) (H1 : Heap) (locs1 : List Loc), pv u → va_P D cls (wr ++ w1 u) H1 → va_D A (wr ++ w1 u) → va_S A H0 H1 locs1 → W p l e R s m args below meth c H1 locs1 (cells + mc) (slots + ms) Q (F0 m (pc + 3) ls rest)) : W p l e R s m args below meth c H locs cells slots Q (F0 m pc ls st0) := by
  have hFc := va_free hD hS hA isC hC
  refine va_callv (va_runV (As := As) (rest := rest) F hM cw ⟨lz_bQ, va_recv hK.1 hPc hc he, fun U hU hW => ⟨rfl, by rw [hU], by rw [hU]; exact hPc, hK.warm hW, hDc.weaken (fun _ _ _ _ => trivial)⟩⟩ rfl hn hsize hst (lv_room hW) hdg hf) hS (fun q _ h => hFc q h) hFc (fun u t H1 locs1 ht hvm hw hB hz1 hk1 hS1 => ?_)
  subst ht
  obtain ⟨hP2, hD2⟩ := va_join hP hD isC isR hC hR hnR hdis hk1 hFc hB.1 hB.2
  exact kk u _ locs1 hw hP2 hD2 hS1
theorem lz_qf (F : CallFix p m c cc nL s args Ts own) (hM : Met l y ws rm (PQ D cI cS wc H.size (.ref b :: As)) (QF D wc w1 H.size pi) mc ms (va_A wc H.size)) (hK : KK D cI cS s) (hP : va_P D cls W0 H) (hD : va_D A W0) (hS : va_S A H0 H locs) (hA : ∀ q, H0.size ≤ q → A q)
    (isC isR : List Nat) (hnC : va_nd isC = true) (hC : isC.map (fun i => W0[i]?) = wc.map some) (hR : isR.map (fun i => W0[i]?) = wr.map some) (hnR : va_nd isR = true) (hdis : ∀ i ∈ isR, i ∉ isC) (hPc : va_P D cls wc H) (hDc : va_D A wc) (hc : cls[ci]? = some q) (he : wc[0]? = some (b, .inr (ci, fs)))
    (cw : CallW R s args own q.1 index y bytes maxL ret ws rm mc ms n) (hn : As.length = n) (hsize : ls.size = nL) (hst : st0 = As.reverse ++ .ref b :: rest) (hW : (rest.map fun v => v.category).sum ≤ 8) (hdg : decode cc pc = .ok (.invokevirtual index, 3)) (hf : cells + mc ≤ R.cells ∧ slots + ms ≤ R.slots)
    (kk : ∀ (r : Int32) (u : S) (H1 : Heap) (locs1 : List Loc), pi r u → va_P D cls (wr ++ w1 u) H1 → va_D A (wr ++ w1 u) → va_S A H0 H1 locs1 → W p l e R s m args below meth c H1 locs1 (cells + mc) (slots + ms) Q (F0 m (pc + 3) ls (.int r :: rest))) : W p l e R s m args below meth c H locs cells slots Q (F0 m pc ls st0) := by
  have hFc := va_free hD hS hA isC hC
  refine va_calli (va_runV (As := As) (rest := rest) F hM cw ⟨lz_bQ, va_recv hK.1 hPc hc he, fun U hU hW => ⟨rfl, by rw [hU], by rw [hU]; exact hPc, hK.warm hW, hDc.weaken (fun _ _ _ _ => trivial)⟩⟩ rfl hn hsize hst (lv_room hW) hdg hf) hS (fun q _ h => hFc q h) hFc (fun r u t H1 locs1 ht hvm hw hB hz1 hk1 hS1 => ?_)
  subst ht
  obtain ⟨hP2, hD2⟩ := va_join hP hD isC isR hC hR hnR hdis hk1 hFc hB.1 hB.2
  exact kk r u _ locs1 hw hP2 hD2 hS1
end LW2
theorem dX12_draw_0 : decode cX12_draw 0 = .ok (.aload_n 0, 1) := by decide +kernel
theorem dX12_draw_1 : decode cX12_draw 1 = .ok (.aload_n 0, 1) := by decide +kernel
theorem dX12_draw_11 : decode cX12_draw 11 = .ok (.iadd, 1) := by decide +kernel
theorem dX12_draw_12 : decode cX12_draw 12 = .ok (.putfield 7, 3) := by decide +kernel
theorem dX12_draw_15 : decode cX12_draw 15 = .ok (.aload_n 0, 1) := by decide +kernel
theorem dX12_draw_16 : decode cX12_draw 16 = .ok (.getfield 7, 3) := by decide +kernel
theorem dX12_draw_19 : decode cX12_draw 19 = .ok (.bipush 16, 2) := by decide +kernel
theorem dX12_draw_2 : decode cX12_draw 2 = .ok (.getfield 7, 3) := by decide +kernel
theorem dX12_draw_21 : decode cX12_draw 21 = .ok (.iushr, 1) := by decide +kernel
theorem dX12_draw_22 : decode cX12_draw 22 = .ok (.ireturn, 1) := by decide +kernel
theorem dX12_draw_5 : decode cX12_draw 5 = .ok (.ldc 215, 2) := by decide +kernel
theorem dX12_draw_7 : decode cX12_draw 7 = .ok (.imul, 1) := by decide +kernel
theorem dX12_draw_8 : decode cX12_draw 8 = .ok (.sipush 12345, 3) := by decide +kernel
theorem dX12_lays_0 : decode cX12_lays 0 = .ok (.aload_n 0, 1) := by decide +kernel
theorem dX12_lays_1 : decode cX12_lays 1 = .ok (.getfield 13, 3) := by decide +kernel
theorem dX12_lays_10 : decode cX12_lays 10 = .ok (.iaload, 1) := by decide +kernel
theorem dX12_lays_11 : decode cX12_lays 11 = .ok (.iconst 1, 1) := by decide +kernel
theorem dX12_lays_12 : decode cX12_lays 12 = .ok (.iload_n 2, 1) := by decide +kernel
theorem dX12_lays_13 : decode cX12_lays 13 = .ok (.ishl, 1) := by decide +kernel
theorem dX12_lays_14 : decode cX12_lays 14 = .ok (.iconst (-1), 1) := by decide +kernel
theorem dX12_lays_15 : decode cX12_lays 15 = .ok (.ixor, 1) := by decide +kernel
theorem dX12_lays_16 : decode cX12_lays 16 = .ok (.iand, 1) := by decide +kernel
theorem dX12_lays_17 : decode cX12_lays 17 = .ok (.iload_n 3, 1) := by decide +kernel
theorem dX12_lays_18 : decode cX12_lays 18 = .ok (.iload_n 2, 1) := by decide +kernel
theorem dX12_lays_19 : decode cX12_lays 19 = .ok (.ishl, 1) := by decide +kernel
theorem dX12_lays_20 : decode cX12_lays 20 = .ok (.ior, 1) := by decide +kernel
theorem dX12_lays_21 : decode cX12_lays 21 = .ok (.iastore, 1) := by decide +kernel
theorem dX12_lays_22 : decode cX12_lays 22 = .ok (.aload_n 0, 1) := by decide +kernel
theorem dX12_lays_23 : decode cX12_lays 23 = .ok (.getfield 13, 3) := by decide +kernel
theorem dX12_lays_26 : decode cX12_lays 26 = .ok (.iload_n 2, 1) := by decide +kernel
theorem dX12_lays_27 : decode cX12_lays 27 = .ok (.aload_n 0, 1) := by decide +kernel
theorem dX12_lays_28 : decode cX12_lays 28 = .ok (.getfield 13, 3) := by decide +kernel
theorem dX12_lays_31 : decode cX12_lays 31 = .ok (.iload_n 2, 1) := by decide +kernel
theorem dX12_lays_32 : decode cX12_lays 32 = .ok (.iaload, 1) := by decide +kernel
theorem dX12_lays_33 : decode cX12_lays 33 = .ok (.iconst 1, 1) := by decide +kernel
theorem dX12_lays_34 : decode cX12_lays 34 = .ok (.iload_n 1, 1) := by decide +kernel
theorem dX12_lays_35 : decode cX12_lays 35 = .ok (.ishl, 1) := by decide +kernel
theorem dX12_lays_36 : decode cX12_lays 36 = .ok (.iconst (-1), 1) := by decide +kernel
theorem dX12_lays_37 : decode cX12_lays 37 = .ok (.ixor, 1) := by decide +kernel
theorem dX12_lays_38 : decode cX12_lays 38 = .ok (.iand, 1) := by decide +kernel
theorem dX12_lays_39 : decode cX12_lays 39 = .ok (.iload_n 3, 1) := by decide +kernel
theorem dX12_lays_4 : decode cX12_lays 4 = .ok (.iload_n 1, 1) := by decide +kernel
theorem dX12_lays_40 : decode cX12_lays 40 = .ok (.iload_n 1, 1) := by decide +kernel
theorem dX12_lays_41 : decode cX12_lays 41 = .ok (.ishl, 1) := by decide +kernel
theorem dX12_lays_42 : decode cX12_lays 42 = .ok (.ior, 1) := by decide +kernel
theorem dX12_lays_43 : decode cX12_lays 43 = .ok (.iastore, 1) := by decide +kernel
theorem dX12_lays_44 : decode cX12_lays 44 = .ok (.return_, 1) := by decide +kernel
theorem dX12_lays_5 : decode cX12_lays 5 = .ok (.aload_n 0, 1) := by decide +kernel
theorem dX12_lays_6 : decode cX12_lays 6 = .ok (.getfield 13, 3) := by decide +kernel
theorem dX12_lays_9 : decode cX12_lays 9 = .ok (.iload_n 1, 1) := by decide +kernel
theorem dX12_deals_27 : decode cX12_deals 27 = .ok (.iload_n 3, 1) := by decide +kernel
theorem dX12_deals_28 : decode cX12_deals 28 = .ok (.iload_n 1, 1) := by decide +kernel
theorem dX12_deals_29 : decode cX12_deals 29 = .ok (.if_icmp .ge 45, 3) := by decide +kernel
theorem dX12_deals_74 : decode cX12_deals 74 = .ok (.return_, 1) := by decide +kernel
theorem dX12_deals_37 : decode cX12_deals 37 = .ok (.iload 4, 2) := by decide +kernel
theorem dX12_deals_39 : decode cX12_deals 39 = .ok (.iload_n 1, 1) := by decide +kernel
theorem dX12_deals_40 : decode cX12_deals 40 = .ok (.if_icmp .ge 28, 3) := by decide +kernel
theorem dX12_deals_68 : decode cX12_deals 68 = .ok (.iinc 3 1, 3) := by decide +kernel
theorem dX12_deals_71 : decode cX12_deals 71 = .ok (.goto (-44), 3) := by decide +kernel
set_option maxRecDepth 20000 in
theorem ggX12_deals_X12_draw : GoodIn wsX12_deals wsX12_draw := goodIn_r _ [7, 8, 9, 14, 15, 16, 17, 18, 19, 20, 21, 22, 23, 24, 25, 26, 27, 28, 29, 30, 31, 32, 33, 34, 35, 36, 37] rfl (by decide +kernel)
set_option maxRecDepth 20000 in
theorem gX12_deals_X12_draw : GoodIn wsX12_deals (wsV RX12 216 RX12 yX12_draw wsX12_draw) := goodIn_app (goodIn_of _ (by decide +kernel)) ggX12_deals_X12_draw
set_option maxRecDepth 20000 in
theorem ggX12_deals_X12_lays : GoodIn wsX12_deals wsX12_lays := goodIn_r _ [13, 2, 14, 15, 16, 17, 18, 19, 20, 21, 22, 23, 24, 25, 26, 27, 28, 29, 30, 31, 32, 33, 34, 35, 36, 37] rfl (by decide +kernel)
set_option maxRecDepth 20000 in
theorem gX12_deals_X12_lays : GoodIn wsX12_deals (wsV RX12 81 RX12 yX12_lays wsX12_lays) := goodIn_app (goodIn_of _ (by decide +kernel)) ggX12_deals_X12_lays
theorem dX12_deals_43 : decode cX12_deals 43 = .ok (.aload_n 0, 1) := by decide +kernel
theorem dX12_deals_44 : decode cX12_deals 44 = .ok (.invokevirtual 216, 3) := by decide +kernel
theorem dX12_deals_47 : decode cX12_deals 47 = .ok (.bipush 10, 2) := by decide +kernel
theorem dX12_deals_49 : decode cX12_deals 49 = .ok (.irem, 1) := by decide +kernel
theorem dX12_deals_50 : decode cX12_deals 50 = .ok (.iload_n 2, 1) := by decide +kernel
theorem dX12_deals_51 : decode cX12_deals 51 = .ok (.if_icmp .ge 11, 3) := by decide +kernel
theorem dX12_deals_54 : decode cX12_deals 54 = .ok (.aload_n 0, 1) := by decide +kernel
theorem dX12_deals_55 : decode cX12_deals 55 = .ok (.iload_n 3, 1) := by decide +kernel
theorem dX12_deals_56 : decode cX12_deals 56 = .ok (.iload 4, 2) := by decide +kernel
theorem dX12_deals_58 : decode cX12_deals 58 = .ok (.iconst 1, 1) := by decide +kernel
theorem dX12_deals_59 : decode cX12_deals 59 = .ok (.invokevirtual 81, 3) := by decide +kernel
theorem dX12_deals_62 : decode cX12_deals 62 = .ok (.iinc 4 1, 3) := by decide +kernel
theorem dX12_deals_65 : decode cX12_deals 65 = .ok (.goto (-28), 3) := by decide +kernel
theorem dX12_deals_32 : decode cX12_deals 32 = .ok (.iload_n 3, 1) := by decide +kernel
theorem dX12_deals_33 : decode cX12_deals 33 = .ok (.iconst 1, 1) := by decide +kernel
theorem dX12_deals_34 : decode cX12_deals 34 = .ok (.iadd, 1) := by decide +kernel
theorem dX12_deals_35 : decode cX12_deals 35 = .ok (.istore 4, 2) := by decide +kernel
theorem dX12_deals_25 : decode cX12_deals 25 = .ok (.iconst 0, 1) := by decide +kernel
theorem dX12_deals_26 : decode cX12_deals 26 = .ok (.istore_n 3, 1) := by decide +kernel
theorem dX12_deals_7 : decode cX12_deals 7 = .ok (.iload_n 3, 1) := by decide +kernel
theorem dX12_deals_8 : decode cX12_deals 8 = .ok (.iload_n 1, 1) := by decide +kernel
theorem dX12_deals_9 : decode cX12_deals 9 = .ok (.if_icmp .ge 16, 3) := by decide +kernel
theorem dX12_deals_12 : decode cX12_deals 12 = .ok (.aload_n 0, 1) := by decide +kernel
theorem dX12_deals_13 : decode cX12_deals 13 = .ok (.getfield 13, 3) := by decide +kernel
theorem dX12_deals_16 : decode cX12_deals 16 = .ok (.iload_n 3, 1) := by decide +kernel
theorem dX12_deals_17 : decode cX12_deals 17 = .ok (.iconst 0, 1) := by decide +kernel
theorem dX12_deals_18 : decode cX12_deals 18 = .ok (.iastore, 1) := by decide +kernel
theorem dX12_deals_19 : decode cX12_deals 19 = .ok (.iinc 3 1, 3) := by decide +kernel
theorem dX12_deals_22 : decode cX12_deals 22 = .ok (.goto (-15), 3) := by decide +kernel
theorem dX12_deals_0 : decode cX12_deals 0 = .ok (.aload_n 0, 1) := by decide +kernel
theorem dX12_deals_1 : decode cX12_deals 1 = .ok (.iload_n 1, 1) := by decide +kernel
theorem dX12_deals_2 : decode cX12_deals 2 = .ok (.putfield 63, 3) := by decide +kernel
theorem dX12_deals_5 : decode cX12_deals 5 = .ok (.iconst 0, 1) := by decide +kernel
theorem dX12_deals_6 : decode cX12_deals 6 = .ok (.istore_n 3, 1) := by decide +kernel
theorem dX2_hasPoint_12 : decode cX2_hasPoint 12 = .ok (.iconst 1, 1) := by decide +kernel
theorem dX2_hasPoint_13 : decode cX2_hasPoint 13 = .ok (.goto 4, 3) := by decide +kernel
theorem dX2_areTwo_10 : decode cX2_areTwo 10 = .ok (.invokevirtual 23, 3) := by decide +kernel
theorem dX2_areTwo_13 : decode cX2_areTwo 13 = .ok (.ifCond .eq 12, 3) := by decide +kernel
theorem dX2_areTwo_16 : decode cX2_areTwo 16 = .ok (.iload_n 1, 1) := by decide +kernel
theorem dX2_areTwo_17 : decode cX2_areTwo 17 = .ok (.iload_n 2, 1) := by decide +kernel
theorem dX2_areTwo_18 : decode cX2_areTwo 18 = .ok (.if_icmp .eq 7, 3) := by decide +kernel
theorem dX2_areTwo_21 : decode cX2_areTwo 21 = .ok (.iconst 1, 1) := by decide +kernel
theorem dX2_areTwo_22 : decode cX2_areTwo 22 = .ok (.goto 4, 3) := by decide +kernel
theorem dX2_areTwo_8 : decode cX2_areTwo 8 = .ok (.aload_n 0, 1) := by decide +kernel
theorem dX2_areTwo_9 : decode cX2_areTwo 9 = .ok (.iload_n 2, 1) := by decide +kernel
set_option maxRecDepth 20000 in
theorem ggX2_join_X2_areTwo : GoodIn wsX2_join wsX2_areTwo := goodIn_r _ [7, 8, 9, 10, 6, 11, 12, 13, 14, 15] rfl (by decide +kernel)
set_option maxRecDepth 20000 in
theorem gX2_join_X2_areTwo : GoodIn wsX2_join (wsV RX2 36 RX2 yX2_areTwo wsX2_areTwo) := goodIn_app (goodIn_of _ (by decide +kernel)) ggX2_join_X2_areTwo
theorem dX2_join_0 : decode cX2_join 0 = .ok (.aload_n 0, 1) := by decide +kernel
theorem dX2_join_1 : decode cX2_join 1 = .ok (.iload_n 1, 1) := by decide +kernel
theorem dX2_join_10 : decode cX2_join 10 = .ok (.iload_n 3, 1) := by decide +kernel
theorem dX2_join_11 : decode cX2_join 11 = .ok (.ifCond .eq 30, 3) := by decide +kernel
theorem dX2_join_14 : decode cX2_join 14 = .ok (.aload_n 0, 1) := by decide +kernel
theorem dX2_join_15 : decode cX2_join 15 = .ok (.getfield 9, 3) := by decide +kernel
theorem dX2_join_18 : decode cX2_join 18 = .ok (.iload_n 1, 1) := by decide +kernel
theorem dX2_join_19 : decode cX2_join 19 = .ok (.dup2, 1) := by decide +kernel
theorem dX2_join_2 : decode cX2_join 2 = .ok (.iload_n 2, 1) := by decide +kernel
theorem dX2_join_20 : decode cX2_join 20 = .ok (.iaload, 1) := by decide +kernel
theorem dX2_join_21 : decode cX2_join 21 = .ok (.iconst 1, 1) := by decide +kernel
theorem dX2_join_22 : decode cX2_join 22 = .ok (.iload_n 2, 1) := by decide +kernel
theorem dX2_join_23 : decode cX2_join 23 = .ok (.ishl, 1) := by decide +kernel
theorem dX2_join_24 : decode cX2_join 24 = .ok (.ior, 1) := by decide +kernel
theorem dX2_join_25 : decode cX2_join 25 = .ok (.iastore, 1) := by decide +kernel
theorem dX2_join_26 : decode cX2_join 26 = .ok (.aload_n 0, 1) := by decide +kernel
theorem dX2_join_27 : decode cX2_join 27 = .ok (.getfield 9, 3) := by decide +kernel
theorem dX2_join_3 : decode cX2_join 3 = .ok (.invokevirtual 36, 3) := by decide +kernel
theorem dX2_join_30 : decode cX2_join 30 = .ok (.iload_n 2, 1) := by decide +kernel
theorem dX2_join_31 : decode cX2_join 31 = .ok (.dup2, 1) := by decide +kernel
theorem dX2_join_32 : decode cX2_join 32 = .ok (.iaload, 1) := by decide +kernel
theorem dX2_join_33 : decode cX2_join 33 = .ok (.iconst 1, 1) := by decide +kernel
theorem dX2_join_34 : decode cX2_join 34 = .ok (.iload_n 1, 1) := by decide +kernel
theorem dX2_join_35 : decode cX2_join 35 = .ok (.ishl, 1) := by decide +kernel
theorem dX2_join_36 : decode cX2_join 36 = .ok (.ior, 1) := by decide +kernel
theorem dX2_join_37 : decode cX2_join 37 = .ok (.iastore, 1) := by decide +kernel
theorem dX2_join_38 : decode cX2_join 38 = .ok (.goto 31, 3) := by decide +kernel
theorem dX2_join_6 : decode cX2_join 6 = .ok (.ifCond .ne 4, 3) := by decide +kernel
theorem dX2_join_69 : decode cX2_join 69 = .ok (.aload_n 0, 1) := by decide +kernel
theorem dX2_join_70 : decode cX2_join 70 = .ok (.dup, 1) := by decide +kernel
theorem dX2_join_71 : decode cX2_join 71 = .ok (.getfield 33, 3) := by decide +kernel
theorem dX2_join_74 : decode cX2_join 74 = .ok (.iconst 1, 1) := by decide +kernel
theorem dX2_join_75 : decode cX2_join 75 = .ok (.iadd, 1) := by decide +kernel
theorem dX2_join_76 : decode cX2_join 76 = .ok (.putfield 33, 3) := by decide +kernel
theorem dX2_join_79 : decode cX2_join 79 = .ok (.return_, 1) := by decide +kernel
