theorem dX2_hasPoint_0 : decode cX2_hasPoint 0 = .ok (.iload_n 1, 1) := by decide +kernel
theorem dX2_hasPoint_1 : decode cX2_hasPoint 1 = .ok (.ifCond .lt 15, 3) := by decide +kernel
theorem dX2_hasPoint_16 : decode cX2_hasPoint 16 = .ok (.iconst 0, 1) := by decide +kernel
theorem dX2_hasPoint_17 : decode cX2_hasPoint 17 = .ok (.ireturn, 1) := by decide +kernel
theorem dX2_hasPoint_4 : decode cX2_hasPoint 4 = .ok (.iload_n 1, 1) := by decide +kernel
theorem dX2_hasPoint_5 : decode cX2_hasPoint 5 = .ok (.aload_n 0, 1) := by decide +kernel
theorem dX2_hasPoint_6 : decode cX2_hasPoint 6 = .ok (.getfield 15, 3) := by decide +kernel
theorem dX2_hasPoint_9 : decode cX2_hasPoint 9 = .ok (.if_icmp .ge 7, 3) := by decide +kernel
set_option maxRecDepth 20000 in
theorem ggX2_areTwo_X2_hasPoint : GoodIn wsX2_areTwo wsX2_hasPoint := goodIn_r _ [5, 6, 7, 8, 9] (by decide +kernel) (by decide +kernel)
set_option maxRecDepth 20000 in
theorem gX2_areTwo_X2_hasPoint : GoodIn wsX2_areTwo (wsV RX2 23 RX2 yX2_hasPoint wsX2_hasPoint) := goodIn_app (goodIn_of _ (by decide +kernel)) ggX2_areTwo_X2_hasPoint
theorem dX2_areTwo_0 : decode cX2_areTwo 0 = .ok (.aload_n 0, 1) := by decide +kernel
theorem dX2_areTwo_1 : decode cX2_areTwo 1 = .ok (.iload_n 1, 1) := by decide +kernel
theorem dX2_areTwo_2 : decode cX2_areTwo 2 = .ok (.invokevirtual 23, 3) := by decide +kernel
theorem dX2_areTwo_25 : decode cX2_areTwo 25 = .ok (.iconst 0, 1) := by decide +kernel
theorem dX2_areTwo_26 : decode cX2_areTwo 26 = .ok (.ireturn, 1) := by decide +kernel
theorem dX2_areTwo_5 : decode cX2_areTwo 5 = .ok (.ifCond .eq 20, 3) := by decide +kernel
set_option maxRecDepth 20000 in
theorem ggX11_line_X2_areTwo : GoodIn wsX11_line wsX2_areTwo := goodIn_r _ [6, 7, 8, 9, 5, 10, 11, 39, 40, 41] (by decide +kernel) (by decide +kernel)
set_option maxRecDepth 20000 in
theorem gX11_line_X2_areTwo : GoodIn wsX11_line (wsV RX11 105 RX2 yX2_areTwo wsX2_areTwo) := goodIn_app (goodIn_of _ (by decide +kernel)) ggX11_line_X2_areTwo
theorem dX11_line_0 : decode cX11_line 0 = .ok (.aload_n 0, 1) := by decide +kernel
theorem dX11_line_1 : decode cX11_line 1 = .ok (.getfield 12, 3) := by decide +kernel
theorem dX11_line_21 : decode cX11_line 21 = .ok (.bipush (-2), 2) := by decide +kernel
theorem dX11_line_23 : decode cX11_line 23 = .ok (.ireturn, 1) := by decide +kernel
theorem dX11_line_4 : decode cX11_line 4 = .ok (.iload_n 1, 1) := by decide +kernel
theorem dX11_line_5 : decode cX11_line 5 = .ok (.iload_n 2, 1) := by decide +kernel
theorem dX11_line_6 : decode cX11_line 6 = .ok (.invokevirtual 105, 3) := by decide +kernel
theorem dX11_line_9 : decode cX11_line 9 = .ok (.ifCond .eq 12, 3) := by decide +kernel
set_option maxRecDepth 20000 in
theorem ggX11_next_X2_hasPoint : GoodIn wsX11_next wsX2_hasPoint := goodIn_r _ [6, 7, 30, 31, 32] (by decide +kernel) (by decide +kernel)
set_option maxRecDepth 20000 in
theorem gX11_next_X2_hasPoint : GoodIn wsX11_next (wsV RX11 116 RX2 yX2_hasPoint wsX2_hasPoint) := goodIn_app (goodIn_of _ (by decide +kernel)) ggX11_next_X2_hasPoint
theorem dX11_next_0 : decode cX11_next 0 = .ok (.aload_n 0, 1) := by decide +kernel
theorem dX11_next_1 : decode cX11_next 1 = .ok (.getfield 12, 3) := by decide +kernel
theorem dX11_next_22 : decode cX11_next 22 = .ok (.bipush (-2), 2) := by decide +kernel
theorem dX11_next_24 : decode cX11_next 24 = .ok (.ireturn, 1) := by decide +kernel
theorem dX11_next_4 : decode cX11_next 4 = .ok (.iload_n 1, 1) := by decide +kernel
theorem dX11_next_5 : decode cX11_next 5 = .ok (.invokevirtual 116, 3) := by decide +kernel
theorem dX11_next_8 : decode cX11_next 8 = .ok (.ifCond .eq 14, 3) := by decide +kernel
theorem dX2_lineCount_0 : decode cX2_lineCount 0 = .ok (.iconst 0, 1) := by decide +kernel
theorem dX2_lineCount_1 : decode cX2_lineCount 1 = .ok (.istore_n 1, 1) := by decide +kernel
theorem dX2_lineCount_2 : decode cX2_lineCount 2 = .ok (.iconst 0, 1) := by decide +kernel
theorem dX2_lineCount_3 : decode cX2_lineCount 3 = .ok (.istore_n 2, 1) := by decide +kernel
theorem dX2_lineCount_30 : decode cX2_lineCount 30 = .ok (.iload_n 1, 1) := by decide +kernel
theorem dX2_lineCount_31 : decode cX2_lineCount 31 = .ok (.iconst 2, 1) := by decide +kernel
theorem dX2_lineCount_32 : decode cX2_lineCount 32 = .ok (.idiv, 1) := by decide +kernel
theorem dX2_lineCount_33 : decode cX2_lineCount 33 = .ok (.ireturn, 1) := by decide +kernel
theorem dX2_lineCount_4 : decode cX2_lineCount 4 = .ok (.iload_n 2, 1) := by decide +kernel
theorem dX2_lineCount_5 : decode cX2_lineCount 5 = .ok (.aload_n 0, 1) := by decide +kernel
theorem dX2_lineCount_6 : decode cX2_lineCount 6 = .ok (.getfield 15, 3) := by decide +kernel
theorem dX2_lineCount_9 : decode cX2_lineCount 9 = .ok (.if_icmp .ge 21, 3) := by decide +kernel
theorem dX2_all_0 : decode cX2_all 0 = .ok (.iconst 1, 1) := by decide +kernel
theorem dX2_all_1 : decode cX2_all 1 = .ok (.aload_n 0, 1) := by decide +kernel
theorem dX2_all_2 : decode cX2_all 2 = .ok (.getfield 15, 3) := by decide +kernel
theorem dX2_all_5 : decode cX2_all 5 = .ok (.ishl, 1) := by decide +kernel
theorem dX2_all_6 : decode cX2_all 6 = .ok (.iconst 1, 1) := by decide +kernel
theorem dX2_all_7 : decode cX2_all 7 = .ok (.isub, 1) := by decide +kernel
theorem dX2_all_8 : decode cX2_all 8 = .ok (.ireturn, 1) := by decide +kernel
theorem dX3_notice_0 : decode cX3_notice 0 = .ok (.aload_n 0, 1) := by decide +kernel
theorem dX3_notice_1 : decode cX3_notice 1 = .ok (.getfield 27, 3) := by decide +kernel
theorem dX3_notice_11 : decode cX3_notice 11 = .ok (.if_icmp .eq 28, 3) := by decide +kernel
theorem dX3_notice_39 : decode cX3_notice 39 = .ok (.return_, 1) := by decide +kernel
theorem dX3_notice_4 : decode cX3_notice 4 = .ok (.aload_n 0, 1) := by decide +kernel
theorem dX3_notice_5 : decode cX3_notice 5 = .ok (.getfield 23, 3) := by decide +kernel
theorem dX3_notice_8 : decode cX3_notice 8 = .ok (.getfield 31, 3) := by decide +kernel
theorem dJ6_numberOfLeadingZeros_0f7a4_0 : decode cJ6_numberOfLeadingZeros_0f7a4 0 = .ok (.iload_n 0, 1) := by decide +kernel
theorem dJ6_numberOfLeadingZeros_0f7a4_1 : decode cJ6_numberOfLeadingZeros_0f7a4 1 = .ok (.ifCond .gt 14, 3) := by decide +kernel
theorem dJ6_numberOfLeadingZeros_0f7a4_10 : decode cJ6_numberOfLeadingZeros_0f7a4 10 = .ok (.goto 4, 3) := by decide +kernel
theorem dJ6_numberOfLeadingZeros_0f7a4_14 : decode cJ6_numberOfLeadingZeros_0f7a4 14 = .ok (.ireturn, 1) := by decide +kernel
theorem dJ6_numberOfLeadingZeros_0f7a4_4 : decode cJ6_numberOfLeadingZeros_0f7a4 4 = .ok (.iload_n 0, 1) := by decide +kernel
theorem dJ6_numberOfLeadingZeros_0f7a4_5 : decode cJ6_numberOfLeadingZeros_0f7a4 5 = .ok (.ifCond .ne 8, 3) := by decide +kernel
theorem dJ6_numberOfLeadingZeros_0f7a4_8 : decode cJ6_numberOfLeadingZeros_0f7a4 8 = .ok (.bipush 32, 2) := by decide +kernel
set_option maxRecDepth 20000 in
theorem ggX3_bestOf_J6_numberOfLeadingZeros_0f7a4 : GoodIn wsX3_bestOf wsJ6_numberOfLeadingZeros_0f7a4 := goodIn_r _ [6, 7] (by decide +kernel) (by decide +kernel)
set_option maxRecDepth 20000 in
theorem gX3_bestOf_J6_numberOfLeadingZeros_0f7a4 : GoodIn wsX3_bestOf (va_wsS RX3 55 yJ6_numberOfLeadingZeros_0f7a4 wsJ6_numberOfLeadingZeros_0f7a4) := goodIn_app (goodIn_of _ (by decide +kernel)) ggX3_bestOf_J6_numberOfLeadingZeros_0f7a4
theorem dX3_bestOf_0 : decode cX3_bestOf 0 = .ok (.bipush 31, 2) := by decide +kernel
theorem dX3_bestOf_10 : decode cX3_bestOf 10 = .ok (.if_icmp .lt 15, 3) := by decide +kernel
theorem dX3_bestOf_2 : decode cX3_bestOf 2 = .ok (.iload_n 1, 1) := by decide +kernel
theorem dX3_bestOf_25 : decode cX3_bestOf 25 = .ok (.iconst 0, 1) := by decide +kernel
theorem dX3_bestOf_26 : decode cX3_bestOf 26 = .ok (.ireturn, 1) := by decide +kernel
theorem dX3_bestOf_3 : decode cX3_bestOf 3 = .ok (.invokestatic 55, 3) := by decide +kernel
theorem dX3_bestOf_6 : decode cX3_bestOf 6 = .ok (.isub, 1) := by decide +kernel
theorem dX3_bestOf_7 : decode cX3_bestOf 7 = .ok (.istore_n 3, 1) := by decide +kernel
theorem dX3_bestOf_8 : decode cX3_bestOf 8 = .ok (.iload_n 3, 1) := by decide +kernel
theorem dX3_bestOf_9 : decode cX3_bestOf 9 = .ok (.iconst 1, 1) := by decide +kernel
set_option maxRecDepth 20000 in
theorem ggX3_best_X3_bestOf : GoodIn wsX3_best wsX3_bestOf := goodIn_r _ [20, 8, 7, 21, 22, 23, 24, 25, 26, 27, 28, 13, 29, 16, 15, 30, 17, 18, 19, 4, 31, 32, 33, 34, 35, 36, 37, 38, 39, 40, 41, 42, 43, 44, 45, 46, 47, 48, 49] (by decide +kernel) (by decide +kernel)
set_option maxRecDepth 20000 in
theorem gX3_best_X3_bestOf : GoodIn wsX3_best (wsV RX3 42 RX3 yX3_bestOf wsX3_bestOf) := goodIn_app (goodIn_of _ (by decide +kernel)) ggX3_best_X3_bestOf
set_option maxRecDepth 20000 in
theorem ggX3_best_X3_notice : GoodIn wsX3_best wsX3_notice := goodIn_r _ [5, 6, 7, 8, 9, 10, 11, 12, 13, 14, 15, 16, 41, 42, 43, 44, 45, 46, 47, 48, 49] (by decide +kernel) (by decide +kernel)
set_option maxRecDepth 20000 in
theorem gX3_best_X3_notice : GoodIn wsX3_best (wsV RX3 39 RX3 yX3_notice wsX3_notice) := goodIn_app (goodIn_of _ (by decide +kernel)) ggX3_best_X3_notice
theorem dX3_best_0 : decode cX3_best 0 = .ok (.aload_n 0, 1) := by decide +kernel
theorem dX3_best_1 : decode cX3_best 1 = .ok (.invokevirtual 39, 3) := by decide +kernel
theorem dX3_best_10 : decode cX3_best 10 = .ok (.ireturn, 1) := by decide +kernel
theorem dX3_best_4 : decode cX3_best 4 = .ok (.aload_n 0, 1) := by decide +kernel
theorem dX3_best_5 : decode cX3_best 5 = .ok (.iload_n 1, 1) := by decide +kernel
theorem dX3_best_6 : decode cX3_best 6 = .ok (.iconst 0, 1) := by decide +kernel
theorem dX3_best_7 : decode cX3_best 7 = .ok (.invokevirtual 42, 3) := by decide +kernel
theorem dJ6_bitCount_0f7a4_0 : decode cJ6_bitCount_0f7a4 0 = .ok (.iload_n 0, 1) := by decide +kernel
theorem dJ6_bitCount_0f7a4_1 : decode cJ6_bitCount_0f7a4 1 = .ok (.iload_n 0, 1) := by decide +kernel
theorem dJ6_bitCount_0f7a4_10 : decode cJ6_bitCount_0f7a4 10 = .ok (.iload_n 0, 1) := by decide +kernel
theorem dJ6_bitCount_0f7a4_11 : decode cJ6_bitCount_0f7a4 11 = .ok (.ldc_w 266, 3) := by decide +kernel
theorem dJ6_bitCount_0f7a4_14 : decode cJ6_bitCount_0f7a4 14 = .ok (.iand, 1) := by decide +kernel
theorem dJ6_bitCount_0f7a4_15 : decode cJ6_bitCount_0f7a4 15 = .ok (.iload_n 0, 1) := by decide +kernel
theorem dJ6_bitCount_0f7a4_16 : decode cJ6_bitCount_0f7a4 16 = .ok (.iconst 2, 1) := by decide +kernel
theorem dJ6_bitCount_0f7a4_17 : decode cJ6_bitCount_0f7a4 17 = .ok (.iushr, 1) := by decide +kernel
theorem dJ6_bitCount_0f7a4_18 : decode cJ6_bitCount_0f7a4 18 = .ok (.ldc_w 266, 3) := by decide +kernel
theorem dJ6_bitCount_0f7a4_2 : decode cJ6_bitCount_0f7a4 2 = .ok (.iconst 1, 1) := by decide +kernel
theorem dJ6_bitCount_0f7a4_21 : decode cJ6_bitCount_0f7a4 21 = .ok (.iand, 1) := by decide +kernel
theorem dJ6_bitCount_0f7a4_22 : decode cJ6_bitCount_0f7a4 22 = .ok (.iadd, 1) := by decide +kernel
theorem dJ6_bitCount_0f7a4_23 : decode cJ6_bitCount_0f7a4 23 = .ok (.istore_n 0, 1) := by decide +kernel
theorem dJ6_bitCount_0f7a4_24 : decode cJ6_bitCount_0f7a4 24 = .ok (.iload_n 0, 1) := by decide +kernel
theorem dJ6_bitCount_0f7a4_25 : decode cJ6_bitCount_0f7a4 25 = .ok (.iload_n 0, 1) := by decide +kernel
theorem dJ6_bitCount_0f7a4_26 : decode cJ6_bitCount_0f7a4 26 = .ok (.iconst 4, 1) := by decide +kernel
theorem dJ6_bitCount_0f7a4_27 : decode cJ6_bitCount_0f7a4 27 = .ok (.iushr, 1) := by decide +kernel
theorem dJ6_bitCount_0f7a4_28 : decode cJ6_bitCount_0f7a4 28 = .ok (.iadd, 1) := by decide +kernel
theorem dJ6_bitCount_0f7a4_29 : decode cJ6_bitCount_0f7a4 29 = .ok (.ldc_w 267, 3) := by decide +kernel
theorem dJ6_bitCount_0f7a4_3 : decode cJ6_bitCount_0f7a4 3 = .ok (.iushr, 1) := by decide +kernel
theorem dJ6_bitCount_0f7a4_32 : decode cJ6_bitCount_0f7a4 32 = .ok (.iand, 1) := by decide +kernel
theorem dJ6_bitCount_0f7a4_33 : decode cJ6_bitCount_0f7a4 33 = .ok (.istore_n 0, 1) := by decide +kernel
theorem dJ6_bitCount_0f7a4_34 : decode cJ6_bitCount_0f7a4 34 = .ok (.iload_n 0, 1) := by decide +kernel
theorem dJ6_bitCount_0f7a4_35 : decode cJ6_bitCount_0f7a4 35 = .ok (.iload_n 0, 1) := by decide +kernel
theorem dJ6_bitCount_0f7a4_36 : decode cJ6_bitCount_0f7a4 36 = .ok (.bipush 8, 2) := by decide +kernel
theorem dJ6_bitCount_0f7a4_38 : decode cJ6_bitCount_0f7a4 38 = .ok (.iushr, 1) := by decide +kernel
theorem dJ6_bitCount_0f7a4_39 : decode cJ6_bitCount_0f7a4 39 = .ok (.iadd, 1) := by decide +kernel
theorem dJ6_bitCount_0f7a4_4 : decode cJ6_bitCount_0f7a4 4 = .ok (.ldc_w 265, 3) := by decide +kernel
theorem dJ6_bitCount_0f7a4_40 : decode cJ6_bitCount_0f7a4 40 = .ok (.istore_n 0, 1) := by decide +kernel
theorem dJ6_bitCount_0f7a4_41 : decode cJ6_bitCount_0f7a4 41 = .ok (.iload_n 0, 1) := by decide +kernel
theorem dJ6_bitCount_0f7a4_42 : decode cJ6_bitCount_0f7a4 42 = .ok (.iload_n 0, 1) := by decide +kernel
theorem dJ6_bitCount_0f7a4_43 : decode cJ6_bitCount_0f7a4 43 = .ok (.bipush 16, 2) := by decide +kernel
theorem dJ6_bitCount_0f7a4_45 : decode cJ6_bitCount_0f7a4 45 = .ok (.iushr, 1) := by decide +kernel
theorem dJ6_bitCount_0f7a4_46 : decode cJ6_bitCount_0f7a4 46 = .ok (.iadd, 1) := by decide +kernel
theorem dJ6_bitCount_0f7a4_47 : decode cJ6_bitCount_0f7a4 47 = .ok (.istore_n 0, 1) := by decide +kernel
theorem dJ6_bitCount_0f7a4_48 : decode cJ6_bitCount_0f7a4 48 = .ok (.iload_n 0, 1) := by decide +kernel
theorem dJ6_bitCount_0f7a4_49 : decode cJ6_bitCount_0f7a4 49 = .ok (.bipush 63, 2) := by decide +kernel
theorem dJ6_bitCount_0f7a4_51 : decode cJ6_bitCount_0f7a4 51 = .ok (.iand, 1) := by decide +kernel
theorem dJ6_bitCount_0f7a4_52 : decode cJ6_bitCount_0f7a4 52 = .ok (.ireturn, 1) := by decide +kernel
theorem dJ6_bitCount_0f7a4_7 : decode cJ6_bitCount_0f7a4 7 = .ok (.iand, 1) := by decide +kernel
theorem dJ6_bitCount_0f7a4_8 : decode cJ6_bitCount_0f7a4 8 = .ok (.isub, 1) := by decide +kernel
theorem dJ6_bitCount_0f7a4_9 : decode cJ6_bitCount_0f7a4 9 = .ok (.istore_n 0, 1) := by decide +kernel
set_option maxRecDepth 20000 in
theorem ggX3_lack_J6_bitCount_0f7a4 : GoodIn wsX3_lack wsJ6_bitCount_0f7a4 := goodIn_r _ [4, 5, 6, 7] (by decide +kernel) (by decide +kernel)
set_option maxRecDepth 20000 in
theorem gX3_lack_J6_bitCount_0f7a4 : GoodIn wsX3_lack (va_wsS RX3 46 yJ6_bitCount_0f7a4 wsJ6_bitCount_0f7a4) := goodIn_app (goodIn_of _ (by decide +kernel)) ggX3_lack_J6_bitCount_0f7a4
set_option maxRecDepth 20000 in
theorem ggX3_lack_X3_best : GoodIn wsX3_lack wsX3_best := goodIn_r _ [12, 13, 14, 15, 11, 16, 17, 18, 19, 20, 21, 22, 23, 24, 25, 26, 27, 28, 29, 30, 31, 32, 33, 3, 34, 35, 36, 37, 38, 39, 40, 1, 2, 4, 5, 6, 7, 41, 42, 43, 44, 45, 46, 47, 48, 49, 50, 51, 52, 53] (by decide +kernel) (by decide +kernel)
set_option maxRecDepth 20000 in
theorem gX3_lack_X3_best : GoodIn wsX3_lack (wsV RX3 52 RX3 yX3_best wsX3_best) := goodIn_app (goodIn_of _ (by decide +kernel)) ggX3_lack_X3_best
theorem dX3_lack_0 : decode cX3_lack 0 = .ok (.iload_n 1, 1) := by decide +kernel
theorem dX3_lack_1 : decode cX3_lack 1 = .ok (.invokestatic 46, 3) := by decide +kernel
theorem dX3_lack_10 : decode cX3_lack 10 = .ok (.imul, 1) := by decide +kernel
theorem dX3_lack_11 : decode cX3_lack 11 = .ok (.isub, 1) := by decide +kernel
theorem dX3_lack_12 : decode cX3_lack 12 = .ok (.ireturn, 1) := by decide +kernel
theorem dX3_lack_4 : decode cX3_lack 4 = .ok (.iconst 2, 1) := by decide +kernel
theorem dX3_lack_5 : decode cX3_lack 5 = .ok (.aload_n 0, 1) := by decide +kernel
theorem dX3_lack_6 : decode cX3_lack 6 = .ok (.iload_n 1, 1) := by decide +kernel
theorem dX3_lack_7 : decode cX3_lack 7 = .ok (.invokevirtual 52, 3) := by decide +kernel
set_option maxRecDepth 20000 in
theorem ggX2_pieceCount_X2_all : GoodIn wsX2_pieceCount wsX2_all := goodIn_r _ [6, 7, 19, 20, 21] (by decide +kernel) (by decide +kernel)
set_option maxRecDepth 20000 in
theorem gX2_pieceCount_X2_all : GoodIn wsX2_pieceCount (wsV RX2 19 RX2 yX2_all wsX2_all) := goodIn_app (goodIn_of _ (by decide +kernel)) ggX2_pieceCount_X2_all
theorem dX2_pieceCount_0 : decode cX2_pieceCount 0 = .ok (.iload_n 1, 1) := by decide +kernel
theorem dX2_pieceCount_1 : decode cX2_pieceCount 1 = .ok (.aload_n 0, 1) := by decide +kernel
theorem dX2_pieceCount_10 : decode cX2_pieceCount 10 = .ok (.istore 4, 2) := by decide +kernel
theorem dX2_pieceCount_12 : decode cX2_pieceCount 12 = .ok (.iload 4, 2) := by decide +kernel
theorem dX2_pieceCount_14 : decode cX2_pieceCount 14 = .ok (.bipush 12, 2) := by decide +kernel
theorem dX2_pieceCount_16 : decode cX2_pieceCount 16 = .ok (.if_icmp .ge 29, 3) := by decide +kernel
theorem dX2_pieceCount_19 : decode cX2_pieceCount 19 = .ok (.iload_n 2, 1) := by decide +kernel
theorem dX2_pieceCount_2 : decode cX2_pieceCount 2 = .ok (.invokevirtual 19, 3) := by decide +kernel
theorem dX2_pieceCount_20 : decode cX2_pieceCount 20 = .ok (.ifCond .eq 25, 3) := by decide +kernel
theorem dX2_pieceCount_45 : decode cX2_pieceCount 45 = .ok (.iload_n 3, 1) := by decide +kernel
theorem dX2_pieceCount_46 : decode cX2_pieceCount 46 = .ok (.ireturn, 1) := by decide +kernel
theorem dX2_pieceCount_5 : decode cX2_pieceCount 5 = .ok (.iand, 1) := by decide +kernel
theorem dX2_pieceCount_6 : decode cX2_pieceCount 6 = .ok (.istore_n 2, 1) := by decide +kernel
theorem dX2_pieceCount_7 : decode cX2_pieceCount 7 = .ok (.iconst 0, 1) := by decide +kernel
theorem dX2_pieceCount_8 : decode cX2_pieceCount 8 = .ok (.istore_n 3, 1) := by decide +kernel
theorem dX2_pieceCount_9 : decode cX2_pieceCount 9 = .ok (.iconst 0, 1) := by decide +kernel
set_option maxRecDepth 20000 in
theorem ggX11_count_X2_all : GoodIn wsX11_count wsX2_all := goodIn_r _ [22, 10, 96, 97, 98] (by decide +kernel) (by decide +kernel)
set_option maxRecDepth 20000 in
theorem gX11_count_X2_all : GoodIn wsX11_count (wsV RX11 128 RX2 yX2_all wsX2_all) := goodIn_app (goodIn_of _ (by decide +kernel)) ggX11_count_X2_all
set_option maxRecDepth 20000 in
theorem ggX11_count_X2_lineCount : GoodIn wsX11_count wsX2_lineCount := goodIn_r _ [9, 10, 11, 12, 13, 14, 15, 16, 17, 18, 96, 97, 98] (by decide +kernel) (by decide +kernel)
set_option maxRecDepth 20000 in
theorem gX11_count_X2_lineCount : GoodIn wsX11_count (wsV RX11 124 RX2 yX2_lineCount wsX2_lineCount) := goodIn_app (goodIn_of _ (by decide +kernel)) ggX11_count_X2_lineCount
set_option maxRecDepth 20000 in
theorem ggX11_count_X2_pieceCount : GoodIn wsX11_count wsX2_pieceCount := goodIn_r _ [69, 11, 70, 20, 21, 8, 22, 10, 71, 72, 73, 74, 75, 14, 76, 77, 78, 79, 50, 96, 97, 98] (by decide +kernel) (by decide +kernel)
set_option maxRecDepth 20000 in
theorem gX11_count_X2_pieceCount : GoodIn wsX11_count (wsV RX11 137 RX2 yX2_pieceCount wsX2_pieceCount) := goodIn_app (goodIn_of _ (by decide +kernel)) ggX11_count_X2_pieceCount
set_option maxRecDepth 20000 in
theorem ggX11_count_X3_best : GoodIn wsX11_count wsX3_best := goodIn_r _ [27, 28, 29, 30, 26, 31, 32, 33, 34, 35, 36, 37, 38, 39, 40, 41, 42, 43, 44, 45, 46, 47, 48, 14, 49, 50, 51, 52, 53, 54, 55, 56, 13, 15, 16, 17, 18, 57, 58, 59, 60, 102, 103, 104, 105, 96, 97, 98, 106, 107] (by decide +kernel) (by decide +kernel)
set_option maxRecDepth 20000 in
theorem gX11_count_X3_best : GoodIn wsX11_count (wsV RX11 131 RX3 yX3_best wsX3_best) := goodIn_app (goodIn_of _ (by decide +kernel)) ggX11_count_X3_best
set_option maxRecDepth 20000 in
theorem ggX11_count_X3_lack : GoodIn wsX11_count wsX3_lack := goodIn_r _ [64, 56, 13, 14, 15, 16, 17, 18, 65, 24, 25, 26, 27, 28, 29, 30, 31, 32, 33, 34, 35, 36, 37, 38, 39, 40, 41, 42, 43, 44, 45, 46, 47, 48, 49, 50, 51, 52, 53, 54, 55, 57, 58, 59, 60, 102, 103, 104, 105, 96, 97, 98, 106, 107] (by decide +kernel) (by decide +kernel)
set_option maxRecDepth 20000 in
theorem gX11_count_X3_lack : GoodIn wsX11_count (wsV RX11 134 RX3 yX3_lack wsX3_lack) := goodIn_app (goodIn_of _ (by decide +kernel)) ggX11_count_X3_lack
theorem dX11_count_0 : decode cX11_count 0 = .ok (.iload_n 1, 1) := by decide +kernel
theorem dX11_count_1 : decode cX11_count 1 = .ok (.tableswitch 120 0 6 #[43, 51, 59, 74, 89, 104, 112], 43) := by decide +kernel
theorem dX11_count_101 : decode cX11_count 101 = .ok (.invokevirtual 137, 3) := by decide +kernel
theorem dX11_count_104 : decode cX11_count 104 = .ok (.ireturn, 1) := by decide +kernel
theorem dX11_count_105 : decode cX11_count 105 = .ok (.aload_n 0, 1) := by decide +kernel
theorem dX11_count_106 : decode cX11_count 106 = .ok (.getfield 60, 3) := by decide +kernel
theorem dX11_count_109 : decode cX11_count 109 = .ok (.getfield 140, 3) := by decide +kernel
theorem dX11_count_112 : decode cX11_count 112 = .ok (.ireturn, 1) := by decide +kernel
theorem dX11_count_113 : decode cX11_count 113 = .ok (.aload_n 0, 1) := by decide +kernel
theorem dX11_count_114 : decode cX11_count 114 = .ok (.getfield 53, 3) := by decide +kernel
theorem dX11_count_117 : decode cX11_count 117 = .ok (.getfield 141, 3) := by decide +kernel
theorem dX11_count_120 : decode cX11_count 120 = .ok (.ireturn, 1) := by decide +kernel
theorem dX11_count_121 : decode cX11_count 121 = .ok (.bipush (-2), 2) := by decide +kernel
theorem dX11_count_123 : decode cX11_count 123 = .ok (.ireturn, 1) := by decide +kernel
theorem dX11_count_44 : decode cX11_count 44 = .ok (.aload_n 0, 1) := by decide +kernel
theorem dX11_count_45 : decode cX11_count 45 = .ok (.getfield 12, 3) := by decide +kernel
theorem dX11_count_48 : decode cX11_count 48 = .ok (.getfield 97, 3) := by decide +kernel
theorem dX11_count_51 : decode cX11_count 51 = .ok (.ireturn, 1) := by decide +kernel
theorem dX11_count_52 : decode cX11_count 52 = .ok (.aload_n 0, 1) := by decide +kernel
theorem dX11_count_53 : decode cX11_count 53 = .ok (.getfield 12, 3) := by decide +kernel
theorem dX11_count_56 : decode cX11_count 56 = .ok (.invokevirtual 124, 3) := by decide +kernel
theorem dX11_count_59 : decode cX11_count 59 = .ok (.ireturn, 1) := by decide +kernel
theorem dX11_count_60 : decode cX11_count 60 = .ok (.aload_n 0, 1) := by decide +kernel
theorem dX11_count_61 : decode cX11_count 61 = .ok (.getfield 21, 3) := by decide +kernel
theorem dX11_count_64 : decode cX11_count 64 = .ok (.aload_n 0, 1) := by decide +kernel
theorem dX11_count_65 : decode cX11_count 65 = .ok (.getfield 12, 3) := by decide +kernel
theorem dX11_count_68 : decode cX11_count 68 = .ok (.invokevirtual 128, 3) := by decide +kernel
theorem dX11_count_71 : decode cX11_count 71 = .ok (.invokevirtual 131, 3) := by decide +kernel
theorem dX11_count_74 : decode cX11_count 74 = .ok (.ireturn, 1) := by decide +kernel
theorem dX11_count_75 : decode cX11_count 75 = .ok (.aload_n 0, 1) := by decide +kernel
theorem dX11_count_76 : decode cX11_count 76 = .ok (.getfield 21, 3) := by decide +kernel
theorem dX11_count_79 : decode cX11_count 79 = .ok (.aload_n 0, 1) := by decide +kernel
theorem dX11_count_80 : decode cX11_count 80 = .ok (.getfield 12, 3) := by decide +kernel
theorem dX11_count_83 : decode cX11_count 83 = .ok (.invokevirtual 128, 3) := by decide +kernel
theorem dX11_count_86 : decode cX11_count 86 = .ok (.invokevirtual 134, 3) := by decide +kernel
theorem dX11_count_89 : decode cX11_count 89 = .ok (.ireturn, 1) := by decide +kernel
theorem dX11_count_90 : decode cX11_count 90 = .ok (.aload_n 0, 1) := by decide +kernel
theorem dX11_count_91 : decode cX11_count 91 = .ok (.getfield 12, 3) := by decide +kernel
theorem dX11_count_94 : decode cX11_count 94 = .ok (.aload_n 0, 1) := by decide +kernel
theorem dX11_count_95 : decode cX11_count 95 = .ok (.getfield 12, 3) := by decide +kernel
theorem dX11_count_98 : decode cX11_count 98 = .ok (.invokevirtual 128, 3) := by decide +kernel
set_option maxRecDepth 20000 in
theorem ggX2_hasAll_X2_all : GoodIn wsX2_hasAll wsX2_all := goodIn_r _ [5, 6, 7, 8, 9] (by decide +kernel) (by decide +kernel)
set_option maxRecDepth 20000 in
theorem gX2_hasAll_X2_all : GoodIn wsX2_hasAll (wsV RX2 19 RX2 yX2_all wsX2_all) := goodIn_app (goodIn_of _ (by decide +kernel)) ggX2_hasAll_X2_all
theorem dX2_hasAll_0 : decode cX2_hasAll 0 = .ok (.iload_n 1, 1) := by decide +kernel
theorem dX2_hasAll_1 : decode cX2_hasAll 1 = .ok (.aload_n 0, 1) := by decide +kernel
theorem dX2_hasAll_11 : decode cX2_hasAll 11 = .ok (.iconst 1, 1) := by decide +kernel
theorem dX2_hasAll_12 : decode cX2_hasAll 12 = .ok (.goto 4, 3) := by decide +kernel
theorem dX2_hasAll_15 : decode cX2_hasAll 15 = .ok (.iconst 0, 1) := by decide +kernel
theorem dX2_hasAll_16 : decode cX2_hasAll 16 = .ok (.ireturn, 1) := by decide +kernel
theorem dX2_hasAll_2 : decode cX2_hasAll 2 = .ok (.invokevirtual 19, 3) := by decide +kernel
theorem dX2_hasAll_5 : decode cX2_hasAll 5 = .ok (.iconst (-1), 1) := by decide +kernel
theorem dX2_hasAll_6 : decode cX2_hasAll 6 = .ok (.ixor, 1) := by decide +kernel
theorem dX2_hasAll_7 : decode cX2_hasAll 7 = .ok (.iand, 1) := by decide +kernel
theorem dX2_hasAll_8 : decode cX2_hasAll 8 = .ok (.ifCond .ne 7, 3) := by decide +kernel
set_option maxRecDepth 20000 in
theorem ggX11_most_X2_hasAll : GoodIn wsX11_most wsX2_hasAll := goodIn_r _ [7, 8, 9, 10, 6, 11, 12, 73, 74, 75] (by decide +kernel) (by decide +kernel)
set_option maxRecDepth 20000 in
theorem gX11_most_X2_hasAll : GoodIn wsX11_most (wsV RX11 144 RX2 yX2_hasAll wsX2_hasAll) := goodIn_app (goodIn_of _ (by decide +kernel)) ggX11_most_X2_hasAll
set_option maxRecDepth 20000 in
theorem ggX11_most_X3_best : GoodIn wsX11_most wsX3_best := goodIn_r _ [17, 18, 19, 20, 16, 21, 22, 23, 24, 25, 26, 27, 28, 29, 30, 31, 32, 33, 34, 35, 36, 37, 38, 39, 40, 41, 42, 43, 44, 45, 46, 47, 48, 49, 50, 51, 52, 53, 54, 55, 56, 76, 77, 78, 79, 73, 74, 75, 80, 81] (by decide +kernel) (by decide +kernel)
set_option maxRecDepth 20000 in
theorem gX11_most_X3_best : GoodIn wsX11_most (wsV RX11 131 RX3 yX3_best wsX3_best) := goodIn_app (goodIn_of _ (by decide +kernel)) ggX11_most_X3_best
theorem dX11_most_0 : decode cX11_most 0 = .ok (.aload_n 0, 1) := by decide +kernel
theorem dX11_most_1 : decode cX11_most 1 = .ok (.getfield 12, 3) := by decide +kernel
theorem dX11_most_11 : decode cX11_most 11 = .ok (.aload_n 0, 1) := by decide +kernel
theorem dX11_most_12 : decode cX11_most 12 = .ok (.getfield 21, 3) := by decide +kernel
theorem dX11_most_15 : decode cX11_most 15 = .ok (.iload_n 1, 1) := by decide +kernel
theorem dX11_most_16 : decode cX11_most 16 = .ok (.invokevirtual 131, 3) := by decide +kernel
theorem dX11_most_19 : decode cX11_most 19 = .ok (.goto 5, 3) := by decide +kernel
theorem dX11_most_22 : decode cX11_most 22 = .ok (.bipush (-2), 2) := by decide +kernel
theorem dX11_most_24 : decode cX11_most 24 = .ok (.ireturn, 1) := by decide +kernel
theorem dX11_most_4 : decode cX11_most 4 = .ok (.iload_n 1, 1) := by decide +kernel
theorem dX11_most_5 : decode cX11_most 5 = .ok (.invokevirtual 144, 3) := by decide +kernel
theorem dX11_most_8 : decode cX11_most 8 = .ok (.ifCond .eq 14, 3) := by decide +kernel
set_option maxRecDepth 20000 in
theorem ggX11_mate_X2_hasPoint : GoodIn wsX11_mate wsX2_hasPoint := goodIn_r _ [7, 8, 98, 99, 100] (by decide +kernel) (by decide +kernel)
set_option maxRecDepth 20000 in
theorem gX11_mate_X2_hasPoint : GoodIn wsX11_mate (wsV RX11 116 RX2 yX2_hasPoint wsX2_hasPoint) := goodIn_app (goodIn_of _ (by decide +kernel)) ggX11_mate_X2_hasPoint
theorem dX11_mate_0 : decode cX11_mate 0 = .ok (.aload_n 0, 1) := by decide +kernel
theorem dX11_mate_1 : decode cX11_mate 1 = .ok (.getfield 12, 3) := by decide +kernel
theorem dX11_mate_11 : decode cX11_mate 11 = .ok (.bipush (-2), 2) := by decide +kernel
theorem dX11_mate_13 : decode cX11_mate 13 = .ok (.ireturn, 1) := by decide +kernel
theorem dX11_mate_4 : decode cX11_mate 4 = .ok (.iload_n 1, 1) := by decide +kernel
theorem dX11_mate_5 : decode cX11_mate 5 = .ok (.invokevirtual 116, 3) := by decide +kernel
theorem dX11_mate_8 : decode cX11_mate 8 = .ok (.ifCond .ne 6, 3) := by decide +kernel
theorem dX1_isBlank_0 : decode cX1_isBlank 0 = .ok (.aload_n 0, 1) := by decide +kernel
theorem dX1_isBlank_1 : decode cX1_isBlank 1 = .ok (.getfield 21, 3) := by decide +kernel
theorem dX1_isBlank_13 : decode cX1_isBlank 13 = .ok (.ireturn, 1) := by decide +kernel
theorem dX1_isBlank_4 : decode cX1_isBlank 4 = .ok (.arraylength, 1) := by decide +kernel
theorem dX1_isBlank_5 : decode cX1_isBlank 5 = .ok (.ifCond .ne 7, 3) := by decide +kernel
theorem dX1_isBlank_8 : decode cX1_isBlank 8 = .ok (.iconst 1, 1) := by decide +kernel
theorem dX1_isBlank_9 : decode cX1_isBlank 9 = .ok (.goto 4, 3) := by decide +kernel
theorem dX3_numberOf_0 : decode cX3_numberOf 0 = .ok (.iload_n 2, 1) := by decide +kernel
theorem dX3_numberOf_1 : decode cX3_numberOf 1 = .ok (.ifCond .ne 5, 3) := by decide +kernel
theorem dX3_numberOf_4 : decode cX3_numberOf 4 = .ok (.iconst 1, 1) := by decide +kernel
theorem dX3_numberOf_5 : decode cX3_numberOf 5 = .ok (.ireturn, 1) := by decide +kernel
set_option maxRecDepth 20000 in
theorem ggX3_numberOf_J6_bitCount_0f7a4 : GoodIn wsX3_numberOf wsJ6_bitCount_0f7a4 := goodIn_r _ [10, 11, 12, 13] (by decide +kernel) (by decide +kernel)
set_option maxRecDepth 20000 in
theorem gX3_numberOf_J6_bitCount_0f7a4 : GoodIn wsX3_numberOf (va_wsS RX3 46 yJ6_bitCount_0f7a4 wsJ6_bitCount_0f7a4) := goodIn_app (goodIn_of _ (by decide +kernel)) ggX3_numberOf_J6_bitCount_0f7a4
set_option maxRecDepth 20000 in
theorem ggX3_numberOf_J6_numberOfLeadingZeros_0f7a4 : GoodIn wsX3_numberOf wsJ6_numberOfLeadingZeros_0f7a4 := goodIn_r _ [6, 7] (by decide +kernel) (by decide +kernel)
set_option maxRecDepth 20000 in
theorem gX3_numberOf_J6_numberOfLeadingZeros_0f7a4 : GoodIn wsX3_numberOf (va_wsS RX3 55 yJ6_numberOfLeadingZeros_0f7a4 wsJ6_numberOfLeadingZeros_0f7a4) := goodIn_app (goodIn_of _ (by decide +kernel)) ggX3_numberOf_J6_numberOfLeadingZeros_0f7a4
theorem dX3_numberOf_12 : decode cX3_numberOf 12 = .ok (.isub, 1) := by decide +kernel
theorem dX3_numberOf_13 : decode cX3_numberOf 13 = .ok (.istore 4, 2) := by decide +kernel
theorem dX3_numberOf_15 : decode cX3_numberOf 15 = .ok (.iload_n 2, 1) := by decide +kernel
theorem dX3_numberOf_16 : decode cX3_numberOf 16 = .ok (.ifCond .lt 26, 3) := by decide +kernel
theorem dX3_numberOf_19 : decode cX3_numberOf 19 = .ok (.iconst 2, 1) := by decide +kernel
theorem dX3_numberOf_20 : decode cX3_numberOf 20 = .ok (.iload_n 2, 1) := by decide +kernel
theorem dX3_numberOf_21 : decode cX3_numberOf 21 = .ok (.imul, 1) := by decide +kernel
theorem dX3_numberOf_22 : decode cX3_numberOf 22 = .ok (.iload_n 1, 1) := by decide +kernel
theorem dX3_numberOf_23 : decode cX3_numberOf 23 = .ok (.invokestatic 46, 3) := by decide +kernel
theorem dX3_numberOf_26 : decode cX3_numberOf 26 = .ok (.if_icmp .gt 16, 3) := by decide +kernel
theorem dX3_numberOf_42 : decode cX3_numberOf 42 = .ok (.iconst 0, 1) := by decide +kernel
theorem dX3_numberOf_43 : decode cX3_numberOf 43 = .ok (.ireturn, 1) := by decide +kernel
theorem dX3_numberOf_6 : decode cX3_numberOf 6 = .ok (.bipush 31, 2) := by decide +kernel
theorem dX3_numberOf_8 : decode cX3_numberOf 8 = .ok (.iload_n 1, 1) := by decide +kernel
theorem dX3_numberOf_9 : decode cX3_numberOf 9 = .ok (.invokestatic 55, 3) := by decide +kernel
set_option maxRecDepth 20000 in
theorem ggX11_mark_X2_hasPoint : GoodIn wsX11_mark wsX2_hasPoint := goodIn_r _ [7, 8, 90, 91, 92] (by decide +kernel) (by decide +kernel)
set_option maxRecDepth 20000 in
theorem gX11_mark_X2_hasPoint : GoodIn wsX11_mark (wsV RX11 116 RX2 yX2_hasPoint wsX2_hasPoint) := goodIn_app (goodIn_of _ (by decide +kernel)) ggX11_mark_X2_hasPoint
theorem dX11_mark_0 : decode cX11_mark 0 = .ok (.aload_n 0, 1) := by decide +kernel
theorem dX11_mark_1 : decode cX11_mark 1 = .ok (.getfield 12, 3) := by decide +kernel
theorem dX11_mark_22 : decode cX11_mark 22 = .ok (.bipush (-2), 2) := by decide +kernel
theorem dX11_mark_24 : decode cX11_mark 24 = .ok (.ireturn, 1) := by decide +kernel
theorem dX11_mark_4 : decode cX11_mark 4 = .ok (.iload_n 1, 1) := by decide +kernel
theorem dX11_mark_5 : decode cX11_mark 5 = .ok (.invokevirtual 116, 3) := by decide +kernel
theorem dX11_mark_8 : decode cX11_mark 8 = .ok (.ifCond .eq 14, 3) := by decide +kernel
set_option maxRecDepth 20000 in
theorem ggX3_loosePoints_X2_all : GoodIn wsX3_loosePoints wsX2_all := goodIn_r _ [6, 7, 55, 56, 57] (by decide +kernel) (by decide +kernel)
set_option maxRecDepth 20000 in
theorem gX3_loosePoints_X2_all : GoodIn wsX3_loosePoints (wsV RX3 77 RX2 yX2_all wsX2_all) := goodIn_app (goodIn_of _ (by decide +kernel)) ggX3_loosePoints_X2_all
set_option maxRecDepth 20000 in
theorem ggX3_loosePoints_X3_best : GoodIn wsX3_loosePoints wsX3_best := goodIn_r _ [12, 13, 14, 15, 11, 16, 17, 1, 18, 19, 20, 21, 22, 23, 24, 25, 26, 27, 28, 29, 30, 31, 32, 33, 34, 35, 36, 37, 38, 39, 40, 41, 42, 43, 44, 45, 46, 47, 48, 49, 50, 51, 52, 53, 54, 55, 56, 57, 58, 59] (by decide +kernel) (by decide +kernel)
set_option maxRecDepth 20000 in
theorem gX3_loosePoints_X3_best : GoodIn wsX3_loosePoints (wsV RX3 52 RX3 yX3_best wsX3_best) := goodIn_app (goodIn_of _ (by decide +kernel)) ggX3_loosePoints_X3_best
theorem dX3_loosePoints_0 : decode cX3_loosePoints 0 = .ok (.aload_n 0, 1) := by decide +kernel
theorem dX3_loosePoints_1 : decode cX3_loosePoints 1 = .ok (.aload_n 0, 1) := by decide +kernel
theorem dX3_loosePoints_11 : decode cX3_loosePoints 11 = .ok (.istore_n 1, 1) := by decide +kernel
theorem dX3_loosePoints_12 : decode cX3_loosePoints 12 = .ok (.iconst 0, 1) := by decide +kernel
theorem dX3_loosePoints_13 : decode cX3_loosePoints 13 = .ok (.istore_n 2, 1) := by decide +kernel
theorem dX3_loosePoints_14 : decode cX3_loosePoints 14 = .ok (.iconst 0, 1) := by decide +kernel
theorem dX3_loosePoints_15 : decode cX3_loosePoints 15 = .ok (.istore_n 3, 1) := by decide +kernel
theorem dX3_loosePoints_16 : decode cX3_loosePoints 16 = .ok (.iload_n 3, 1) := by decide +kernel
theorem dX3_loosePoints_17 : decode cX3_loosePoints 17 = .ok (.aload_n 0, 1) := by decide +kernel
theorem dX3_loosePoints_18 : decode cX3_loosePoints 18 = .ok (.getfield 23, 3) := by decide +kernel
theorem dX3_loosePoints_2 : decode cX3_loosePoints 2 = .ok (.getfield 23, 3) := by decide +kernel
theorem dX3_loosePoints_21 : decode cX3_loosePoints 21 = .ok (.getfield 81, 3) := by decide +kernel
theorem dX3_loosePoints_24 : decode cX3_loosePoints 24 = .ok (.if_icmp .ge 36, 3) := by decide +kernel
theorem dX3_loosePoints_5 : decode cX3_loosePoints 5 = .ok (.invokevirtual 77, 3) := by decide +kernel
theorem dX3_loosePoints_60 : decode cX3_loosePoints 60 = .ok (.iload_n 2, 1) := by decide +kernel
theorem dX3_loosePoints_61 : decode cX3_loosePoints 61 = .ok (.ireturn, 1) := by decide +kernel
theorem dX3_loosePoints_8 : decode cX3_loosePoints 8 = .ok (.invokevirtual 52, 3) := by decide +kernel
theorem dX2_nearAny_0 : decode cX2_nearAny 0 = .ok (.iconst 0, 1) := by decide +kernel
theorem dX2_nearAny_1 : decode cX2_nearAny 1 = .ok (.istore_n 2, 1) := by decide +kernel
theorem dX2_nearAny_2 : decode cX2_nearAny 2 = .ok (.iconst 0, 1) := by decide +kernel
theorem dX2_nearAny_3 : decode cX2_nearAny 3 = .ok (.istore_n 3, 1) := by decide +kernel
theorem dX2_nearAny_35 : decode cX2_nearAny 35 = .ok (.iload_n 2, 1) := by decide +kernel
theorem dX2_nearAny_36 : decode cX2_nearAny 36 = .ok (.ireturn, 1) := by decide +kernel
theorem dX2_nearAny_4 : decode cX2_nearAny 4 = .ok (.iload_n 3, 1) := by decide +kernel
theorem dX2_nearAny_5 : decode cX2_nearAny 5 = .ok (.aload_n 0, 1) := by decide +kernel
theorem dX2_nearAny_6 : decode cX2_nearAny 6 = .ok (.getfield 15, 3) := by decide +kernel
theorem dX2_nearAny_9 : decode cX2_nearAny 9 = .ok (.if_icmp .ge 26, 3) := by decide +kernel
set_option maxRecDepth 20000 in
theorem ggX4_allOf_X2_all : GoodIn wsX4_allOf wsX2_all := goodIn_r _ [13, 14, 69, 70, 71] (by decide +kernel) (by decide +kernel)
set_option maxRecDepth 20000 in
theorem gX4_allOf_X2_all : GoodIn wsX4_allOf (wsV RX4 31 RX2 yX2_all wsX2_all) := goodIn_app (goodIn_of _ (by decide +kernel)) ggX4_allOf_X2_all
set_option maxRecDepth 20000 in
theorem ggX4_allOf_X2_nearAny : GoodIn wsX4_allOf wsX2_nearAny := goodIn_r _ [60, 14, 61, 69, 70, 71] (by decide +kernel) (by decide +kernel)
set_option maxRecDepth 20000 in
theorem gX4_allOf_X2_nearAny : GoodIn wsX4_allOf (wsV RX4 25 RX2 yX2_nearAny wsX2_nearAny) := goodIn_app (goodIn_of _ (by decide +kernel)) ggX4_allOf_X2_nearAny
set_option maxRecDepth 20000 in
theorem ggX4_allOf_X3_loosePoints : GoodIn wsX4_allOf wsX3_loosePoints := goodIn_r _ [7, 8, 9, 10, 11, 12, 13, 14, 15, 16, 17, 6, 18, 19, 20, 21, 22, 23, 24, 25, 26, 27, 28, 29, 30, 31, 32, 33, 34, 35, 36, 37, 38, 39, 40, 41, 42, 43, 44, 45, 46, 47, 48, 49, 50, 51, 52, 53, 54, 55, 56, 65, 66, 67, 68, 69, 70, 71, 72, 73] (by decide +kernel) (by decide +kernel)
set_option maxRecDepth 20000 in
theorem gX4_allOf_X3_loosePoints : GoodIn wsX4_allOf (wsV RX4 19 RX3 yX3_loosePoints wsX3_loosePoints) := goodIn_app (goodIn_of _ (by decide +kernel)) ggX4_allOf_X3_loosePoints
theorem dX4_allOf_0 : decode cX4_allOf 0 = .ok (.aload_n 0, 1) := by decide +kernel
theorem dX4_allOf_1 : decode cX4_allOf 1 = .ok (.getfield 15, 3) := by decide +kernel
theorem dX4_allOf_12 : decode cX4_allOf 12 = .ok (.iload_n 2, 1) := by decide +kernel
theorem dX4_allOf_13 : decode cX4_allOf 13 = .ok (.invokevirtual 25, 3) := by decide +kernel
theorem dX4_allOf_16 : decode cX4_allOf 16 = .ok (.iload_n 2, 1) := by decide +kernel
theorem dX4_allOf_17 : decode cX4_allOf 17 = .ok (.iconst (-1), 1) := by decide +kernel
theorem dX4_allOf_18 : decode cX4_allOf 18 = .ok (.ixor, 1) := by decide +kernel
theorem dX4_allOf_19 : decode cX4_allOf 19 = .ok (.iand, 1) := by decide +kernel
theorem dX4_allOf_20 : decode cX4_allOf 20 = .ok (.istore_n 3, 1) := by decide +kernel
theorem dX4_allOf_21 : decode cX4_allOf 21 = .ok (.iload_n 1, 1) := by decide +kernel
theorem dX4_allOf_22 : decode cX4_allOf 22 = .ok (.ifCond .ne 5, 3) := by decide +kernel
theorem dX4_allOf_25 : decode cX4_allOf 25 = .ok (.iload_n 2, 1) := by decide +kernel
theorem dX4_allOf_26 : decode cX4_allOf 26 = .ok (.ireturn, 1) := by decide +kernel
theorem dX4_allOf_27 : decode cX4_allOf 27 = .ok (.iload_n 1, 1) := by decide +kernel
theorem dX4_allOf_28 : decode cX4_allOf 28 = .ok (.iconst 1, 1) := by decide +kernel
theorem dX4_allOf_29 : decode cX4_allOf 29 = .ok (.if_icmp .ne 7, 3) := by decide +kernel
theorem dX4_allOf_32 : decode cX4_allOf 32 = .ok (.iload_n 3, 1) := by decide +kernel
theorem dX4_allOf_33 : decode cX4_allOf 33 = .ok (.goto 16, 3) := by decide +kernel
theorem dX4_allOf_36 : decode cX4_allOf 36 = .ok (.aload_n 0, 1) := by decide +kernel
theorem dX4_allOf_37 : decode cX4_allOf 37 = .ok (.getfield 9, 3) := by decide +kernel
theorem dX4_allOf_4 : decode cX4_allOf 4 = .ok (.invokevirtual 19, 3) := by decide +kernel
theorem dX4_allOf_40 : decode cX4_allOf 40 = .ok (.invokevirtual 31, 3) := by decide +kernel
theorem dX4_allOf_43 : decode cX4_allOf 43 = .ok (.iload_n 2, 1) := by decide +kernel
theorem dX4_allOf_44 : decode cX4_allOf 44 = .ok (.iload_n 3, 1) := by decide +kernel
theorem dX4_allOf_45 : decode cX4_allOf 45 = .ok (.ior, 1) := by decide +kernel
theorem dX4_allOf_46 : decode cX4_allOf 46 = .ok (.iconst (-1), 1) := by decide +kernel
theorem dX4_allOf_47 : decode cX4_allOf 47 = .ok (.ixor, 1) := by decide +kernel
theorem dX4_allOf_48 : decode cX4_allOf 48 = .ok (.iand, 1) := by decide +kernel
theorem dX4_allOf_49 : decode cX4_allOf 49 = .ok (.ireturn, 1) := by decide +kernel
theorem dX4_allOf_7 : decode cX4_allOf 7 = .ok (.istore_n 2, 1) := by decide +kernel
theorem dX4_allOf_8 : decode cX4_allOf 8 = .ok (.aload_n 0, 1) := by decide +kernel
theorem dX4_allOf_9 : decode cX4_allOf 9 = .ok (.getfield 9, 3) := by decide +kernel
set_option maxRecDepth 20000 in
theorem ggX11_marked_X4_allOf : GoodIn wsX11_marked wsX4_allOf := goodIn_r _ [6, 7, 8, 9, 10, 11, 12, 13, 14, 15, 16, 17, 18, 19, 20, 21, 22, 23, 24, 25, 26, 27, 28, 29, 30, 31, 32, 33, 34, 35, 36, 37, 38, 39, 40, 41, 42, 43, 44, 45, 46, 47, 48, 49, 50, 51, 52, 53, 54, 55, 56, 57, 58, 59, 60, 61, 62, 63, 64, 65, 66, 67, 68, 85, 86, 87, 88, 89, 90, 91, 92, 93, 94, 95] (by decide +kernel) (by decide +kernel)
set_option maxRecDepth 20000 in
theorem gX11_marked_X4_allOf : GoodIn wsX11_marked (wsV RX11 163 RX4 yX4_allOf wsX4_allOf) := goodIn_app (goodIn_of _ (by decide +kernel)) ggX11_marked_X4_allOf
theorem dX11_marked_0 : decode cX11_marked 0 = .ok (.iload_n 1, 1) := by decide +kernel
theorem dX11_marked_1 : decode cX11_marked 1 = .ok (.ifCond .lt 8, 3) := by decide +kernel
theorem dX11_marked_11 : decode cX11_marked 11 = .ok (.goto 11, 3) := by decide +kernel
theorem dX11_marked_14 : decode cX11_marked 14 = .ok (.aload_n 0, 1) := by decide +kernel
theorem dX11_marked_15 : decode cX11_marked 15 = .ok (.getfield 30, 3) := by decide +kernel
theorem dX11_marked_18 : decode cX11_marked 18 = .ok (.iload_n 1, 1) := by decide +kernel
theorem dX11_marked_19 : decode cX11_marked 19 = .ok (.invokevirtual 163, 3) := by decide +kernel
theorem dX11_marked_22 : decode cX11_marked 22 = .ok (.ireturn, 1) := by decide +kernel
theorem dX11_marked_4 : decode cX11_marked 4 = .ok (.iload_n 1, 1) := by decide +kernel
theorem dX11_marked_5 : decode cX11_marked 5 = .ok (.iconst 2, 1) := by decide +kernel
theorem dX11_marked_6 : decode cX11_marked 6 = .ok (.if_icmp .le 8, 3) := by decide +kernel
theorem dX11_marked_9 : decode cX11_marked 9 = .ok (.bipush (-2), 2) := by decide +kernel
theorem dX11_markOfPieces_0 : decode cX11_markOfPieces 0 = .ok (.iload_n 0, 1) := by decide +kernel
theorem dX11_markOfPieces_1 : decode cX11_markOfPieces 1 = .ok (.ifCond .ne 7, 3) := by decide +kernel
theorem dX11_markOfPieces_4 : decode cX11_markOfPieces 4 = .ok (.iconst 0, 1) := by decide +kernel
theorem dX11_markOfPieces_5 : decode cX11_markOfPieces 5 = .ok (.goto 4, 3) := by decide +kernel
theorem dX11_markOfPieces_9 : decode cX11_markOfPieces 9 = .ok (.ireturn, 1) := by decide +kernel
theorem dX11_markOfPieces_8 : decode cX11_markOfPieces 8 = .ok (.iconst 2, 1) := by decide +kernel
set_option maxRecDepth 20000 in
theorem ggX11_pieces_X11_markOfPieces : GoodIn wsX11_pieces wsX11_markOfPieces := goodIn_r _ [6] (by decide +kernel) (by decide +kernel)
set_option maxRecDepth 20000 in
theorem gX11_pieces_X11_markOfPieces : GoodIn wsX11_pieces (va_wsS RX11 166 yX11_markOfPieces wsX11_markOfPieces) := goodIn_app (goodIn_of _ (by decide +kernel)) ggX11_pieces_X11_markOfPieces
set_option maxRecDepth 20000 in
theorem ggX11_pieces_X2_pieceCount : GoodIn wsX11_pieces wsX2_pieceCount := goodIn_r _ [77, 72, 78, 21, 22, 23, 24, 25, 79, 80, 81, 82, 83, 50, 84, 85, 86, 87, 52, 110, 111, 112] (by decide +kernel) (by decide +kernel)
set_option maxRecDepth 20000 in
theorem gX11_pieces_X2_pieceCount : GoodIn wsX11_pieces (wsV RX11 137 RX2 yX2_pieceCount wsX2_pieceCount) := goodIn_app (goodIn_of _ (by decide +kernel)) ggX11_pieces_X2_pieceCount
set_option maxRecDepth 20000 in
theorem ggX11_pieces_X4_allOf : GoodIn wsX11_pieces wsX4_allOf := goodIn_r _ [11, 12, 13, 14, 15, 16, 17, 18, 19, 20, 21, 22, 23, 24, 25, 26, 27, 28, 29, 30, 31, 32, 33, 34, 35, 36, 37, 38, 39, 40, 41, 42, 43, 44, 45, 46, 47, 48, 49, 50, 51, 52, 53, 54, 55, 56, 57, 58, 59, 60, 61, 62, 63, 64, 65, 66, 67, 68, 69, 70, 71, 72, 73, 104, 105, 106, 107, 108, 109, 110, 111, 112, 113, 114] (by decide +kernel) (by decide +kernel)
set_option maxRecDepth 20000 in
theorem gX11_pieces_X4_allOf : GoodIn wsX11_pieces (wsV RX11 163 RX4 yX4_allOf wsX4_allOf) := goodIn_app (goodIn_of _ (by decide +kernel)) ggX11_pieces_X4_allOf
theorem dX11_pieces_0 : decode cX11_pieces 0 = .ok (.iload_n 1, 1) := by decide +kernel
theorem dX11_pieces_1 : decode cX11_pieces 1 = .ok (.ifCond .eq 11, 3) := by decide +kernel
theorem dX11_pieces_11 : decode cX11_pieces 11 = .ok (.ireturn, 1) := by decide +kernel
theorem dX11_pieces_12 : decode cX11_pieces 12 = .ok (.aload_n 0, 1) := by decide +kernel
theorem dX11_pieces_13 : decode cX11_pieces 13 = .ok (.getfield 12, 3) := by decide +kernel
theorem dX11_pieces_16 : decode cX11_pieces 16 = .ok (.aload_n 0, 1) := by decide +kernel
theorem dX11_pieces_17 : decode cX11_pieces 17 = .ok (.getfield 30, 3) := by decide +kernel
theorem dX11_pieces_20 : decode cX11_pieces 20 = .ok (.iload_n 1, 1) := by decide +kernel
theorem dX11_pieces_21 : decode cX11_pieces 21 = .ok (.invokestatic 166, 3) := by decide +kernel
theorem dX11_pieces_24 : decode cX11_pieces 24 = .ok (.invokevirtual 163, 3) := by decide +kernel
theorem dX11_pieces_27 : decode cX11_pieces 27 = .ok (.invokevirtual 137, 3) := by decide +kernel
theorem dX11_pieces_30 : decode cX11_pieces 30 = .ok (.ireturn, 1) := by decide +kernel
theorem dX11_pieces_4 : decode cX11_pieces 4 = .ok (.iload_n 1, 1) := by decide +kernel
theorem dX11_pieces_5 : decode cX11_pieces 5 = .ok (.iconst 1, 1) := by decide +kernel
theorem dX11_pieces_6 : decode cX11_pieces 6 = .ok (.if_icmp .eq 6, 3) := by decide +kernel
theorem dX11_pieces_9 : decode cX11_pieces 9 = .ok (.bipush (-2), 2) := by decide +kernel
set_option maxRecDepth 20000 in
theorem ggX2_pieceAt_X2_all : GoodIn wsX2_pieceAt wsX2_all := goodIn_r _ [6, 7, 19, 20, 21] (by decide +kernel) (by decide +kernel)
set_option maxRecDepth 20000 in
theorem gX2_pieceAt_X2_all : GoodIn wsX2_pieceAt (wsV RX2 19 RX2 yX2_all wsX2_all) := goodIn_app (goodIn_of _ (by decide +kernel)) ggX2_pieceAt_X2_all
theorem dX2_pieceAt_0 : decode cX2_pieceAt 0 = .ok (.iload_n 1, 1) := by decide +kernel
theorem dX2_pieceAt_1 : decode cX2_pieceAt 1 = .ok (.aload_n 0, 1) := by decide +kernel
theorem dX2_pieceAt_10 : decode cX2_pieceAt 10 = .ok (.iload 4, 2) := by decide +kernel
theorem dX2_pieceAt_12 : decode cX2_pieceAt 12 = .ok (.bipush 12, 2) := by decide +kernel
theorem dX2_pieceAt_14 : decode cX2_pieceAt 14 = .ok (.if_icmp .ge 39, 3) := by decide +kernel
theorem dX2_pieceAt_17 : decode cX2_pieceAt 17 = .ok (.iload_n 3, 1) := by decide +kernel
theorem dX2_pieceAt_18 : decode cX2_pieceAt 18 = .ok (.ifCond .eq 35, 3) := by decide +kernel
theorem dX2_pieceAt_2 : decode cX2_pieceAt 2 = .ok (.invokevirtual 19, 3) := by decide +kernel
theorem dX2_pieceAt_5 : decode cX2_pieceAt 5 = .ok (.iand, 1) := by decide +kernel
theorem dX2_pieceAt_53 : decode cX2_pieceAt 53 = .ok (.iconst 0, 1) := by decide +kernel
theorem dX2_pieceAt_54 : decode cX2_pieceAt 54 = .ok (.ireturn, 1) := by decide +kernel
theorem dX2_pieceAt_6 : decode cX2_pieceAt 6 = .ok (.istore_n 3, 1) := by decide +kernel
theorem dX2_pieceAt_7 : decode cX2_pieceAt 7 = .ok (.iconst 0, 1) := by decide +kernel
theorem dX2_pieceAt_8 : decode cX2_pieceAt 8 = .ok (.istore 4, 2) := by decide +kernel
set_option maxRecDepth 20000 in
theorem ggX11_piece_X11_markOfPieces : GoodIn wsX11_piece wsX11_markOfPieces := goodIn_r _ [6] (by decide +kernel) (by decide +kernel)
set_option maxRecDepth 20000 in
theorem gX11_piece_X11_markOfPieces : GoodIn wsX11_piece (va_wsS RX11 166 yX11_markOfPieces wsX11_markOfPieces) := goodIn_app (goodIn_of _ (by decide +kernel)) ggX11_piece_X11_markOfPieces
set_option maxRecDepth 20000 in
theorem ggX11_piece_X2_pieceAt : GoodIn wsX11_piece wsX2_pieceAt := goodIn_r _ [77, 72, 78, 21, 22, 23, 24, 25, 79, 80, 81, 82, 83, 50, 84, 85, 86, 87, 52, 111, 112, 113] (by decide +kernel) (by decide +kernel)
set_option maxRecDepth 20000 in
theorem gX11_piece_X2_pieceAt : GoodIn wsX11_piece (wsV RX11 169 RX2 yX2_pieceAt wsX2_pieceAt) := goodIn_app (goodIn_of _ (by decide +kernel)) ggX11_piece_X2_pieceAt
set_option maxRecDepth 20000 in
theorem ggX11_piece_X4_allOf : GoodIn wsX11_piece wsX4_allOf := goodIn_r _ [11, 12, 13, 14, 15, 16, 17, 18, 19, 20, 21, 22, 23, 24, 25, 26, 27, 28, 29, 30, 31, 32, 33, 34, 35, 36, 37, 38, 39, 40, 41, 42, 43, 44, 45, 46, 47, 48, 49, 50, 51, 52, 53, 54, 55, 56, 57, 58, 59, 60, 61, 62, 63, 64, 65, 66, 67, 68, 69, 70, 71, 72, 73, 105, 106, 107, 108, 109, 110, 111, 112, 113, 114, 115] (by decide +kernel) (by decide +kernel)
set_option maxRecDepth 20000 in
theorem gX11_piece_X4_allOf : GoodIn wsX11_piece (wsV RX11 163 RX4 yX4_allOf wsX4_allOf) := goodIn_app (goodIn_of _ (by decide +kernel)) ggX11_piece_X4_allOf
theorem dX11_piece_0 : decode cX11_piece 0 = .ok (.iload_n 1, 1) := by decide +kernel
theorem dX11_piece_1 : decode cX11_piece 1 = .ok (.ifCond .eq 8, 3) := by decide +kernel
theorem dX11_piece_10 : decode cX11_piece 10 = .ok (.ifCond .eq 11, 3) := by decide +kernel
theorem dX11_piece_13 : decode cX11_piece 13 = .ok (.iload_n 3, 1) := by decide +kernel
theorem dX11_piece_14 : decode cX11_piece 14 = .ok (.iconst 1, 1) := by decide +kernel
theorem dX11_piece_15 : decode cX11_piece 15 = .ok (.if_icmp .eq 6, 3) := by decide +kernel
theorem dX11_piece_18 : decode cX11_piece 18 = .ok (.bipush (-2), 2) := by decide +kernel
theorem dX11_piece_20 : decode cX11_piece 20 = .ok (.ireturn, 1) := by decide +kernel
theorem dX11_piece_21 : decode cX11_piece 21 = .ok (.aload_n 0, 1) := by decide +kernel
theorem dX11_piece_22 : decode cX11_piece 22 = .ok (.getfield 12, 3) := by decide +kernel
theorem dX11_piece_25 : decode cX11_piece 25 = .ok (.aload_n 0, 1) := by decide +kernel
theorem dX11_piece_26 : decode cX11_piece 26 = .ok (.getfield 30, 3) := by decide +kernel
theorem dX11_piece_29 : decode cX11_piece 29 = .ok (.iload_n 1, 1) := by decide +kernel
theorem dX11_piece_30 : decode cX11_piece 30 = .ok (.invokestatic 166, 3) := by decide +kernel
theorem dX11_piece_33 : decode cX11_piece 33 = .ok (.invokevirtual 163, 3) := by decide +kernel
theorem dX11_piece_36 : decode cX11_piece 36 = .ok (.iload_n 2, 1) := by decide +kernel
theorem dX11_piece_37 : decode cX11_piece 37 = .ok (.invokevirtual 169, 3) := by decide +kernel
theorem dX11_piece_4 : decode cX11_piece 4 = .ok (.iload_n 1, 1) := by decide +kernel
theorem dX11_piece_40 : decode cX11_piece 40 = .ok (.istore 4, 2) := by decide +kernel
theorem dX11_piece_42 : decode cX11_piece 42 = .ok (.iload 4, 2) := by decide +kernel
theorem dX11_piece_44 : decode cX11_piece 44 = .ok (.ifCond .ne 5, 3) := by decide +kernel
theorem dX11_piece_47 : decode cX11_piece 47 = .ok (.iconst (-1), 1) := by decide +kernel
theorem dX11_piece_48 : decode cX11_piece 48 = .ok (.ireturn, 1) := by decide +kernel
theorem dX11_piece_5 : decode cX11_piece 5 = .ok (.iconst 1, 1) := by decide +kernel
theorem dX11_piece_6 : decode cX11_piece 6 = .ok (.if_icmp .ne 12, 3) := by decide +kernel
theorem dX11_piece_9 : decode cX11_piece 9 = .ok (.iload_n 3, 1) := by decide +kernel
set_option maxRecDepth 20000 in
theorem ggX4_surplusOf_J6_bitCount_0f7a4 : GoodIn wsX4_surplusOf wsJ6_bitCount_0f7a4 := goodIn_r _ [54, 55, 56, 57] (by decide +kernel) (by decide +kernel)
set_option maxRecDepth 20000 in
theorem gX4_surplusOf_J6_bitCount_0f7a4 : GoodIn wsX4_surplusOf (va_wsS RX4 37 yJ6_bitCount_0f7a4 wsJ6_bitCount_0f7a4) := goodIn_app (goodIn_of _ (by decide +kernel)) ggX4_surplusOf_J6_bitCount_0f7a4
set_option maxRecDepth 20000 in
theorem ggX4_surplusOf_X2_nearAny : GoodIn wsX4_surplusOf wsX2_nearAny := goodIn_r _ [7, 8, 9, 74, 75, 76] (by decide +kernel) (by decide +kernel)
set_option maxRecDepth 20000 in
theorem gX4_surplusOf_X2_nearAny : GoodIn wsX4_surplusOf (wsV RX4 25 RX2 yX2_nearAny wsX2_nearAny) := goodIn_app (goodIn_of _ (by decide +kernel)) ggX4_surplusOf_X2_nearAny
set_option maxRecDepth 20000 in
theorem ggX4_surplusOf_X3_loosePoints : GoodIn wsX4_surplusOf wsX3_loosePoints := goodIn_r _ [14, 15, 16, 17, 18, 6, 19, 8, 20, 21, 22, 13, 23, 24, 25, 26, 27, 28, 29, 30, 31, 32, 33, 34, 35, 36, 37, 38, 39, 40, 41, 42, 43, 44, 45, 46, 47, 48, 49, 50, 51, 52, 53, 54, 55, 56, 57, 58, 59, 60, 61, 77, 78, 79, 80, 74, 75, 76, 81, 82] (by decide +kernel) (by decide +kernel)
set_option maxRecDepth 20000 in
theorem gX4_surplusOf_X3_loosePoints : GoodIn wsX4_surplusOf (wsV RX4 19 RX3 yX3_loosePoints wsX3_loosePoints) := goodIn_app (goodIn_of _ (by decide +kernel)) ggX4_surplusOf_X3_loosePoints
theorem dX4_surplusOf_0 : decode cX4_surplusOf 0 = .ok (.aload_n 0, 1) := by decide +kernel
theorem dX4_surplusOf_1 : decode cX4_surplusOf 1 = .ok (.getfield 9, 3) := by decide +kernel
theorem dX4_surplusOf_10 : decode cX4_surplusOf 10 = .ok (.getfield 15, 3) := by decide +kernel
theorem dX4_surplusOf_13 : decode cX4_surplusOf 13 = .ok (.invokevirtual 19, 3) := by decide +kernel
theorem dX4_surplusOf_16 : decode cX4_surplusOf 16 = .ok (.istore_n 3, 1) := by decide +kernel
theorem dX4_surplusOf_17 : decode cX4_surplusOf 17 = .ok (.iload_n 1, 1) := by decide +kernel
theorem dX4_surplusOf_18 : decode cX4_surplusOf 18 = .ok (.invokestatic 37, 3) := by decide +kernel
theorem dX4_surplusOf_21 : decode cX4_surplusOf 21 = .ok (.ineg, 1) := by decide +kernel
theorem dX4_surplusOf_22 : decode cX4_surplusOf 22 = .ok (.istore 4, 2) := by decide +kernel
theorem dX4_surplusOf_24 : decode cX4_surplusOf 24 = .ok (.iconst 0, 1) := by decide +kernel
theorem dX4_surplusOf_25 : decode cX4_surplusOf 25 = .ok (.istore 5, 2) := by decide +kernel
theorem dX4_surplusOf_27 : decode cX4_surplusOf 27 = .ok (.iload 5, 2) := by decide +kernel
theorem dX4_surplusOf_29 : decode cX4_surplusOf 29 = .ok (.bipush 12, 2) := by decide +kernel
theorem dX4_surplusOf_31 : decode cX4_surplusOf 31 = .ok (.if_icmp .ge 43, 3) := by decide +kernel
theorem dX4_surplusOf_34 : decode cX4_surplusOf 34 = .ok (.iload_n 3, 1) := by decide +kernel
theorem dX4_surplusOf_35 : decode cX4_surplusOf 35 = .ok (.ifCond .eq 39, 3) := by decide +kernel
theorem dX4_surplusOf_4 : decode cX4_surplusOf 4 = .ok (.iload_n 1, 1) := by decide +kernel
theorem dX4_surplusOf_5 : decode cX4_surplusOf 5 = .ok (.invokevirtual 25, 3) := by decide +kernel
theorem dX4_surplusOf_74 : decode cX4_surplusOf 74 = .ok (.iload 4, 2) := by decide +kernel
theorem dX4_surplusOf_76 : decode cX4_surplusOf 76 = .ok (.ireturn, 1) := by decide +kernel
theorem dX4_surplusOf_8 : decode cX4_surplusOf 8 = .ok (.istore_n 2, 1) := by decide +kernel
theorem dX4_surplusOf_9 : decode cX4_surplusOf 9 = .ok (.aload_n 0, 1) := by decide +kernel
set_option maxRecDepth 20000 in
theorem ggX11_surplus_X4_allOf : GoodIn wsX11_surplus wsX4_allOf := goodIn_r _ [6, 7, 8, 9, 10, 11, 12, 13, 14, 15, 16, 17, 18, 19, 20, 21, 22, 23, 24, 25, 26, 27, 28, 29, 30, 31, 32, 33, 34, 35, 36, 37, 38, 39, 40, 41, 42, 43, 44, 45, 46, 47, 48, 49, 50, 51, 52, 53, 54, 55, 56, 57, 58, 59, 60, 61, 62, 63, 64, 65, 66, 67, 68, 99, 100, 101, 102, 103, 104, 105, 106, 107, 108, 109] (by decide +kernel) (by decide +kernel)
set_option maxRecDepth 20000 in
theorem gX11_surplus_X4_allOf : GoodIn wsX11_surplus (wsV RX11 163 RX4 yX4_allOf wsX4_allOf) := goodIn_app (goodIn_of _ (by decide +kernel)) ggX11_surplus_X4_allOf
set_option maxRecDepth 20000 in
theorem ggX11_surplus_X4_surplusOf : GoodIn wsX11_surplus wsX4_surplusOf := goodIn_r _ [72, 8, 7, 63, 64, 65, 18, 66, 20, 67, 9, 10, 11, 12, 13, 14, 15, 16, 17, 19, 21, 22, 23, 24, 25, 26, 27, 28, 29, 30, 31, 32, 33, 34, 35, 36, 37, 38, 39, 40, 41, 42, 43, 44, 45, 46, 47, 48, 49, 50, 51, 52, 53, 54, 55, 56, 57, 58, 59, 60, 61, 62, 73, 74, 75, 76, 77, 78, 79, 80, 81, 82, 99, 100, 105, 106, 107, 101, 102, 103, 104, 108, 109] (by decide +kernel) (by decide +kernel)
set_option maxRecDepth 20000 in
theorem gX11_surplus_X4_surplusOf : GoodIn wsX11_surplus (wsV RX11 175 RX4 yX4_surplusOf wsX4_surplusOf) := goodIn_app (goodIn_of _ (by decide +kernel)) ggX11_surplus_X4_surplusOf
theorem dX11_surplus_0 : decode cX11_surplus 0 = .ok (.iload_n 1, 1) := by decide +kernel
theorem dX11_surplus_1 : decode cX11_surplus 1 = .ok (.aload_n 0, 1) := by decide +kernel
theorem dX11_surplus_10 : decode cX11_surplus 10 = .ok (.ixor, 1) := by decide +kernel
theorem dX11_surplus_11 : decode cX11_surplus 11 = .ok (.iand, 1) := by decide +kernel
theorem dX11_surplus_12 : decode cX11_surplus 12 = .ok (.ifCond .eq 8, 3) := by decide +kernel
theorem dX11_surplus_15 : decode cX11_surplus 15 = .ok (.bipush (-2), 2) := by decide +kernel
theorem dX11_surplus_17 : decode cX11_surplus 17 = .ok (.goto 11, 3) := by decide +kernel
theorem dX11_surplus_2 : decode cX11_surplus 2 = .ok (.getfield 30, 3) := by decide +kernel
theorem dX11_surplus_20 : decode cX11_surplus 20 = .ok (.aload_n 0, 1) := by decide +kernel
theorem dX11_surplus_21 : decode cX11_surplus 21 = .ok (.getfield 30, 3) := by decide +kernel
theorem dX11_surplus_24 : decode cX11_surplus 24 = .ok (.iload_n 1, 1) := by decide +kernel
theorem dX11_surplus_25 : decode cX11_surplus 25 = .ok (.invokevirtual 175, 3) := by decide +kernel
theorem dX11_surplus_28 : decode cX11_surplus 28 = .ok (.ireturn, 1) := by decide +kernel
theorem dX11_surplus_5 : decode cX11_surplus 5 = .ok (.iconst 1, 1) := by decide +kernel
theorem dX11_surplus_6 : decode cX11_surplus 6 = .ok (.invokevirtual 163, 3) := by decide +kernel
theorem dX11_surplus_9 : decode cX11_surplus 9 = .ok (.iconst (-1), 1) := by decide +kernel
set_option maxRecDepth 20000 in
theorem ggX2_oddPieceCount_X2_all : GoodIn wsX2_oddPieceCount wsX2_all := goodIn_r _ [6, 7, 25, 26, 27] (by decide +kernel) (by decide +kernel)
set_option maxRecDepth 20000 in
theorem gX2_oddPieceCount_X2_all : GoodIn wsX2_oddPieceCount (wsV RX2 19 RX2 yX2_all wsX2_all) := goodIn_app (goodIn_of _ (by decide +kernel)) ggX2_oddPieceCount_X2_all
theorem dX2_oddPieceCount_0 : decode cX2_oddPieceCount 0 = .ok (.iload_n 1, 1) := by decide +kernel
theorem dX2_oddPieceCount_1 : decode cX2_oddPieceCount 1 = .ok (.aload_n 0, 1) := by decide +kernel
theorem dX2_oddPieceCount_10 : decode cX2_oddPieceCount 10 = .ok (.istore 4, 2) := by decide +kernel
theorem dX2_oddPieceCount_12 : decode cX2_oddPieceCount 12 = .ok (.iload 4, 2) := by decide +kernel
theorem dX2_oddPieceCount_14 : decode cX2_oddPieceCount 14 = .ok (.bipush 12, 2) := by decide +kernel
theorem dX2_oddPieceCount_16 : decode cX2_oddPieceCount 16 = .ok (.if_icmp .ge 40, 3) := by decide +kernel
theorem dX2_oddPieceCount_19 : decode cX2_oddPieceCount 19 = .ok (.iload_n 2, 1) := by decide +kernel
theorem dX2_oddPieceCount_2 : decode cX2_oddPieceCount 2 = .ok (.invokevirtual 19, 3) := by decide +kernel
theorem dX2_oddPieceCount_20 : decode cX2_oddPieceCount 20 = .ok (.ifCond .eq 36, 3) := by decide +kernel
theorem dX2_oddPieceCount_5 : decode cX2_oddPieceCount 5 = .ok (.iand, 1) := by decide +kernel
theorem dX2_oddPieceCount_56 : decode cX2_oddPieceCount 56 = .ok (.iload_n 3, 1) := by decide +kernel
theorem dX2_oddPieceCount_57 : decode cX2_oddPieceCount 57 = .ok (.ireturn, 1) := by decide +kernel
theorem dX2_oddPieceCount_6 : decode cX2_oddPieceCount 6 = .ok (.istore_n 2, 1) := by decide +kernel
theorem dX2_oddPieceCount_7 : decode cX2_oddPieceCount 7 = .ok (.iconst 0, 1) := by decide +kernel
theorem dX2_oddPieceCount_8 : decode cX2_oddPieceCount 8 = .ok (.istore_n 3, 1) := by decide +kernel
theorem dX2_oddPieceCount_9 : decode cX2_oddPieceCount 9 = .ok (.iconst 0, 1) := by decide +kernel
set_option maxRecDepth 20000 in
theorem ggX10_oddWithout_X2_all : GoodIn wsX10_oddWithout wsX2_all := goodIn_r _ [6, 7, 39, 40, 41] (by decide +kernel) (by decide +kernel)
set_option maxRecDepth 20000 in
theorem gX10_oddWithout_X2_all : GoodIn wsX10_oddWithout (wsV RX10 27 RX2 yX2_all wsX2_all) := goodIn_app (goodIn_of _ (by decide +kernel)) ggX10_oddWithout_X2_all
set_option maxRecDepth 20000 in
theorem ggX10_oddWithout_X2_oddPieceCount : GoodIn wsX10_oddWithout wsX2_oddPieceCount := goodIn_r _ [11, 12, 13, 3, 4, 5, 6, 7, 14, 15, 16, 17, 18, 19, 20, 21, 22, 23, 24, 25, 26, 27, 28, 29, 30, 39, 40, 41] (by decide +kernel) (by decide +kernel)
set_option maxRecDepth 20000 in
theorem gX10_oddWithout_X2_oddPieceCount : GoodIn wsX10_oddWithout (wsV RX10 33 RX2 yX2_oddPieceCount wsX2_oddPieceCount) := goodIn_app (goodIn_of _ (by decide +kernel)) ggX10_oddWithout_X2_oddPieceCount
theorem dX10_oddWithout_0 : decode cX10_oddWithout 0 = .ok (.aload_n 0, 1) := by decide +kernel
theorem dX10_oddWithout_1 : decode cX10_oddWithout 1 = .ok (.getfield 19, 3) := by decide +kernel
theorem dX10_oddWithout_11 : decode cX10_oddWithout 11 = .ok (.iload_n 1, 1) := by decide +kernel
theorem dX10_oddWithout_12 : decode cX10_oddWithout 12 = .ok (.iconst (-1), 1) := by decide +kernel
theorem dX10_oddWithout_13 : decode cX10_oddWithout 13 = .ok (.ixor, 1) := by decide +kernel
theorem dX10_oddWithout_14 : decode cX10_oddWithout 14 = .ok (.iand, 1) := by decide +kernel
theorem dX10_oddWithout_15 : decode cX10_oddWithout 15 = .ok (.invokevirtual 33, 3) := by decide +kernel
theorem dX10_oddWithout_18 : decode cX10_oddWithout 18 = .ok (.ireturn, 1) := by decide +kernel
theorem dX10_oddWithout_4 : decode cX10_oddWithout 4 = .ok (.aload_n 0, 1) := by decide +kernel
theorem dX10_oddWithout_5 : decode cX10_oddWithout 5 = .ok (.getfield 19, 3) := by decide +kernel
theorem dX10_oddWithout_8 : decode cX10_oddWithout 8 = .ok (.invokevirtual 27, 3) := by decide +kernel
set_option maxRecDepth 20000 in
theorem ggX11_odd_X10_oddWithout : GoodIn wsX11_odd wsX10_oddWithout := goodIn_r _ [17, 18, 19, 9, 10, 6, 11, 12, 20, 21, 22, 23, 24, 8, 25, 26, 27, 28, 29, 30, 31, 32, 33, 34, 35, 36, 37, 38, 39, 40, 41, 61, 62, 63, 64, 65, 66, 67, 68, 58, 59, 60] (by decide +kernel) (by decide +kernel)
set_option maxRecDepth 20000 in
theorem gX11_odd_X10_oddWithout : GoodIn wsX11_odd (wsV RX11 178 RX10 yX10_oddWithout wsX10_oddWithout) := goodIn_app (goodIn_of _ (by decide +kernel)) ggX11_odd_X10_oddWithout
set_option maxRecDepth 20000 in
theorem ggX11_odd_X2_hasAll : GoodIn wsX11_odd wsX2_hasAll := goodIn_r _ [7, 8, 9, 10, 6, 11, 12, 58, 59, 60] (by decide +kernel) (by decide +kernel)
set_option maxRecDepth 20000 in
theorem gX11_odd_X2_hasAll : GoodIn wsX11_odd (wsV RX11 144 RX2 yX2_hasAll wsX2_hasAll) := goodIn_app (goodIn_of _ (by decide +kernel)) ggX11_odd_X2_hasAll
theorem dX11_odd_0 : decode cX11_odd 0 = .ok (.aload_n 0, 1) := by decide +kernel
theorem dX11_odd_1 : decode cX11_odd 1 = .ok (.getfield 12, 3) := by decide +kernel
theorem dX11_odd_11 : decode cX11_odd 11 = .ok (.aload_n 0, 1) := by decide +kernel
theorem dX11_odd_12 : decode cX11_odd 12 = .ok (.getfield 37, 3) := by decide +kernel
theorem dX11_odd_15 : decode cX11_odd 15 = .ok (.iload_n 1, 1) := by decide +kernel
theorem dX11_odd_16 : decode cX11_odd 16 = .ok (.invokevirtual 178, 3) := by decide +kernel
theorem dX11_odd_19 : decode cX11_odd 19 = .ok (.goto 5, 3) := by decide +kernel
theorem dX11_odd_22 : decode cX11_odd 22 = .ok (.bipush (-2), 2) := by decide +kernel
theorem dX11_odd_24 : decode cX11_odd 24 = .ok (.ireturn, 1) := by decide +kernel
theorem dX11_odd_4 : decode cX11_odd 4 = .ok (.iload_n 1, 1) := by decide +kernel
theorem dX11_odd_5 : decode cX11_odd 5 = .ok (.invokevirtual 144, 3) := by decide +kernel
theorem dX11_odd_8 : decode cX11_odd 8 = .ok (.ifCond .eq 14, 3) := by decide +kernel
set_option maxRecDepth 20000 in
theorem ggX10_isBarrier_J6_bitCount_0f7a4 : GoodIn wsX10_isBarrier wsJ6_bitCount_0f7a4 := goodIn_r _ [33, 34, 35, 36] (by decide +kernel) (by decide +kernel)
set_option maxRecDepth 20000 in
theorem gX10_isBarrier_J6_bitCount_0f7a4 : GoodIn wsX10_isBarrier (va_wsS RX10 40 yJ6_bitCount_0f7a4 wsJ6_bitCount_0f7a4) := goodIn_app (goodIn_of _ (by decide +kernel)) ggX10_isBarrier_J6_bitCount_0f7a4
set_option maxRecDepth 20000 in
theorem ggX10_isBarrier_X10_oddWithout : GoodIn wsX10_isBarrier wsX10_oddWithout := goodIn_r _ [7, 2, 8, 9, 10, 11, 12, 13, 14, 15, 16, 17, 18, 19, 20, 21, 22, 23, 24, 25, 26, 27, 28, 29, 30, 31, 32, 33, 34, 35, 36, 79, 80, 81, 82, 83, 84, 85, 86, 87, 88, 89] (by decide +kernel) (by decide +kernel)
set_option maxRecDepth 20000 in
theorem gX10_isBarrier_X10_oddWithout : GoodIn wsX10_isBarrier (wsV RX10 37 RX10 yX10_oddWithout wsX10_oddWithout) := goodIn_app (goodIn_of _ (by decide +kernel)) ggX10_isBarrier_X10_oddWithout
set_option maxRecDepth 20000 in
theorem ggX10_isBarrier_X2_all : GoodIn wsX10_isBarrier wsX2_all := goodIn_r _ [12, 13, 87, 88, 89] (by decide +kernel) (by decide +kernel)
set_option maxRecDepth 20000 in
theorem gX10_isBarrier_X2_all : GoodIn wsX10_isBarrier (wsV RX10 27 RX2 yX2_all wsX2_all) := goodIn_app (goodIn_of _ (by decide +kernel)) ggX10_isBarrier_X2_all
set_option maxRecDepth 20000 in
theorem ggX10_isBarrier_X3_lack : GoodIn wsX10_isBarrier wsX3_lack := goodIn_r _ [42, 43, 32, 25, 33, 34, 35, 36, 44, 45, 46, 41, 47, 48, 49, 50, 51, 52, 53, 54, 55, 56, 57, 58, 59, 60, 61, 62, 63, 64, 65, 66, 67, 68, 69, 30, 70, 71, 72, 73, 74, 75, 76, 77, 78, 90, 91, 92, 93, 87, 88, 89, 94, 95] (by decide +kernel) (by decide +kernel)
set_option maxRecDepth 20000 in
theorem gX10_isBarrier_X3_lack : GoodIn wsX10_isBarrier (wsV RX10 45 RX3 yX3_lack wsX3_lack) := goodIn_app (goodIn_of _ (by decide +kernel)) ggX10_isBarrier_X3_lack
theorem dX10_isBarrier_0 : decode cX10_isBarrier 0 = .ok (.aload_n 0, 1) := by decide +kernel
theorem dX10_isBarrier_1 : decode cX10_isBarrier 1 = .ok (.iload_n 1, 1) := by decide +kernel
theorem dX10_isBarrier_10 : decode cX10_isBarrier 10 = .ok (.aload_n 0, 1) := by decide +kernel
theorem dX10_isBarrier_11 : decode cX10_isBarrier 11 = .ok (.getfield 23, 3) := by decide +kernel
theorem dX10_isBarrier_14 : decode cX10_isBarrier 14 = .ok (.aload_n 0, 1) := by decide +kernel
theorem dX10_isBarrier_15 : decode cX10_isBarrier 15 = .ok (.getfield 19, 3) := by decide +kernel
theorem dX10_isBarrier_18 : decode cX10_isBarrier 18 = .ok (.invokevirtual 27, 3) := by decide +kernel
theorem dX10_isBarrier_2 : decode cX10_isBarrier 2 = .ok (.invokevirtual 37, 3) := by decide +kernel
theorem dX10_isBarrier_21 : decode cX10_isBarrier 21 = .ok (.invokevirtual 45, 3) := by decide +kernel
theorem dX10_isBarrier_24 : decode cX10_isBarrier 24 = .ok (.if_icmp .ne 7, 3) := by decide +kernel
theorem dX10_isBarrier_27 : decode cX10_isBarrier 27 = .ok (.iconst 1, 1) := by decide +kernel
theorem dX10_isBarrier_28 : decode cX10_isBarrier 28 = .ok (.goto 4, 3) := by decide +kernel
theorem dX10_isBarrier_32 : decode cX10_isBarrier 32 = .ok (.ireturn, 1) := by decide +kernel
theorem dX10_isBarrier_5 : decode cX10_isBarrier 5 = .ok (.iload_n 1, 1) := by decide +kernel
theorem dX10_isBarrier_6 : decode cX10_isBarrier 6 = .ok (.invokestatic 40, 3) := by decide +kernel
theorem dX10_isBarrier_9 : decode cX10_isBarrier 9 = .ok (.isub, 1) := by decide +kernel
set_option maxRecDepth 20000 in
theorem ggX11_barrier_X10_isBarrier : GoodIn wsX11_barrier wsX10_isBarrier := goodIn_r _ [17, 18, 19, 20, 21, 22, 16, 23, 24, 9, 10, 6, 11, 12, 25, 26, 27, 28, 29, 8, 30, 31, 32, 33, 34, 35, 36, 37, 38, 39, 40, 41, 42, 43, 44, 45, 46, 47, 48, 49, 50, 51, 52, 53, 54, 55, 56, 57, 58, 59, 60, 61, 62, 63, 64, 65, 66, 67, 68, 69, 70, 71, 72, 73, 74, 75, 76, 77, 78, 79, 80, 81, 82, 83, 84, 85, 86, 87, 88, 108, 109, 110, 111, 112, 113, 114, 115, 105, 106, 107, 116, 117, 118, 119, 120, 121] (by decide +kernel) (by decide +kernel)
set_option maxRecDepth 20000 in
theorem gX11_barrier_X10_isBarrier : GoodIn wsX11_barrier (wsV RX11 181 RX10 yX10_isBarrier wsX10_isBarrier) := goodIn_app (goodIn_of _ (by decide +kernel)) ggX11_barrier_X10_isBarrier
set_option maxRecDepth 20000 in
theorem ggX11_barrier_X2_hasAll : GoodIn wsX11_barrier wsX2_hasAll := goodIn_r _ [7, 8, 9, 10, 6, 11, 12, 105, 106, 107] (by decide +kernel) (by decide +kernel)
set_option maxRecDepth 20000 in
theorem gX11_barrier_X2_hasAll : GoodIn wsX11_barrier (wsV RX11 144 RX2 yX2_hasAll wsX2_hasAll) := goodIn_app (goodIn_of _ (by decide +kernel)) ggX11_barrier_X2_hasAll
theorem dX11_barrier_0 : decode cX11_barrier 0 = .ok (.aload_n 0, 1) := by decide +kernel
theorem dX11_barrier_1 : decode cX11_barrier 1 = .ok (.getfield 12, 3) := by decide +kernel
theorem dX11_barrier_11 : decode cX11_barrier 11 = .ok (.bipush (-2), 2) := by decide +kernel
theorem dX11_barrier_13 : decode cX11_barrier 13 = .ok (.ireturn, 1) := by decide +kernel
theorem dX11_barrier_14 : decode cX11_barrier 14 = .ok (.aload_n 0, 1) := by decide +kernel
theorem dX11_barrier_15 : decode cX11_barrier 15 = .ok (.getfield 37, 3) := by decide +kernel
theorem dX11_barrier_18 : decode cX11_barrier 18 = .ok (.iload_n 1, 1) := by decide +kernel
theorem dX11_barrier_19 : decode cX11_barrier 19 = .ok (.invokevirtual 181, 3) := by decide +kernel
theorem dX11_barrier_22 : decode cX11_barrier 22 = .ok (.ifCond .eq 7, 3) := by decide +kernel
theorem dX11_barrier_25 : decode cX11_barrier 25 = .ok (.iconst 1, 1) := by decide +kernel
theorem dX11_barrier_26 : decode cX11_barrier 26 = .ok (.goto 4, 3) := by decide +kernel
theorem dX11_barrier_30 : decode cX11_barrier 30 = .ok (.ireturn, 1) := by decide +kernel
theorem dX11_barrier_4 : decode cX11_barrier 4 = .ok (.iload_n 1, 1) := by decide +kernel
theorem dX11_barrier_5 : decode cX11_barrier 5 = .ok (.invokevirtual 144, 3) := by decide +kernel
theorem dX11_barrier_8 : decode cX11_barrier 8 = .ok (.ifCond .ne 6, 3) := by decide +kernel
theorem dX10_noteBarrier_0 : decode cX10_noteBarrier 0 = .ok (.aload_n 0, 1) := by decide +kernel
theorem dX10_noteBarrier_1 : decode cX10_noteBarrier 1 = .ok (.getfield 56, 3) := by decide +kernel
theorem dX10_noteBarrier_21 : decode cX10_noteBarrier 21 = .ok (.aload_n 0, 1) := by decide +kernel
theorem dX10_noteBarrier_22 : decode cX10_noteBarrier 22 = .ok (.iload_n 1, 1) := by decide +kernel
theorem dX10_noteBarrier_23 : decode cX10_noteBarrier 23 = .ok (.putfield 59, 3) := by decide +kernel
theorem dX10_noteBarrier_26 : decode cX10_noteBarrier 26 = .ok (.aload_n 0, 1) := by decide +kernel
theorem dX10_noteBarrier_27 : decode cX10_noteBarrier 27 = .ok (.dup, 1) := by decide +kernel
theorem dX10_noteBarrier_28 : decode cX10_noteBarrier 28 = .ok (.getfield 62, 3) := by decide +kernel
theorem dX10_noteBarrier_31 : decode cX10_noteBarrier 31 = .ok (.iload_n 1, 1) := by decide +kernel
theorem dX10_noteBarrier_32 : decode cX10_noteBarrier 32 = .ok (.iand, 1) := by decide +kernel
theorem dX10_noteBarrier_33 : decode cX10_noteBarrier 33 = .ok (.putfield 62, 3) := by decide +kernel
theorem dX10_noteBarrier_36 : decode cX10_noteBarrier 36 = .ok (.aload_n 0, 1) := by decide +kernel
theorem dX10_noteBarrier_37 : decode cX10_noteBarrier 37 = .ok (.dup, 1) := by decide +kernel
theorem dX10_noteBarrier_38 : decode cX10_noteBarrier 38 = .ok (.getfield 56, 3) := by decide +kernel
theorem dX10_noteBarrier_4 : decode cX10_noteBarrier 4 = .ok (.ifCond .eq 17, 3) := by decide +kernel
theorem dX10_noteBarrier_41 : decode cX10_noteBarrier 41 = .ok (.iconst 1, 1) := by decide +kernel
theorem dX10_noteBarrier_42 : decode cX10_noteBarrier 42 = .ok (.iadd, 1) := by decide +kernel
theorem dX10_noteBarrier_43 : decode cX10_noteBarrier 43 = .ok (.putfield 56, 3) := by decide +kernel
theorem dX10_noteBarrier_46 : decode cX10_noteBarrier 46 = .ok (.return_, 1) := by decide +kernel
set_option maxRecDepth 20000 in
theorem ggX10_seekBarriers_J6_bitCount_0f7a4 : GoodIn wsX10_seekBarriers wsJ6_bitCount_0f7a4 := goodIn_r _ [54, 55, 56, 57] (by decide +kernel) (by decide +kernel)
set_option maxRecDepth 20000 in
theorem gX10_seekBarriers_J6_bitCount_0f7a4 : GoodIn wsX10_seekBarriers (va_wsS RX10 40 yJ6_bitCount_0f7a4 wsJ6_bitCount_0f7a4) := goodIn_app (goodIn_of _ (by decide +kernel)) ggX10_seekBarriers_J6_bitCount_0f7a4
set_option maxRecDepth 20000 in
theorem ggX10_seekBarriers_X10_noteBarrier : GoodIn wsX10_seekBarriers wsX10_noteBarrier := goodIn_r _ [91, 4, 5, 6, 66, 53, 44, 54, 55, 56, 57, 92, 93, 94, 95, 96, 97, 98, 99] (by decide +kernel) (by decide +kernel)
set_option maxRecDepth 20000 in
theorem gX10_seekBarriers_X10_noteBarrier : GoodIn wsX10_seekBarriers (wsV RX10 68 RX10 yX10_noteBarrier wsX10_noteBarrier) := goodIn_app (goodIn_of _ (by decide +kernel)) ggX10_seekBarriers_X10_noteBarrier
set_option maxRecDepth 20000 in
theorem ggX10_seekBarriers_X10_oddWithout : GoodIn wsX10_seekBarriers wsX10_oddWithout := goodIn_r _ [71, 2, 7, 8, 9, 10, 11, 12, 72, 73, 74, 75, 76, 77, 78, 79, 80, 81, 82, 44, 83, 84, 85, 86, 46, 87, 53, 54, 55, 56, 57, 92, 93, 94, 95, 96, 97, 98, 99, 100, 101, 102] (by decide +kernel) (by decide +kernel)
set_option maxRecDepth 20000 in
theorem gX10_seekBarriers_X10_oddWithout : GoodIn wsX10_seekBarriers (wsV RX10 37 RX10 yX10_oddWithout wsX10_oddWithout) := goodIn_app (goodIn_of _ (by decide +kernel)) ggX10_seekBarriers_X10_oddWithout
set_option maxRecDepth 20000 in
theorem ggX10_seekBarriers_X2_all : GoodIn wsX10_seekBarriers wsX2_all := goodIn_r _ [11, 12, 100, 101, 102] (by decide +kernel) (by decide +kernel)
set_option maxRecDepth 20000 in
theorem gX10_seekBarriers_X2_all : GoodIn wsX10_seekBarriers (wsV RX10 27 RX2 yX2_all wsX2_all) := goodIn_app (goodIn_of _ (by decide +kernel)) ggX10_seekBarriers_X2_all
set_option maxRecDepth 20000 in
theorem ggX10_seekBarriers_X3_lack : GoodIn wsX10_seekBarriers wsX3_lack := goodIn_r _ [65, 52, 53, 44, 54, 55, 56, 57, 20, 21, 22, 16, 23, 24, 25, 26, 27, 28, 18, 29, 30, 31, 32, 33, 34, 35, 36, 37, 38, 39, 40, 41, 42, 43, 45, 46, 47, 48, 49, 50, 51, 58, 59, 60, 61, 103, 104, 105, 106, 100, 101, 102, 107, 108] (by decide +kernel) (by decide +kernel)
set_option maxRecDepth 20000 in
theorem gX10_seekBarriers_X3_lack : GoodIn wsX10_seekBarriers (wsV RX10 45 RX3 yX3_lack wsX3_lack) := goodIn_app (goodIn_of _ (by decide +kernel)) ggX10_seekBarriers_X3_lack
set_option maxRecDepth 20000 in
theorem ggX10_seekBarriers_X3_loosePoints : GoodIn wsX10_seekBarriers wsX3_loosePoints := goodIn_r _ [17, 18, 19, 8, 9, 10, 11, 12, 20, 21, 22, 16, 23, 24, 25, 26, 27, 28, 29, 30, 31, 32, 33, 34, 35, 36, 37, 38, 39, 40, 41, 42, 43, 44, 45, 46, 47, 48, 49, 50, 51, 52, 53, 54, 55, 56, 57, 58, 59, 60, 61, 103, 104, 105, 106, 100, 101, 102, 107, 108] (by decide +kernel) (by decide +kernel)
set_option maxRecDepth 20000 in
theorem gX10_seekBarriers_X3_loosePoints : GoodIn wsX10_seekBarriers (wsV RX10 53 RX3 yX3_loosePoints wsX3_loosePoints) := goodIn_app (goodIn_of _ (by decide +kernel)) ggX10_seekBarriers_X3_loosePoints
theorem dX10_seekBarriers_0 : decode cX10_seekBarriers 0 = .ok (.aload_n 0, 1) := by decide +kernel
theorem dX10_seekBarriers_1 : decode cX10_seekBarriers 1 = .ok (.getfield 15, 3) := by decide +kernel
theorem dX10_seekBarriers_101 : decode cX10_seekBarriers 101 = .ok (.iload_n 3, 1) := by decide +kernel
theorem dX10_seekBarriers_102 : decode cX10_seekBarriers 102 = .ok (.invokestatic 40, 3) := by decide +kernel
theorem dX10_seekBarriers_105 : decode cX10_seekBarriers 105 = .ok (.iload 5, 2) := by decide +kernel
theorem dX10_seekBarriers_107 : decode cX10_seekBarriers 107 = .ok (.iadd, 1) := by decide +kernel
theorem dX10_seekBarriers_108 : decode cX10_seekBarriers 108 = .ok (.aload_n 0, 1) := by decide +kernel
theorem dX10_seekBarriers_109 : decode cX10_seekBarriers 109 = .ok (.getfield 19, 3) := by decide +kernel
theorem dX10_seekBarriers_11 : decode cX10_seekBarriers 11 = .ok (.if_icmp .ne 4, 3) := by decide +kernel
theorem dX10_seekBarriers_112 : decode cX10_seekBarriers 112 = .ok (.getfield 65, 3) := by decide +kernel
theorem dX10_seekBarriers_115 : decode cX10_seekBarriers 115 = .ok (.if_icmp .gt 7, 3) := by decide +kernel
theorem dX10_seekBarriers_118 : decode cX10_seekBarriers 118 = .ok (.iconst 1, 1) := by decide +kernel
theorem dX10_seekBarriers_119 : decode cX10_seekBarriers 119 = .ok (.goto 4, 3) := by decide +kernel
theorem dX10_seekBarriers_123 : decode cX10_seekBarriers 123 = .ok (.istore 6, 2) := by decide +kernel
theorem dX10_seekBarriers_125 : decode cX10_seekBarriers 125 = .ok (.iload 6, 2) := by decide +kernel
theorem dX10_seekBarriers_127 : decode cX10_seekBarriers 127 = .ok (.ifCond .eq 18, 3) := by decide +kernel
theorem dX10_seekBarriers_130 : decode cX10_seekBarriers 130 = .ok (.aload_n 0, 1) := by decide +kernel
theorem dX10_seekBarriers_131 : decode cX10_seekBarriers 131 = .ok (.iload_n 3, 1) := by decide +kernel
theorem dX10_seekBarriers_132 : decode cX10_seekBarriers 132 = .ok (.invokevirtual 37, 3) := by decide +kernel
theorem dX10_seekBarriers_135 : decode cX10_seekBarriers 135 = .ok (.iload 5, 2) := by decide +kernel
theorem dX10_seekBarriers_137 : decode cX10_seekBarriers 137 = .ok (.if_icmp .ne 8, 3) := by decide +kernel
theorem dX10_seekBarriers_140 : decode cX10_seekBarriers 140 = .ok (.aload_n 0, 1) := by decide +kernel
theorem dX10_seekBarriers_141 : decode cX10_seekBarriers 141 = .ok (.iload_n 3, 1) := by decide +kernel
theorem dX10_seekBarriers_142 : decode cX10_seekBarriers 142 = .ok (.invokevirtual 68, 3) := by decide +kernel
theorem dX10_seekBarriers_145 : decode cX10_seekBarriers 145 = .ok (.iload_n 3, 1) := by decide +kernel
theorem dX10_seekBarriers_146 : decode cX10_seekBarriers 146 = .ok (.iload_n 1, 1) := by decide +kernel
theorem dX10_seekBarriers_147 : decode cX10_seekBarriers 147 = .ok (.if_icmp .ne 4, 3) := by decide +kernel
theorem dX10_seekBarriers_15 : decode cX10_seekBarriers 15 = .ok (.aload_n 0, 1) := by decide +kernel
theorem dX10_seekBarriers_150 : decode cX10_seekBarriers 150 = .ok (.return_, 1) := by decide +kernel
theorem dX10_seekBarriers_16 : decode cX10_seekBarriers 16 = .ok (.aload_n 0, 1) := by decide +kernel
theorem dX10_seekBarriers_17 : decode cX10_seekBarriers 17 = .ok (.getfield 19, 3) := by decide +kernel
theorem dX10_seekBarriers_20 : decode cX10_seekBarriers 20 = .ok (.getfield 50, 3) := by decide +kernel
theorem dX10_seekBarriers_23 : decode cX10_seekBarriers 23 = .ok (.putfield 15, 3) := by decide +kernel
theorem dX10_seekBarriers_26 : decode cX10_seekBarriers 26 = .ok (.aload_n 0, 1) := by decide +kernel
theorem dX10_seekBarriers_27 : decode cX10_seekBarriers 27 = .ok (.getfield 19, 3) := by decide +kernel
theorem dX10_seekBarriers_30 : decode cX10_seekBarriers 30 = .ok (.invokevirtual 27, 3) := by decide +kernel
theorem dX10_seekBarriers_33 : decode cX10_seekBarriers 33 = .ok (.aload_n 0, 1) := by decide +kernel
theorem dX10_seekBarriers_34 : decode cX10_seekBarriers 34 = .ok (.getfield 23, 3) := by decide +kernel
theorem dX10_seekBarriers_37 : decode cX10_seekBarriers 37 = .ok (.invokevirtual 53, 3) := by decide +kernel
theorem dX10_seekBarriers_4 : decode cX10_seekBarriers 4 = .ok (.aload_n 0, 1) := by decide +kernel
theorem dX10_seekBarriers_40 : decode cX10_seekBarriers 40 = .ok (.iconst (-1), 1) := by decide +kernel
theorem dX10_seekBarriers_41 : decode cX10_seekBarriers 41 = .ok (.ixor, 1) := by decide +kernel
theorem dX10_seekBarriers_42 : decode cX10_seekBarriers 42 = .ok (.iand, 1) := by decide +kernel
theorem dX10_seekBarriers_43 : decode cX10_seekBarriers 43 = .ok (.istore_n 1, 1) := by decide +kernel
theorem dX10_seekBarriers_44 : decode cX10_seekBarriers 44 = .ok (.aload_n 0, 1) := by decide +kernel
theorem dX10_seekBarriers_45 : decode cX10_seekBarriers 45 = .ok (.getfield 23, 3) := by decide +kernel
theorem dX10_seekBarriers_48 : decode cX10_seekBarriers 48 = .ok (.aload_n 0, 1) := by decide +kernel
theorem dX10_seekBarriers_49 : decode cX10_seekBarriers 49 = .ok (.getfield 19, 3) := by decide +kernel
theorem dX10_seekBarriers_5 : decode cX10_seekBarriers 5 = .ok (.getfield 19, 3) := by decide +kernel
theorem dX10_seekBarriers_52 : decode cX10_seekBarriers 52 = .ok (.invokevirtual 27, 3) := by decide +kernel
theorem dX10_seekBarriers_55 : decode cX10_seekBarriers 55 = .ok (.invokevirtual 45, 3) := by decide +kernel
theorem dX10_seekBarriers_58 : decode cX10_seekBarriers 58 = .ok (.istore_n 2, 1) := by decide +kernel
theorem dX10_seekBarriers_59 : decode cX10_seekBarriers 59 = .ok (.aload_n 0, 1) := by decide +kernel
theorem dX10_seekBarriers_60 : decode cX10_seekBarriers 60 = .ok (.iconst 0, 1) := by decide +kernel
theorem dX10_seekBarriers_61 : decode cX10_seekBarriers 61 = .ok (.putfield 56, 3) := by decide +kernel
theorem dX10_seekBarriers_64 : decode cX10_seekBarriers 64 = .ok (.aload_n 0, 1) := by decide +kernel
theorem dX10_seekBarriers_65 : decode cX10_seekBarriers 65 = .ok (.iconst 0, 1) := by decide +kernel
theorem dX10_seekBarriers_66 : decode cX10_seekBarriers 66 = .ok (.putfield 59, 3) := by decide +kernel
theorem dX10_seekBarriers_69 : decode cX10_seekBarriers 69 = .ok (.aload_n 0, 1) := by decide +kernel
theorem dX10_seekBarriers_70 : decode cX10_seekBarriers 70 = .ok (.aload_n 0, 1) := by decide +kernel
theorem dX10_seekBarriers_71 : decode cX10_seekBarriers 71 = .ok (.getfield 19, 3) := by decide +kernel
theorem dX10_seekBarriers_74 : decode cX10_seekBarriers 74 = .ok (.invokevirtual 27, 3) := by decide +kernel
theorem dX10_seekBarriers_77 : decode cX10_seekBarriers 77 = .ok (.putfield 62, 3) := by decide +kernel
theorem dX10_seekBarriers_8 : decode cX10_seekBarriers 8 = .ok (.getfield 50, 3) := by decide +kernel
theorem dX10_seekBarriers_80 : decode cX10_seekBarriers 80 = .ok (.iconst 0, 1) := by decide +kernel
theorem dX10_seekBarriers_81 : decode cX10_seekBarriers 81 = .ok (.istore_n 3, 1) := by decide +kernel
theorem dX10_seekBarriers_82 : decode cX10_seekBarriers 82 = .ok (.iconst 0, 1) := by decide +kernel
theorem dX10_seekBarriers_83 : decode cX10_seekBarriers 83 = .ok (.istore 4, 2) := by decide +kernel
theorem dX10_seekBarriers_85 : decode cX10_seekBarriers 85 = .ok (.iload 4, 2) := by decide +kernel
theorem dX10_seekBarriers_87 : decode cX10_seekBarriers 87 = .ok (.sipush 4096, 3) := by decide +kernel
theorem dX10_seekBarriers_90 : decode cX10_seekBarriers 90 = .ok (.if_icmp .ge 73, 3) := by decide +kernel
theorem dX10_seekBarriers_93 : decode cX10_seekBarriers 93 = .ok (.iload_n 3, 1) := by decide +kernel
theorem dX10_seekBarriers_94 : decode cX10_seekBarriers 94 = .ok (.invokestatic 40, 3) := by decide +kernel
theorem dX10_seekBarriers_97 : decode cX10_seekBarriers 97 = .ok (.iload_n 2, 1) := by decide +kernel
theorem dX10_seekBarriers_98 : decode cX10_seekBarriers 98 = .ok (.iadd, 1) := by decide +kernel
theorem dX10_seekBarriers_99 : decode cX10_seekBarriers 99 = .ok (.istore 5, 2) := by decide +kernel
set_option maxRecDepth 20000 in
theorem ggX11_barriers_X10_seekBarriers : GoodIn wsX11_barriers wsX10_seekBarriers := goodIn_r _ [6, 7, 8, 9, 10, 11, 12, 13, 14, 15, 16, 17, 18, 19, 20, 21, 22, 23, 24, 25, 26, 27, 28, 29, 30, 31, 32, 33, 34, 35, 36, 37, 38, 39, 40, 41, 42, 43, 44, 45, 46, 47, 48, 49, 50, 51, 52, 53, 54, 55, 56, 57, 58, 59, 60, 61, 62, 63, 64, 65, 66, 67, 68, 69, 70, 71, 72, 73, 74, 75, 5, 76, 77, 78, 79, 80, 81, 82, 83, 84, 85, 86, 87, 88, 89, 90, 91, 92, 93, 94, 95, 96, 113, 114, 115, 116, 117, 118, 119, 120, 121, 122, 123, 124, 125, 126, 127, 128, 129] (by decide +kernel) (by decide +kernel)
set_option maxRecDepth 20000 in
theorem gX11_barriers_X10_seekBarriers : GoodIn wsX11_barriers (wsV RX11 184 RX10 yX10_seekBarriers wsX10_seekBarriers) := goodIn_app (goodIn_of _ (by decide +kernel)) ggX11_barriers_X10_seekBarriers
theorem dX11_barriers_0 : decode cX11_barriers 0 = .ok (.iload_n 1, 1) := by decide +kernel
theorem dX11_barriers_1 : decode cX11_barriers 1 = .ok (.ifCond .lt 8, 3) := by decide +kernel
theorem dX11_barriers_11 : decode cX11_barriers 11 = .ok (.ireturn, 1) := by decide +kernel
theorem dX11_barriers_12 : decode cX11_barriers 12 = .ok (.aload_n 0, 1) := by decide +kernel
theorem dX11_barriers_13 : decode cX11_barriers 13 = .ok (.getfield 37, 3) := by decide +kernel
theorem dX11_barriers_16 : decode cX11_barriers 16 = .ok (.invokevirtual 184, 3) := by decide +kernel
theorem dX11_barriers_19 : decode cX11_barriers 19 = .ok (.iload_n 1, 1) := by decide +kernel
theorem dX11_barriers_20 : decode cX11_barriers 20 = .ok (.ifCond .ne 11, 3) := by decide +kernel
theorem dX11_barriers_23 : decode cX11_barriers 23 = .ok (.aload_n 0, 1) := by decide +kernel
theorem dX11_barriers_24 : decode cX11_barriers 24 = .ok (.getfield 37, 3) := by decide +kernel
theorem dX11_barriers_27 : decode cX11_barriers 27 = .ok (.getfield 187, 3) := by decide +kernel
theorem dX11_barriers_30 : decode cX11_barriers 30 = .ok (.ireturn, 1) := by decide +kernel
theorem dX11_barriers_31 : decode cX11_barriers 31 = .ok (.iload_n 1, 1) := by decide +kernel
theorem dX11_barriers_32 : decode cX11_barriers 32 = .ok (.iconst 1, 1) := by decide +kernel
theorem dX11_barriers_33 : decode cX11_barriers 33 = .ok (.if_icmp .ne 13, 3) := by decide +kernel
theorem dX11_barriers_36 : decode cX11_barriers 36 = .ok (.aload_n 0, 1) := by decide +kernel
theorem dX11_barriers_37 : decode cX11_barriers 37 = .ok (.getfield 37, 3) := by decide +kernel
theorem dX11_barriers_4 : decode cX11_barriers 4 = .ok (.iload_n 1, 1) := by decide +kernel
theorem dX11_barriers_40 : decode cX11_barriers 40 = .ok (.getfield 190, 3) := by decide +kernel
theorem dX11_barriers_43 : decode cX11_barriers 43 = .ok (.goto 10, 3) := by decide +kernel
theorem dX11_barriers_46 : decode cX11_barriers 46 = .ok (.aload_n 0, 1) := by decide +kernel
theorem dX11_barriers_47 : decode cX11_barriers 47 = .ok (.getfield 37, 3) := by decide +kernel
theorem dX11_barriers_5 : decode cX11_barriers 5 = .ok (.iconst 2, 1) := by decide +kernel
theorem dX11_barriers_50 : decode cX11_barriers 50 = .ok (.getfield 193, 3) := by decide +kernel
theorem dX11_barriers_53 : decode cX11_barriers 53 = .ok (.ireturn, 1) := by decide +kernel
theorem dX11_barriers_6 : decode cX11_barriers 6 = .ok (.if_icmp .le 6, 3) := by decide +kernel
theorem dX11_barriers_9 : decode cX11_barriers 9 = .ok (.bipush (-2), 2) := by decide +kernel
set_option maxRecDepth 20000 in
theorem ggX10_isCritical_J6_bitCount_0f7a4 : GoodIn wsX10_isCritical wsJ6_bitCount_0f7a4 := goodIn_r _ [6, 7, 8, 9] (by decide +kernel) (by decide +kernel)
set_option maxRecDepth 20000 in
theorem gX10_isCritical_J6_bitCount_0f7a4 : GoodIn wsX10_isCritical (va_wsS RX10 40 yJ6_bitCount_0f7a4 wsJ6_bitCount_0f7a4) := goodIn_app (goodIn_of _ (by decide +kernel)) ggX10_isCritical_J6_bitCount_0f7a4
theorem dX10_isCritical_0 : decode cX10_isCritical 0 = .ok (.iload_n 1, 1) := by decide +kernel
theorem dX10_isCritical_1 : decode cX10_isCritical 1 = .ok (.invokestatic 40, 3) := by decide +kernel
theorem dX10_isCritical_11 : decode cX10_isCritical 11 = .ok (.iconst 0, 1) := by decide +kernel
theorem dX10_isCritical_12 : decode cX10_isCritical 12 = .ok (.ireturn, 1) := by decide +kernel
theorem dX10_isCritical_4 : decode cX10_isCritical 4 = .ok (.istore_n 2, 1) := by decide +kernel
theorem dX10_isCritical_5 : decode cX10_isCritical 5 = .ok (.iload_n 2, 1) := by decide +kernel
theorem dX10_isCritical_6 : decode cX10_isCritical 6 = .ok (.iconst 1, 1) := by decide +kernel
theorem dX10_isCritical_7 : decode cX10_isCritical 7 = .ok (.iand, 1) := by decide +kernel
theorem dX10_isCritical_8 : decode cX10_isCritical 8 = .ok (.ifCond .ne 5, 3) := by decide +kernel
set_option maxRecDepth 20000 in
theorem ggX11_critical_X10_isCritical : GoodIn wsX11_critical wsX10_isCritical := goodIn_r _ [17, 18, 19, 20, 21, 22, 23, 24, 25, 26, 27, 28, 29, 30, 31, 32, 33, 34, 35, 36, 37, 38, 39, 40, 41, 42, 43, 44, 45, 46, 47, 48, 49, 50, 51, 52, 53, 54, 55, 56, 57, 58, 59, 60, 61, 62, 63, 64, 84, 85, 86, 87, 88, 89, 90, 91, 81, 82, 83, 92, 93, 94, 95, 96, 97] (by decide +kernel) (by decide +kernel)
set_option maxRecDepth 20000 in
theorem gX11_critical_X10_isCritical : GoodIn wsX11_critical (wsV RX11 196 RX10 yX10_isCritical wsX10_isCritical) := goodIn_app (goodIn_of _ (by decide +kernel)) ggX11_critical_X10_isCritical
set_option maxRecDepth 20000 in
theorem ggX11_critical_X2_hasAll : GoodIn wsX11_critical wsX2_hasAll := goodIn_r _ [7, 8, 9, 10, 6, 11, 12, 81, 82, 83] (by decide +kernel) (by decide +kernel)
set_option maxRecDepth 20000 in
theorem gX11_critical_X2_hasAll : GoodIn wsX11_critical (wsV RX11 144 RX2 yX2_hasAll wsX2_hasAll) := goodIn_app (goodIn_of _ (by decide +kernel)) ggX11_critical_X2_hasAll
theorem dX11_critical_0 : decode cX11_critical 0 = .ok (.aload_n 0, 1) := by decide +kernel
theorem dX11_critical_1 : decode cX11_critical 1 = .ok (.getfield 12, 3) := by decide +kernel
theorem dX11_critical_11 : decode cX11_critical 11 = .ok (.bipush (-2), 2) := by decide +kernel
theorem dX11_critical_13 : decode cX11_critical 13 = .ok (.ireturn, 1) := by decide +kernel
theorem dX11_critical_14 : decode cX11_critical 14 = .ok (.aload_n 0, 1) := by decide +kernel
theorem dX11_critical_15 : decode cX11_critical 15 = .ok (.getfield 37, 3) := by decide +kernel
theorem dX11_critical_18 : decode cX11_critical 18 = .ok (.iload_n 1, 1) := by decide +kernel
theorem dX11_critical_19 : decode cX11_critical 19 = .ok (.invokevirtual 196, 3) := by decide +kernel
theorem dX11_critical_22 : decode cX11_critical 22 = .ok (.ifCond .eq 7, 3) := by decide +kernel
theorem dX11_critical_29 : decode cX11_critical 29 = .ok (.iconst 0, 1) := by decide +kernel
theorem dX11_critical_30 : decode cX11_critical 30 = .ok (.ireturn, 1) := by decide +kernel
theorem dX11_critical_4 : decode cX11_critical 4 = .ok (.iload_n 1, 1) := by decide +kernel
theorem dX11_critical_5 : decode cX11_critical 5 = .ok (.invokevirtual 144, 3) := by decide +kernel
theorem dX11_critical_8 : decode cX11_critical 8 = .ok (.ifCond .ne 6, 3) := by decide +kernel
set_option maxRecDepth 20000 in
theorem ggX11_ear_X10_isCritical : GoodIn wsX11_ear wsX10_isCritical := goodIn_r _ [17, 18, 19, 20, 21, 22, 23, 24, 25, 26, 27, 28, 29, 30, 31, 32, 33, 34, 35, 36, 37, 38, 39, 40, 41, 42, 43, 44, 45, 46, 47, 48, 49, 50, 51, 52, 53, 54, 55, 56, 57, 58, 59, 60, 61, 62, 63, 64, 104, 105, 106, 107, 108, 109, 110, 111, 112, 113, 114, 115, 116, 117, 118, 119, 120] (by decide +kernel) (by decide +kernel)
set_option maxRecDepth 20000 in
theorem gX11_ear_X10_isCritical : GoodIn wsX11_ear (wsV RX11 196 RX10 yX10_isCritical wsX10_isCritical) := goodIn_app (goodIn_of _ (by decide +kernel)) ggX11_ear_X10_isCritical
set_option maxRecDepth 20000 in
theorem ggX11_ear_X2_hasAll : GoodIn wsX11_ear wsX2_hasAll := goodIn_r _ [7, 8, 9, 10, 6, 11, 12, 112, 113, 114] (by decide +kernel) (by decide +kernel)
set_option maxRecDepth 20000 in
theorem gX11_ear_X2_hasAll : GoodIn wsX11_ear (wsV RX11 144 RX2 yX2_hasAll wsX2_hasAll) := goodIn_app (goodIn_of _ (by decide +kernel)) ggX11_ear_X2_hasAll
theorem dX11_ear_0 : decode cX11_ear 0 = .ok (.aload_n 0, 1) := by decide +kernel
theorem dX11_ear_1 : decode cX11_ear 1 = .ok (.getfield 12, 3) := by decide +kernel
theorem dX11_ear_11 : decode cX11_ear 11 = .ok (.bipush (-2), 2) := by decide +kernel
theorem dX11_ear_13 : decode cX11_ear 13 = .ok (.ireturn, 1) := by decide +kernel
theorem dX11_ear_14 : decode cX11_ear 14 = .ok (.aload_n 0, 1) := by decide +kernel
theorem dX11_ear_15 : decode cX11_ear 15 = .ok (.getfield 37, 3) := by decide +kernel
theorem dX11_ear_18 : decode cX11_ear 18 = .ok (.iload_n 1, 1) := by decide +kernel
theorem dX11_ear_19 : decode cX11_ear 19 = .ok (.invokevirtual 196, 3) := by decide +kernel
theorem dX11_ear_22 : decode cX11_ear 22 = .ok (.ifCond .ne 6, 3) := by decide +kernel
theorem dX11_ear_25 : decode cX11_ear 25 = .ok (.bipush (-3), 2) := by decide +kernel
theorem dX11_ear_27 : decode cX11_ear 27 = .ok (.ireturn, 1) := by decide +kernel
theorem dX11_ear_4 : decode cX11_ear 4 = .ok (.iload_n 1, 1) := by decide +kernel
theorem dX11_ear_5 : decode cX11_ear 5 = .ok (.invokevirtual 144, 3) := by decide +kernel
theorem dX11_ear_8 : decode cX11_ear 8 = .ok (.ifCond .ne 6, 3) := by decide +kernel
set_option maxRecDepth 20000 in
theorem ggX11_verdict_X2_areTwo : GoodIn wsX11_verdict wsX2_areTwo := goodIn_r _ [7, 8, 9, 10, 6, 11, 12, 95, 96, 97] (by decide +kernel) (by decide +kernel)
set_option maxRecDepth 20000 in
theorem gX11_verdict_X2_areTwo : GoodIn wsX11_verdict (wsV RX11 105 RX2 yX2_areTwo wsX2_areTwo) := goodIn_app (goodIn_of _ (by decide +kernel)) ggX11_verdict_X2_areTwo
theorem dX11_verdict_0 : decode cX11_verdict 0 = .ok (.aload_n 0, 1) := by decide +kernel
theorem dX11_verdict_1 : decode cX11_verdict 1 = .ok (.getfield 12, 3) := by decide +kernel
theorem dX11_verdict_12 : decode cX11_verdict 12 = .ok (.bipush (-2), 2) := by decide +kernel
theorem dX11_verdict_14 : decode cX11_verdict 14 = .ok (.ireturn, 1) := by decide +kernel
theorem dX11_verdict_4 : decode cX11_verdict 4 = .ok (.iload_n 1, 1) := by decide +kernel
theorem dX11_verdict_5 : decode cX11_verdict 5 = .ok (.iload_n 2, 1) := by decide +kernel
theorem dX11_verdict_6 : decode cX11_verdict 6 = .ok (.invokevirtual 105, 3) := by decide +kernel
theorem dX11_verdict_9 : decode cX11_verdict 9 = .ok (.ifCond .ne 6, 3) := by decide +kernel
theorem dX11_verdicts_0 : decode cX11_verdicts 0 = .ok (.iload_n 1, 1) := by decide +kernel
theorem dX11_verdicts_1 : decode cX11_verdicts 1 = .ok (.ifCond .lt 8, 3) := by decide +kernel
theorem dX11_verdicts_11 : decode cX11_verdicts 11 = .ok (.ireturn, 1) := by decide +kernel
theorem dX11_verdicts_12 : decode cX11_verdicts 12 = .ok (.iconst 0, 1) := by decide +kernel
theorem dX11_verdicts_13 : decode cX11_verdicts 13 = .ok (.istore_n 2, 1) := by decide +kernel
theorem dX11_verdicts_14 : decode cX11_verdicts 14 = .ok (.iconst 0, 1) := by decide +kernel
theorem dX11_verdicts_15 : decode cX11_verdicts 15 = .ok (.istore_n 3, 1) := by decide +kernel
theorem dX11_verdicts_16 : decode cX11_verdicts 16 = .ok (.iload_n 3, 1) := by decide +kernel
theorem dX11_verdicts_17 : decode cX11_verdicts 17 = .ok (.aload_n 0, 1) := by decide +kernel
theorem dX11_verdicts_18 : decode cX11_verdicts 18 = .ok (.getfield 12, 3) := by decide +kernel
theorem dX11_verdicts_21 : decode cX11_verdicts 21 = .ok (.getfield 97, 3) := by decide +kernel
theorem dX11_verdicts_24 : decode cX11_verdicts 24 = .ok (.if_icmp .ge 62, 3) := by decide +kernel
theorem dX11_verdicts_4 : decode cX11_verdicts 4 = .ok (.iload_n 1, 1) := by decide +kernel
theorem dX11_verdicts_5 : decode cX11_verdicts 5 = .ok (.iconst 2, 1) := by decide +kernel
theorem dX11_verdicts_6 : decode cX11_verdicts 6 = .ok (.if_icmp .le 6, 3) := by decide +kernel
theorem dX11_verdicts_86 : decode cX11_verdicts 86 = .ok (.iload_n 2, 1) := by decide +kernel
theorem dX11_verdicts_87 : decode cX11_verdicts 87 = .ok (.ireturn, 1) := by decide +kernel
theorem dX11_verdicts_9 : decode cX11_verdicts 9 = .ok (.bipush (-2), 2) := by decide +kernel
set_option maxRecDepth 20000 in
theorem ggX11_without_X2_hasPoint : GoodIn wsX11_without wsX2_hasPoint := goodIn_r _ [7, 8, 77, 78, 79] (by decide +kernel) (by decide +kernel)
set_option maxRecDepth 20000 in
theorem gX11_without_X2_hasPoint : GoodIn wsX11_without (wsV RX11 116 RX2 yX2_hasPoint wsX2_hasPoint) := goodIn_app (goodIn_of _ (by decide +kernel)) ggX11_without_X2_hasPoint
theorem dX11_without_0 : decode cX11_without 0 = .ok (.aload_n 0, 1) := by decide +kernel
theorem dX11_without_1 : decode cX11_without 1 = .ok (.getfield 12, 3) := by decide +kernel
theorem dX11_without_34 : decode cX11_without 34 = .ok (.bipush (-2), 2) := by decide +kernel
theorem dX11_without_36 : decode cX11_without 36 = .ok (.ireturn, 1) := by decide +kernel
theorem dX11_without_4 : decode cX11_without 4 = .ok (.iload_n 1, 1) := by decide +kernel
theorem dX11_without_5 : decode cX11_without 5 = .ok (.invokevirtual 116, 3) := by decide +kernel
theorem dX11_without_8 : decode cX11_without 8 = .ok (.ifCond .eq 26, 3) := by decide +kernel
theorem dX11_firstOrCount_0 : decode cX11_firstOrCount 0 = .ok (.iload_n 1, 1) := by decide +kernel
theorem dX11_firstOrCount_1 : decode cX11_firstOrCount 1 = .ok (.ifCond .eq 11, 3) := by decide +kernel
theorem dX11_firstOrCount_11 : decode cX11_firstOrCount 11 = .ok (.ireturn, 1) := by decide +kernel
theorem dX11_firstOrCount_111 : decode cX11_firstOrCount 111 = .ok (.iload_n 1, 1) := by decide +kernel
theorem dX11_firstOrCount_112 : decode cX11_firstOrCount 112 = .ok (.ifCond .ne 7, 3) := by decide +kernel
theorem dX11_firstOrCount_115 : decode cX11_firstOrCount 115 = .ok (.iconst (-1), 1) := by decide +kernel
theorem dX11_firstOrCount_116 : decode cX11_firstOrCount 116 = .ok (.goto 4, 3) := by decide +kernel
theorem dX11_firstOrCount_119 : decode cX11_firstOrCount 119 = .ok (.iload_n 3, 1) := by decide +kernel
theorem dX11_firstOrCount_12 : decode cX11_firstOrCount 12 = .ok (.iconst 0, 1) := by decide +kernel
theorem dX11_firstOrCount_120 : decode cX11_firstOrCount 120 = .ok (.ireturn, 1) := by decide +kernel
theorem dX11_firstOrCount_13 : decode cX11_firstOrCount 13 = .ok (.istore_n 3, 1) := by decide +kernel
theorem dX11_firstOrCount_14 : decode cX11_firstOrCount 14 = .ok (.iconst 0, 1) := by decide +kernel
theorem dX11_firstOrCount_15 : decode cX11_firstOrCount 15 = .ok (.istore 4, 2) := by decide +kernel
theorem dX11_firstOrCount_17 : decode cX11_firstOrCount 17 = .ok (.iload 4, 2) := by decide +kernel
theorem dX11_firstOrCount_19 : decode cX11_firstOrCount 19 = .ok (.aload_n 0, 1) := by decide +kernel
theorem dX11_firstOrCount_20 : decode cX11_firstOrCount 20 = .ok (.getfield 12, 3) := by decide +kernel
theorem dX11_firstOrCount_23 : decode cX11_firstOrCount 23 = .ok (.getfield 97, 3) := by decide +kernel
theorem dX11_firstOrCount_26 : decode cX11_firstOrCount 26 = .ok (.if_icmp .ge 85, 3) := by decide +kernel
theorem dX11_firstOrCount_4 : decode cX11_firstOrCount 4 = .ok (.iload_n 1, 1) := by decide +kernel
theorem dX11_firstOrCount_5 : decode cX11_firstOrCount 5 = .ok (.iconst 1, 1) := by decide +kernel
theorem dX11_firstOrCount_6 : decode cX11_firstOrCount 6 = .ok (.if_icmp .eq 6, 3) := by decide +kernel
theorem dX11_firstOrCount_9 : decode cX11_firstOrCount 9 = .ok (.bipush (-2), 2) := by decide +kernel
set_option maxRecDepth 20000 in
theorem ggX11_mends_X11_firstOrCount : GoodIn wsX11_mends wsX11_firstOrCount := goodIn_r _ [5, 6, 7, 8, 9, 10, 11, 12, 13, 14, 15, 16, 17, 18, 19, 20, 21, 22, 23, 24, 25, 26, 27, 28, 29, 30, 31, 32, 33, 34, 35, 36, 37, 38, 39, 40, 41, 42, 43, 44, 45, 46, 47, 48, 49, 50, 51, 52, 53, 54, 55, 56, 57, 58, 59, 60, 61, 62, 63, 64, 65, 66, 67, 68, 69, 70, 71, 72, 73, 74, 75, 76, 77, 78, 79, 80, 81, 82, 83, 84, 85, 86, 87, 88, 89, 90, 91, 92, 93, 94, 95, 96, 97, 98, 99, 100, 101, 102, 103, 104, 105, 106, 107, 108, 109, 110, 111] (by decide +kernel) (by decide +kernel)
set_option maxRecDepth 20000 in
theorem gX11_mends_X11_firstOrCount : GoodIn wsX11_mends (wsV RX11 211 RX11 yX11_firstOrCount wsX11_firstOrCount) := goodIn_app (goodIn_of _ (by decide +kernel)) ggX11_mends_X11_firstOrCount
theorem dX11_mends_0 : decode cX11_mends 0 = .ok (.aload_n 0, 1) := by decide +kernel
theorem dX11_mends_1 : decode cX11_mends 1 = .ok (.iload_n 1, 1) := by decide +kernel
theorem dX11_mends_2 : decode cX11_mends 2 = .ok (.iconst 1, 1) := by decide +kernel
theorem dX11_mends_3 : decode cX11_mends 3 = .ok (.invokevirtual 211, 3) := by decide +kernel
theorem dX11_mends_6 : decode cX11_mends 6 = .ok (.ireturn, 1) := by decide +kernel
set_option maxRecDepth 20000 in
theorem ggX11_breaks_X11_firstOrCount : GoodIn wsX11_breaks wsX11_firstOrCount := goodIn_r _ [5, 6, 7, 8, 9, 10, 11, 12, 13, 14, 15, 16, 17, 18, 19, 20, 21, 22, 23, 24, 25, 26, 27, 28, 29, 30, 31, 32, 33, 34, 35, 36, 37, 38, 39, 40, 41, 42, 43, 44, 45, 46, 47, 48, 49, 50, 51, 52, 53, 54, 55, 56, 57, 58, 59, 60, 61, 62, 63, 64, 65, 66, 67, 68, 69, 70, 71, 72, 73, 74, 75, 76, 77, 78, 79, 80, 81, 82, 83, 84, 85, 86, 87, 88, 89, 90, 91, 92, 93, 94, 95, 96, 97, 98, 99, 100, 101, 102, 103, 104, 105, 106, 107, 108, 109, 110, 111] (by decide +kernel) (by decide +kernel)
set_option maxRecDepth 20000 in
theorem gX11_breaks_X11_firstOrCount : GoodIn wsX11_breaks (wsV RX11 211 RX11 yX11_firstOrCount wsX11_firstOrCount) := goodIn_app (goodIn_of _ (by decide +kernel)) ggX11_breaks_X11_firstOrCount
theorem dX11_breaks_0 : decode cX11_breaks 0 = .ok (.aload_n 0, 1) := by decide +kernel
theorem dX11_breaks_1 : decode cX11_breaks 1 = .ok (.iload_n 1, 1) := by decide +kernel
theorem dX11_breaks_2 : decode cX11_breaks 2 = .ok (.iconst 0, 1) := by decide +kernel
theorem dX11_breaks_3 : decode cX11_breaks 3 = .ok (.invokevirtual 211, 3) := by decide +kernel
theorem dX11_breaks_6 : decode cX11_breaks 6 = .ok (.ireturn, 1) := by decide +kernel
theorem dX11_isSheet_0 : decode cX11_isSheet 0 = .ok (.iload_n 0, 1) := by decide +kernel
theorem dX11_isSheet_1 : decode cX11_isSheet 1 = .ok (.ifCond .lt 12, 3) := by decide +kernel
theorem dX11_isSheet_10 : decode cX11_isSheet 10 = .ok (.goto 4, 3) := by decide +kernel
theorem dX11_isSheet_13 : decode cX11_isSheet 13 = .ok (.iconst 0, 1) := by decide +kernel
theorem dX11_isSheet_14 : decode cX11_isSheet 14 = .ok (.ireturn, 1) := by decide +kernel
theorem dX11_isSheet_4 : decode cX11_isSheet 4 = .ok (.iload_n 0, 1) := by decide +kernel
theorem dX11_isSheet_5 : decode cX11_isSheet 5 = .ok (.iconst 4, 1) := by decide +kernel
theorem dX11_isSheet_6 : decode cX11_isSheet 6 = .ok (.if_icmp .ge 7, 3) := by decide +kernel
theorem dX11_isSheet_9 : decode cX11_isSheet 9 = .ok (.iconst 1, 1) := by decide +kernel
theorem dX6_isMissing_0 : decode cX6_isMissing 0 = .ok (.aload_n 0, 1) := by decide +kernel
theorem dX6_isMissing_1 : decode cX6_isMissing 1 = .ok (.getfield 15, 3) := by decide +kernel
theorem dX6_isMissing_13 : decode cX6_isMissing 13 = .ok (.ireturn, 1) := by decide +kernel
theorem dX6_isMissing_4 : decode cX6_isMissing 4 = .ok (.iconst (-1), 1) := by decide +kernel
theorem dX6_isMissing_5 : decode cX6_isMissing 5 = .ok (.if_icmp .ne 7, 3) := by decide +kernel
theorem dX6_isMissing_8 : decode cX6_isMissing 8 = .ok (.iconst 1, 1) := by decide +kernel
theorem dX6_isMissing_9 : decode cX6_isMissing 9 = .ok (.goto 4, 3) := by decide +kernel
set_option maxRecDepth 20000 in
theorem ggX11_refusalOfSheet_X11_isSheet : GoodIn wsX11_refusalOfSheet wsX11_isSheet := goodIn_r _ [5] (by decide +kernel) (by decide +kernel)
set_option maxRecDepth 20000 in
theorem gX11_refusalOfSheet_X11_isSheet : GoodIn wsX11_refusalOfSheet (va_wsS RX11 248 yX11_isSheet wsX11_isSheet) := goodIn_app (goodIn_of _ (by decide +kernel)) ggX11_refusalOfSheet_X11_isSheet
set_option maxRecDepth 20000 in
theorem ggX11_refusalOfSheet_X6_isMissing : GoodIn wsX11_refusalOfSheet wsX6_isMissing := goodIn_r _ [10, 11, 28, 29, 30] (by decide +kernel) (by decide +kernel)
set_option maxRecDepth 20000 in
theorem gX11_refusalOfSheet_X6_isMissing : GoodIn wsX11_refusalOfSheet (wsV RX11 251 RX6 yX6_isMissing wsX6_isMissing) := goodIn_app (goodIn_of _ (by decide +kernel)) ggX11_refusalOfSheet_X6_isMissing
theorem dX11_refusalOfSheet_0 : decode cX11_refusalOfSheet 0 = .ok (.iload_n 1, 1) := by decide +kernel
theorem dX11_refusalOfSheet_1 : decode cX11_refusalOfSheet 1 = .ok (.invokestatic 248, 3) := by decide +kernel
theorem dX11_refusalOfSheet_10 : decode cX11_refusalOfSheet 10 = .ok (.aload_n 0, 1) := by decide +kernel
theorem dX11_refusalOfSheet_11 : decode cX11_refusalOfSheet 11 = .ok (.getfield 75, 3) := by decide +kernel
theorem dX11_refusalOfSheet_14 : decode cX11_refusalOfSheet 14 = .ok (.iload_n 1, 1) := by decide +kernel
theorem dX11_refusalOfSheet_15 : decode cX11_refusalOfSheet 15 = .ok (.aaload, 1) := by decide +kernel
theorem dX11_refusalOfSheet_16 : decode cX11_refusalOfSheet 16 = .ok (.invokevirtual 251, 3) := by decide +kernel
theorem dX11_refusalOfSheet_19 : decode cX11_refusalOfSheet 19 = .ok (.ifCond .eq 8, 3) := by decide +kernel
theorem dX11_refusalOfSheet_22 : decode cX11_refusalOfSheet 22 = .ok (.bipush (-11), 2) := by decide +kernel
theorem dX11_refusalOfSheet_24 : decode cX11_refusalOfSheet 24 = .ok (.goto 4, 3) := by decide +kernel
theorem dX11_refusalOfSheet_28 : decode cX11_refusalOfSheet 28 = .ok (.ireturn, 1) := by decide +kernel
theorem dX11_refusalOfSheet_4 : decode cX11_refusalOfSheet 4 = .ok (.ifCond .ne 6, 3) := by decide +kernel
theorem dX11_refusalOfSheet_7 : decode cX11_refusalOfSheet 7 = .ok (.bipush (-2), 2) := by decide +kernel
theorem dX11_refusalOfSheet_9 : decode cX11_refusalOfSheet 9 = .ok (.ireturn, 1) := by decide +kernel
set_option maxRecDepth 20000 in
theorem ggX11_isTold_X11_refusalOfSheet : GoodIn wsX11_isTold wsX11_refusalOfSheet := goodIn_r _ [7, 2, 8, 9, 6, 10, 11, 12, 13, 14, 15, 16, 49, 50, 51, 52, 53, 54, 55, 56, 57, 58, 59, 60, 61, 62, 63, 64, 65, 66, 67] (by decide +kernel) (by decide +kernel)
set_option maxRecDepth 20000 in
theorem gX11_isTold_X11_refusalOfSheet : GoodIn wsX11_isTold (wsV RX11 218 RX11 yX11_refusalOfSheet wsX11_refusalOfSheet) := goodIn_app (goodIn_of _ (by decide +kernel)) ggX11_isTold_X11_refusalOfSheet
theorem dX11_isTold_0 : decode cX11_isTold 0 = .ok (.aload_n 0, 1) := by decide +kernel
theorem dX11_isTold_1 : decode cX11_isTold 1 = .ok (.iload_n 1, 1) := by decide +kernel
theorem dX11_isTold_10 : decode cX11_isTold 10 = .ok (.iload_n 2, 1) := by decide +kernel
theorem dX11_isTold_11 : decode cX11_isTold 11 = .ok (.ireturn, 1) := by decide +kernel
theorem dX11_isTold_2 : decode cX11_isTold 2 = .ok (.invokevirtual 218, 3) := by decide +kernel
theorem dX11_isTold_5 : decode cX11_isTold 5 = .ok (.istore_n 2, 1) := by decide +kernel
theorem dX11_isTold_6 : decode cX11_isTold 6 = .ok (.iload_n 2, 1) := by decide +kernel
theorem dX11_isTold_7 : decode cX11_isTold 7 = .ok (.ifCond .eq 5, 3) := by decide +kernel
set_option maxRecDepth 20000 in
theorem ggX11_refusalOfTold_X11_refusalOfSheet : GoodIn wsX11_refusalOfTold wsX11_refusalOfSheet := goodIn_r _ [7, 2, 8, 9, 6, 10, 11, 12, 13, 14, 15, 16, 49, 50, 51, 52, 53, 54, 55, 56, 57, 58, 59, 60, 61, 62, 63, 64, 65, 66, 67] (by decide +kernel) (by decide +kernel)
set_option maxRecDepth 20000 in
theorem gX11_refusalOfTold_X11_refusalOfSheet : GoodIn wsX11_refusalOfTold (wsV RX11 218 RX11 yX11_refusalOfSheet wsX11_refusalOfSheet) := goodIn_app (goodIn_of _ (by decide +kernel)) ggX11_refusalOfTold_X11_refusalOfSheet
theorem dX11_refusalOfTold_0 : decode cX11_refusalOfTold 0 = .ok (.aload_n 0, 1) := by decide +kernel
theorem dX11_refusalOfTold_1 : decode cX11_refusalOfTold 1 = .ok (.iload_n 1, 1) := by decide +kernel
theorem dX11_refusalOfTold_10 : decode cX11_refusalOfTold 10 = .ok (.iload_n 2, 1) := by decide +kernel
theorem dX11_refusalOfTold_11 : decode cX11_refusalOfTold 11 = .ok (.ireturn, 1) := by decide +kernel
theorem dX11_refusalOfTold_2 : decode cX11_refusalOfTold 2 = .ok (.invokevirtual 218, 3) := by decide +kernel
theorem dX11_refusalOfTold_5 : decode cX11_refusalOfTold 5 = .ok (.istore_n 2, 1) := by decide +kernel
theorem dX11_refusalOfTold_6 : decode cX11_refusalOfTold 6 = .ok (.iload_n 2, 1) := by decide +kernel
theorem dX11_refusalOfTold_7 : decode cX11_refusalOfTold 7 = .ok (.ifCond .eq 5, 3) := by decide +kernel
set_option maxRecDepth 20000 in
theorem ggX11_misses_X11_refusalOfTold : GoodIn wsX11_misses wsX11_refusalOfTold := goodIn_r _ [6, 1, 7, 8, 9, 10, 5, 11, 12, 13, 14, 15, 16, 17, 18, 19, 20, 21, 22, 23, 24, 25, 26, 27, 28, 29, 30, 31, 32, 33, 34, 35, 36, 37, 38, 39, 40, 41, 42, 43, 44, 45, 46, 47, 48, 49, 50, 51, 52, 57, 58, 59, 60, 61, 62, 63, 64, 65, 66, 67, 68, 69, 70, 71, 72, 73, 74, 75, 76, 77, 78, 79, 80, 81, 82, 83, 84] (by decide +kernel) (by decide +kernel)
set_option maxRecDepth 20000 in
theorem gX11_misses_X11_refusalOfTold : GoodIn wsX11_misses (wsV RX11 225 RX11 yX11_refusalOfTold wsX11_refusalOfTold) := goodIn_app (goodIn_of _ (by decide +kernel)) ggX11_misses_X11_refusalOfTold
theorem dX11_misses_0 : decode cX11_misses 0 = .ok (.aload_n 0, 1) := by decide +kernel
theorem dX11_misses_1 : decode cX11_misses 1 = .ok (.iload_n 1, 1) := by decide +kernel
theorem dX11_misses_10 : decode cX11_misses 10 = .ok (.iload_n 2, 1) := by decide +kernel
theorem dX11_misses_11 : decode cX11_misses 11 = .ok (.goto 10, 3) := by decide +kernel
theorem dX11_misses_2 : decode cX11_misses 2 = .ok (.invokevirtual 225, 3) := by decide +kernel
theorem dX11_misses_21 : decode cX11_misses 21 = .ok (.ireturn, 1) := by decide +kernel
theorem dX11_misses_5 : decode cX11_misses 5 = .ok (.istore_n 2, 1) := by decide +kernel
theorem dX11_misses_6 : decode cX11_misses 6 = .ok (.iload_n 2, 1) := by decide +kernel
theorem dX11_misses_7 : decode cX11_misses 7 = .ok (.ifCond .eq 7, 3) := by decide +kernel
set_option maxRecDepth 20000 in
theorem ggX11_way_X11_refusalOfTold : GoodIn wsX11_way wsX11_refusalOfTold := goodIn_r _ [6, 1, 7, 8, 9, 10, 5, 11, 12, 13, 14, 15, 16, 17, 18, 19, 20, 21, 22, 23, 24, 25, 26, 27, 28, 29, 30, 31, 32, 33, 34, 35, 36, 37, 38, 39, 40, 41, 42, 43, 44, 45, 46, 47, 48, 49, 50, 51, 52, 133, 134, 135, 136, 137, 138, 139, 140, 141, 142, 143, 144, 145, 146, 147, 148, 149, 150, 151, 152, 153, 154, 155, 156, 157, 158, 159, 160] (by decide +kernel) (by decide +kernel)
set_option maxRecDepth 20000 in
theorem gX11_way_X11_refusalOfTold : GoodIn wsX11_way (wsV RX11 225 RX11 yX11_refusalOfTold wsX11_refusalOfTold) := goodIn_app (goodIn_of _ (by decide +kernel)) ggX11_way_X11_refusalOfTold
theorem dX11_way_0 : decode cX11_way 0 = .ok (.aload_n 0, 1) := by decide +kernel
theorem dX11_way_1 : decode cX11_way 1 = .ok (.iload_n 1, 1) := by decide +kernel
theorem dX11_way_10 : decode cX11_way 10 = .ok (.iload_n 3, 1) := by decide +kernel
theorem dX11_way_11 : decode cX11_way 11 = .ok (.ireturn, 1) := by decide +kernel
theorem dX11_way_2 : decode cX11_way 2 = .ok (.invokevirtual 225, 3) := by decide +kernel
theorem dX11_way_5 : decode cX11_way 5 = .ok (.istore_n 3, 1) := by decide +kernel
theorem dX11_way_6 : decode cX11_way 6 = .ok (.iload_n 3, 1) := by decide +kernel
theorem dX11_way_7 : decode cX11_way 7 = .ok (.ifCond .eq 5, 3) := by decide +kernel
set_option maxRecDepth 20000 in
theorem ggX11_chains_X11_isSheet : GoodIn wsX11_chains wsX11_isSheet := goodIn_r _ [7] (by decide +kernel) (by decide +kernel)
set_option maxRecDepth 20000 in
theorem gX11_chains_X11_isSheet : GoodIn wsX11_chains (va_wsS RX11 248 yX11_isSheet wsX11_isSheet) := goodIn_app (goodIn_of _ (by decide +kernel)) ggX11_chains_X11_isSheet
set_option maxRecDepth 20000 in
theorem ggX11_chains_X6_isMissing : GoodIn wsX11_chains wsX6_isMissing := goodIn_r _ [12, 13, 99, 100, 101] (by decide +kernel) (by decide +kernel)
set_option maxRecDepth 20000 in
theorem gX11_chains_X6_isMissing : GoodIn wsX11_chains (wsV RX11 251 RX6 yX6_isMissing wsX6_isMissing) := goodIn_app (goodIn_of _ (by decide +kernel)) ggX11_chains_X6_isMissing
theorem dX11_chains_0 : decode cX11_chains 0 = .ok (.iload_n 1, 1) := by decide +kernel
theorem dX11_chains_1 : decode cX11_chains 1 = .ok (.invokestatic 248, 3) := by decide +kernel
theorem dX11_chains_11 : decode cX11_chains 11 = .ok (.ifCond .eq 12, 3) := by decide +kernel
theorem dX11_chains_14 : decode cX11_chains 14 = .ok (.iload_n 3, 1) := by decide +kernel
theorem dX11_chains_15 : decode cX11_chains 15 = .ok (.ifCond .lt 8, 3) := by decide +kernel
theorem dX11_chains_18 : decode cX11_chains 18 = .ok (.iload_n 3, 1) := by decide +kernel
theorem dX11_chains_19 : decode cX11_chains 19 = .ok (.iconst 2, 1) := by decide +kernel
theorem dX11_chains_20 : decode cX11_chains 20 = .ok (.if_icmp .le 6, 3) := by decide +kernel
theorem dX11_chains_23 : decode cX11_chains 23 = .ok (.bipush (-2), 2) := by decide +kernel
theorem dX11_chains_25 : decode cX11_chains 25 = .ok (.ireturn, 1) := by decide +kernel
theorem dX11_chains_26 : decode cX11_chains 26 = .ok (.aload_n 0, 1) := by decide +kernel
theorem dX11_chains_27 : decode cX11_chains 27 = .ok (.getfield 75, 3) := by decide +kernel
theorem dX11_chains_30 : decode cX11_chains 30 = .ok (.iload_n 1, 1) := by decide +kernel
theorem dX11_chains_31 : decode cX11_chains 31 = .ok (.aaload, 1) := by decide +kernel
theorem dX11_chains_32 : decode cX11_chains 32 = .ok (.invokevirtual 251, 3) := by decide +kernel
theorem dX11_chains_35 : decode cX11_chains 35 = .ok (.ifCond .ne 15, 3) := by decide +kernel
theorem dX11_chains_4 : decode cX11_chains 4 = .ok (.ifCond .eq 19, 3) := by decide +kernel
theorem dX11_chains_50 : decode cX11_chains 50 = .ok (.bipush (-11), 2) := by decide +kernel
theorem dX11_chains_52 : decode cX11_chains 52 = .ok (.ireturn, 1) := by decide +kernel
theorem dX11_chains_7 : decode cX11_chains 7 = .ok (.iload_n 2, 1) := by decide +kernel
theorem dX11_chains_8 : decode cX11_chains 8 = .ok (.invokestatic 248, 3) := by decide +kernel
theorem dX11_isSort_0 : decode cX11_isSort 0 = .ok (.iload_n 0, 1) := by decide +kernel
theorem dX11_isSort_1 : decode cX11_isSort 1 = .ok (.ifCond .eq 8, 3) := by decide +kernel
theorem dX11_isSort_10 : decode cX11_isSort 10 = .ok (.goto 4, 3) := by decide +kernel
theorem dX11_isSort_13 : decode cX11_isSort 13 = .ok (.iconst 0, 1) := by decide +kernel
theorem dX11_isSort_14 : decode cX11_isSort 14 = .ok (.ireturn, 1) := by decide +kernel
theorem dX11_isSort_4 : decode cX11_isSort 4 = .ok (.iload_n 0, 1) := by decide +kernel
theorem dX11_isSort_5 : decode cX11_isSort 5 = .ok (.iconst 1, 1) := by decide +kernel
theorem dX11_isSort_6 : decode cX11_isSort 6 = .ok (.if_icmp .ne 7, 3) := by decide +kernel
theorem dX11_isSort_9 : decode cX11_isSort 9 = .ok (.iconst 1, 1) := by decide +kernel
set_option maxRecDepth 20000 in
theorem ggX3_layFirst_X2_all : GoodIn wsX3_layFirst wsX2_all := goodIn_r _ [6, 7, 68, 69, 70] (by decide +kernel) (by decide +kernel)
set_option maxRecDepth 20000 in
theorem gX3_layFirst_X2_all : GoodIn wsX3_layFirst (wsV RX3 77 RX2 yX2_all wsX2_all) := goodIn_app (goodIn_of _ (by decide +kernel)) ggX3_layFirst_X2_all
theorem dX3_layFirst_0 : decode cX3_layFirst 0 = .ok (.aload_n 0, 1) := by decide +kernel
theorem dX3_layFirst_1 : decode cX3_layFirst 1 = .ok (.getfield 23, 3) := by decide +kernel
theorem dX3_layFirst_10 : decode cX3_layFirst 10 = .ok (.iload_n 3, 1) := by decide +kernel
theorem dX3_layFirst_11 : decode cX3_layFirst 11 = .ok (.aload_n 1, 1) := by decide +kernel
theorem dX3_layFirst_110 : decode cX3_layFirst 110 = .ok (.return_, 1) := by decide +kernel
theorem dX3_layFirst_12 : decode cX3_layFirst 12 = .ok (.arraylength, 1) := by decide +kernel
theorem dX3_layFirst_13 : decode cX3_layFirst 13 = .ok (.if_icmp .ge 13, 3) := by decide +kernel
theorem dX3_layFirst_16 : decode cX3_layFirst 16 = .ok (.aload_n 1, 1) := by decide +kernel
theorem dX3_layFirst_17 : decode cX3_layFirst 17 = .ok (.iload_n 3, 1) := by decide +kernel
theorem dX3_layFirst_18 : decode cX3_layFirst 18 = .ok (.iconst (-1), 1) := by decide +kernel
theorem dX3_layFirst_19 : decode cX3_layFirst 19 = .ok (.iastore, 1) := by decide +kernel
theorem dX3_layFirst_20 : decode cX3_layFirst 20 = .ok (.iinc 3 1, 3) := by decide +kernel
theorem dX3_layFirst_23 : decode cX3_layFirst 23 = .ok (.goto (-13), 3) := by decide +kernel
theorem dX3_layFirst_26 : decode cX3_layFirst 26 = .ok (.iconst 0, 1) := by decide +kernel
theorem dX3_layFirst_27 : decode cX3_layFirst 27 = .ok (.istore_n 3, 1) := by decide +kernel
theorem dX3_layFirst_28 : decode cX3_layFirst 28 = .ok (.iload_n 3, 1) := by decide +kernel
theorem dX3_layFirst_29 : decode cX3_layFirst 29 = .ok (.aload_n 0, 1) := by decide +kernel
theorem dX3_layFirst_30 : decode cX3_layFirst 30 = .ok (.getfield 23, 3) := by decide +kernel
theorem dX3_layFirst_33 : decode cX3_layFirst 33 = .ok (.getfield 81, 3) := by decide +kernel
theorem dX3_layFirst_36 : decode cX3_layFirst 36 = .ok (.if_icmp .ge 74, 3) := by decide +kernel
theorem dX3_layFirst_4 : decode cX3_layFirst 4 = .ok (.invokevirtual 77, 3) := by decide +kernel
theorem dX3_layFirst_7 : decode cX3_layFirst 7 = .ok (.istore_n 2, 1) := by decide +kernel
theorem dX3_layFirst_8 : decode cX3_layFirst 8 = .ok (.iconst 0, 1) := by decide +kernel
theorem dX3_layFirst_9 : decode cX3_layFirst 9 = .ok (.istore_n 3, 1) := by decide +kernel
set_option maxRecDepth 20000 in
theorem ggX9_becomeFirst_X3_layFirst : GoodIn wsX9_becomeFirst wsX3_layFirst := goodIn_r _ [7, 8, 9, 10, 11, 12, 13, 14, 15, 16, 17, 6, 18, 19, 20, 21, 22, 23, 24, 25, 26, 27, 28, 29, 30, 31, 32, 33, 34, 35, 36, 37, 38, 39, 40, 41, 42, 43, 44, 45, 46, 47, 48, 49, 50, 51, 52, 53, 54, 55, 56, 57, 58, 59, 60, 61, 62, 63, 64, 65, 66, 67, 68, 69, 76, 77, 78, 79, 80, 81, 82, 83, 84] (by decide +kernel) (by decide +kernel)
set_option maxRecDepth 20000 in
theorem gX9_becomeFirst_X3_layFirst : GoodIn wsX9_becomeFirst (wsV RX9 29 RX3 yX3_layFirst wsX3_layFirst) := goodIn_app (goodIn_of _ (by decide +kernel)) ggX9_becomeFirst_X3_layFirst
theorem dX9_becomeFirst_0 : decode cX9_becomeFirst 0 = .ok (.aload_n 0, 1) := by decide +kernel
theorem dX9_becomeFirst_1 : decode cX9_becomeFirst 1 = .ok (.getfield 25, 3) := by decide +kernel
theorem dX9_becomeFirst_11 : decode cX9_becomeFirst 11 = .ok (.return_, 1) := by decide +kernel
theorem dX9_becomeFirst_4 : decode cX9_becomeFirst 4 = .ok (.aload_n 0, 1) := by decide +kernel
theorem dX9_becomeFirst_5 : decode cX9_becomeFirst 5 = .ok (.getfield 9, 3) := by decide +kernel
theorem dX9_becomeFirst_8 : decode cX9_becomeFirst 8 = .ok (.invokevirtual 29, 3) := by decide +kernel
theorem dX8_byteAt_0 : decode cX8_byteAt 0 = .ok (.iload_n 1, 1) := by decide +kernel
theorem dX8_byteAt_1 : decode cX8_byteAt 1 = .ok (.ifCond .lt 26, 3) := by decide +kernel
theorem dX8_byteAt_27 : decode cX8_byteAt 27 = .ok (.iconst (-1), 1) := by decide +kernel
theorem dX8_byteAt_28 : decode cX8_byteAt 28 = .ok (.ireturn, 1) := by decide +kernel
theorem dX8_byteAt_4 : decode cX8_byteAt 4 = .ok (.iload_n 1, 1) := by decide +kernel
theorem dX8_byteAt_5 : decode cX8_byteAt 5 = .ok (.aload_n 0, 1) := by decide +kernel
theorem dX8_byteAt_6 : decode cX8_byteAt 6 = .ok (.getfield 15, 3) := by decide +kernel
theorem dX8_byteAt_9 : decode cX8_byteAt 9 = .ok (.if_icmp .ge 18, 3) := by decide +kernel
theorem dX5_tokenOf_0 : decode cX5_tokenOf 0 = .ok (.iload_n 0, 1) := by decide +kernel
theorem dX5_tokenOf_1 : decode cX5_tokenOf 1 = .ok (.ifCond .ge 5, 3) := by decide +kernel
theorem dX5_tokenOf_4 : decode cX5_tokenOf 4 = .ok (.iconst (-1), 1) := by decide +kernel
theorem dX5_tokenOf_5 : decode cX5_tokenOf 5 = .ok (.ireturn, 1) := by decide +kernel
set_option maxRecDepth 20000 in
theorem ggX5_step_X5_tokenOf : GoodIn wsX5_step wsX5_tokenOf := goodIn_r _ [16] (by decide +kernel) (by decide +kernel)
set_option maxRecDepth 20000 in
theorem gX5_step_X5_tokenOf : GoodIn wsX5_step (va_wsS RX5 54 yX5_tokenOf wsX5_tokenOf) := goodIn_app (goodIn_of _ (by decide +kernel)) ggX5_step_X5_tokenOf
set_option maxRecDepth 20000 in
theorem ggX5_step_X8_byteAt : GoodIn wsX5_step wsX8_byteAt := goodIn_r _ [10, 11, 12, 25, 26] (by decide +kernel) (by decide +kernel)
set_option maxRecDepth 20000 in
theorem gX5_step_X8_byteAt : GoodIn wsX5_step (wsV RX5 45 RX8 yX8_byteAt wsX8_byteAt) := goodIn_app (goodIn_of _ (by decide +kernel)) ggX5_step_X8_byteAt
theorem dX5_step_0 : decode cX5_step 0 = .ok (.iconst 0, 1) := by decide +kernel
theorem dX5_step_1 : decode cX5_step 1 = .ok (.istore_n 1, 1) := by decide +kernel
theorem dX5_step_102 : decode cX5_step 102 = .ok (.return_, 1) := by decide +kernel
theorem dX5_step_12 : decode cX5_step 12 = .ok (.aload_n 0, 1) := by decide +kernel
theorem dX5_step_13 : decode cX5_step 13 = .ok (.getfield 23, 3) := by decide +kernel
theorem dX5_step_16 : decode cX5_step 16 = .ok (.invokevirtual 45, 3) := by decide +kernel
theorem dX5_step_19 : decode cX5_step 19 = .ok (.bipush 32, 2) := by decide +kernel
theorem dX5_step_2 : decode cX5_step 2 = .ok (.iload_n 1, 1) := by decide +kernel
theorem dX5_step_21 : decode cX5_step 21 = .ok (.if_icmp .ne 19, 3) := by decide +kernel
theorem dX5_step_3 : decode cX5_step 3 = .ok (.bipush 120, 2) := by decide +kernel
theorem dX5_step_40 : decode cX5_step 40 = .ok (.aload_n 0, 1) := by decide +kernel
theorem dX5_step_41 : decode cX5_step 41 = .ok (.aload_n 0, 1) := by decide +kernel
theorem dX5_step_42 : decode cX5_step 42 = .ok (.getfield 23, 3) := by decide +kernel
theorem dX5_step_45 : decode cX5_step 45 = .ok (.putfield 42, 3) := by decide +kernel
theorem dX5_step_48 : decode cX5_step 48 = .ok (.aload_n 0, 1) := by decide +kernel
theorem dX5_step_49 : decode cX5_step 49 = .ok (.iconst 0, 1) := by decide +kernel
theorem dX5_step_5 : decode cX5_step 5 = .ok (.if_icmp .ge 35, 3) := by decide +kernel
theorem dX5_step_50 : decode cX5_step 50 = .ok (.putfield 51, 3) := by decide +kernel
theorem dX5_step_53 : decode cX5_step 53 = .ok (.aload_n 0, 1) := by decide +kernel
theorem dX5_step_54 : decode cX5_step 54 = .ok (.aload_n 0, 1) := by decide +kernel
theorem dX5_step_55 : decode cX5_step 55 = .ok (.getfield 15, 3) := by decide +kernel
theorem dX5_step_58 : decode cX5_step 58 = .ok (.aload_n 0, 1) := by decide +kernel
theorem dX5_step_59 : decode cX5_step 59 = .ok (.getfield 23, 3) := by decide +kernel
theorem dX5_step_62 : decode cX5_step 62 = .ok (.invokevirtual 45, 3) := by decide +kernel
theorem dX5_step_65 : decode cX5_step 65 = .ok (.invokestatic 54, 3) := by decide +kernel
theorem dX5_step_68 : decode cX5_step 68 = .ok (.putfield 36, 3) := by decide +kernel
theorem dX5_step_71 : decode cX5_step 71 = .ok (.aload_n 0, 1) := by decide +kernel
theorem dX5_step_72 : decode cX5_step 72 = .ok (.getfield 36, 3) := by decide +kernel
theorem dX5_step_75 : decode cX5_step 75 = .ok (.bipush (-2), 2) := by decide +kernel
theorem dX5_step_77 : decode cX5_step 77 = .ok (.if_icmp .eq 26, 3) := by decide +kernel
theorem dX5_step_8 : decode cX5_step 8 = .ok (.aload_n 0, 1) := by decide +kernel
theorem dX5_step_80 : decode cX5_step 80 = .ok (.aload_n 0, 1) := by decide +kernel
theorem dX5_step_81 : decode cX5_step 81 = .ok (.dup, 1) := by decide +kernel
theorem dX5_step_82 : decode cX5_step 82 = .ok (.getfield 23, 3) := by decide +kernel
theorem dX5_step_85 : decode cX5_step 85 = .ok (.aload_n 0, 1) := by decide +kernel
theorem dX5_step_86 : decode cX5_step 86 = .ok (.getfield 36, 3) := by decide +kernel
theorem dX5_step_89 : decode cX5_step 89 = .ok (.iconst (-1), 1) := by decide +kernel
theorem dX5_step_9 : decode cX5_step 9 = .ok (.getfield 15, 3) := by decide +kernel
theorem dX5_step_90 : decode cX5_step 90 = .ok (.if_icmp .ne 7, 3) := by decide +kernel
theorem dX5_step_93 : decode cX5_step 93 = .ok (.iconst 0, 1) := by decide +kernel
theorem dX5_step_94 : decode cX5_step 94 = .ok (.goto 4, 3) := by decide +kernel
theorem dX5_step_98 : decode cX5_step 98 = .ok (.iadd, 1) := by decide +kernel
theorem dX5_step_99 : decode cX5_step 99 = .ok (.putfield 23, 3) := by decide +kernel
theorem dX5_fail_0 : decode cX5_fail 0 = .ok (.aload_n 0, 1) := by decide +kernel
theorem dX5_fail_1 : decode cX5_fail 1 = .ok (.getfield 27, 3) := by decide +kernel
theorem dX5_fail_12 : decode cX5_fail 12 = .ok (.putfield 27, 3) := by decide +kernel
theorem dX5_fail_15 : decode cX5_fail 15 = .ok (.return_, 1) := by decide +kernel
theorem dX5_fail_4 : decode cX5_fail 4 = .ok (.ifCond .ge 11, 3) := by decide +kernel
theorem dX5_fail_7 : decode cX5_fail 7 = .ok (.aload_n 0, 1) := by decide +kernel
theorem dX5_fail_8 : decode cX5_fail 8 = .ok (.aload_n 0, 1) := by decide +kernel
theorem dX5_fail_9 : decode cX5_fail 9 = .ok (.getfield 42, 3) := by decide +kernel
set_option maxRecDepth 20000 in
theorem ggX5_readItem_X5_fail : GoodIn wsX5_readItem wsX5_fail := goodIn_r _ [22, 23, 24, 57, 58, 59, 60, 61, 62, 63, 64] (by decide +kernel) (by decide +kernel)
set_option maxRecDepth 20000 in
theorem gX5_readItem_X5_fail : GoodIn wsX5_readItem (wsV RX5 39 RX5 yX5_fail wsX5_fail) := goodIn_app (goodIn_of _ (by decide +kernel)) ggX5_readItem_X5_fail
theorem dX5_readItem_0 : decode cX5_readItem 0 = .ok (.aload_n 0, 1) := by decide +kernel
theorem dX5_readItem_1 : decode cX5_readItem 1 = .ok (.getfield 36, 3) := by decide +kernel
theorem dX5_readItem_16 : decode cX5_readItem 16 = .ok (.aload_n 0, 1) := by decide +kernel
theorem dX5_readItem_17 : decode cX5_readItem 17 = .ok (.getfield 36, 3) := by decide +kernel
theorem dX5_readItem_20 : decode cX5_readItem 20 = .ok (.bipush 40, 2) := by decide +kernel
theorem dX5_readItem_22 : decode cX5_readItem 22 = .ok (.if_icmp .ne 13, 3) := by decide +kernel
theorem dX5_readItem_35 : decode cX5_readItem 35 = .ok (.aload_n 0, 1) := by decide +kernel
theorem dX5_readItem_36 : decode cX5_readItem 36 = .ok (.getfield 36, 3) := by decide +kernel
theorem dX5_readItem_39 : decode cX5_readItem 39 = .ok (.bipush 91, 2) := by decide +kernel
theorem dX5_readItem_4 : decode cX5_readItem 4 = .ok (.bipush (-2), 2) := by decide +kernel
theorem dX5_readItem_41 : decode cX5_readItem 41 = .ok (.if_icmp .ne 13, 3) := by decide +kernel
theorem dX5_readItem_54 : decode cX5_readItem 54 = .ok (.aload_n 0, 1) := by decide +kernel
theorem dX5_readItem_55 : decode cX5_readItem 55 = .ok (.invokevirtual 39, 3) := by decide +kernel
theorem dX5_readItem_58 : decode cX5_readItem 58 = .ok (.return_, 1) := by decide +kernel
theorem dX5_readItem_6 : decode cX5_readItem 6 = .ok (.if_icmp .ne 10, 3) := by decide +kernel
set_option maxRecDepth 20000 in
theorem ggX5_readAll_X5_readItem : GoodIn wsX5_readAll wsX5_readItem := goodIn_r _ [26, 4, 27, 28, 29, 8, 30, 31, 32, 33, 34, 35, 12, 36, 37, 38, 39, 40, 41, 42, 43, 44, 45, 3, 11, 5, 6, 7, 9, 10, 2, 13, 14, 15, 16, 17, 18, 19, 20, 21, 22, 46, 47, 48, 49, 1, 50, 51, 52, 53, 54, 55, 56, 57, 58, 59, 60, 61, 62, 63, 64, 65, 66, 67, 68, 71, 72, 73, 69, 70] (by decide +kernel) (by decide +kernel)
set_option maxRecDepth 20000 in
theorem gX5_readAll_X5_readItem : GoodIn wsX5_readAll (wsV RX5 33 RX5 yX5_readItem wsX5_readItem) := goodIn_app (goodIn_of _ (by decide +kernel)) ggX5_readAll_X5_readItem
set_option maxRecDepth 20000 in
theorem ggX5_readAll_X5_step : GoodIn wsX5_readAll wsX5_step := goodIn_r _ [9, 10, 2, 11, 12, 4, 13, 14, 15, 16, 17, 18, 19, 20, 21, 8, 22, 61, 62, 63, 64, 65, 66, 67, 68, 69, 70] (by decide +kernel) (by decide +kernel)
set_option maxRecDepth 20000 in
theorem gX5_readAll_X5_step : GoodIn wsX5_readAll (wsV RX5 30 RX5 yX5_step wsX5_step) := goodIn_app (goodIn_of _ (by decide +kernel)) ggX5_readAll_X5_step
theorem dX5_readAll_0 : decode cX5_readAll 0 = .ok (.iconst 0, 1) := by decide +kernel
theorem dX5_readAll_1 : decode cX5_readAll 1 = .ok (.istore_n 1, 1) := by decide +kernel
theorem dX5_readAll_12 : decode cX5_readAll 12 = .ok (.iload_n 1, 1) := by decide +kernel
theorem dX5_readAll_13 : decode cX5_readAll 13 = .ok (.iconst 0, 1) := by decide +kernel
theorem dX5_readAll_14 : decode cX5_readAll 14 = .ok (.iastore, 1) := by decide +kernel
theorem dX5_readAll_15 : decode cX5_readAll 15 = .ok (.iinc 1 1, 3) := by decide +kernel
theorem dX5_readAll_18 : decode cX5_readAll 18 = .ok (.goto (-16), 3) := by decide +kernel
theorem dX5_readAll_2 : decode cX5_readAll 2 = .ok (.iload_n 1, 1) := by decide +kernel
theorem dX5_readAll_21 : decode cX5_readAll 21 = .ok (.aload_n 0, 1) := by decide +kernel
theorem dX5_readAll_22 : decode cX5_readAll 22 = .ok (.iconst 0, 1) := by decide +kernel
theorem dX5_readAll_23 : decode cX5_readAll 23 = .ok (.putfield 23, 3) := by decide +kernel
theorem dX5_readAll_26 : decode cX5_readAll 26 = .ok (.aload_n 0, 1) := by decide +kernel
theorem dX5_readAll_27 : decode cX5_readAll 27 = .ok (.iconst (-1), 1) := by decide +kernel
theorem dX5_readAll_28 : decode cX5_readAll 28 = .ok (.putfield 27, 3) := by decide +kernel
theorem dX5_readAll_3 : decode cX5_readAll 3 = .ok (.bipush 12, 2) := by decide +kernel
theorem dX5_readAll_31 : decode cX5_readAll 31 = .ok (.aload_n 0, 1) := by decide +kernel
theorem dX5_readAll_32 : decode cX5_readAll 32 = .ok (.invokevirtual 30, 3) := by decide +kernel
theorem dX5_readAll_35 : decode cX5_readAll 35 = .ok (.aload_n 0, 1) := by decide +kernel
theorem dX5_readAll_36 : decode cX5_readAll 36 = .ok (.invokevirtual 33, 3) := by decide +kernel
theorem dX5_readAll_39 : decode cX5_readAll 39 = .ok (.iconst 0, 1) := by decide +kernel
theorem dX5_readAll_40 : decode cX5_readAll 40 = .ok (.istore_n 1, 1) := by decide +kernel
theorem dX5_readAll_41 : decode cX5_readAll 41 = .ok (.iload_n 1, 1) := by decide +kernel
theorem dX5_readAll_42 : decode cX5_readAll 42 = .ok (.bipush 120, 2) := by decide +kernel
theorem dX5_readAll_44 : decode cX5_readAll 44 = .ok (.if_icmp .ge 33, 3) := by decide +kernel
theorem dX5_readAll_47 : decode cX5_readAll 47 = .ok (.aload_n 0, 1) := by decide +kernel
theorem dX5_readAll_48 : decode cX5_readAll 48 = .ok (.getfield 27, 3) := by decide +kernel
theorem dX5_readAll_5 : decode cX5_readAll 5 = .ok (.if_icmp .ge 16, 3) := by decide +kernel
theorem dX5_readAll_51 : decode cX5_readAll 51 = .ok (.ifCond .ge 26, 3) := by decide +kernel
theorem dX5_readAll_77 : decode cX5_readAll 77 = .ok (.aload_n 0, 1) := by decide +kernel
theorem dX5_readAll_78 : decode cX5_readAll 78 = .ok (.getfield 36, 3) := by decide +kernel
theorem dX5_readAll_8 : decode cX5_readAll 8 = .ok (.aload_n 0, 1) := by decide +kernel
theorem dX5_readAll_81 : decode cX5_readAll 81 = .ok (.iconst (-1), 1) := by decide +kernel
theorem dX5_readAll_82 : decode cX5_readAll 82 = .ok (.if_icmp .eq 7, 3) := by decide +kernel
theorem dX5_readAll_89 : decode cX5_readAll 89 = .ok (.aload_n 0, 1) := by decide +kernel
theorem dX5_readAll_9 : decode cX5_readAll 9 = .ok (.getfield 9, 3) := by decide +kernel
theorem dX5_readAll_90 : decode cX5_readAll 90 = .ok (.getfield 27, 3) := by decide +kernel
theorem dX5_readAll_93 : decode cX5_readAll 93 = .ok (.ireturn, 1) := by decide +kernel
theorem dX11_isShelf_0 : decode cX11_isShelf 0 = .ok (.iload_n 0, 1) := by decide +kernel
theorem dX11_isShelf_1 : decode cX11_isShelf 1 = .ok (.ifCond .lt 12, 3) := by decide +kernel
theorem dX11_isShelf_10 : decode cX11_isShelf 10 = .ok (.goto 4, 3) := by decide +kernel
theorem dX11_isShelf_13 : decode cX11_isShelf 13 = .ok (.iconst 0, 1) := by decide +kernel
theorem dX11_isShelf_14 : decode cX11_isShelf 14 = .ok (.ireturn, 1) := by decide +kernel
theorem dX11_isShelf_4 : decode cX11_isShelf 4 = .ok (.iload_n 0, 1) := by decide +kernel
theorem dX11_isShelf_5 : decode cX11_isShelf 5 = .ok (.iconst 4, 1) := by decide +kernel
theorem dX11_isShelf_6 : decode cX11_isShelf 6 = .ok (.if_icmp .ge 7, 3) := by decide +kernel
theorem dX11_isShelf_9 : decode cX11_isShelf 9 = .ok (.iconst 1, 1) := by decide +kernel
set_option maxRecDepth 20000 in
theorem ggX11_shelvePoint_X2_hasPoint : GoodIn wsX11_shelvePoint wsX2_hasPoint := goodIn_r _ [8, 9, 101, 102, 103] (by decide +kernel) (by decide +kernel)
set_option maxRecDepth 20000 in
theorem gX11_shelvePoint_X2_hasPoint : GoodIn wsX11_shelvePoint (wsV RX11 116 RX2 yX2_hasPoint wsX2_hasPoint) := goodIn_app (goodIn_of _ (by decide +kernel)) ggX11_shelvePoint_X2_hasPoint
theorem dX11_shelvePoint_0 : decode cX11_shelvePoint 0 = .ok (.aload_n 0, 1) := by decide +kernel
theorem dX11_shelvePoint_1 : decode cX11_shelvePoint 1 = .ok (.getfield 12, 3) := by decide +kernel
theorem dX11_shelvePoint_11 : decode cX11_shelvePoint 11 = .ok (.bipush (-2), 2) := by decide +kernel
theorem dX11_shelvePoint_13 : decode cX11_shelvePoint 13 = .ok (.ireturn, 1) := by decide +kernel
theorem dX11_shelvePoint_4 : decode cX11_shelvePoint 4 = .ok (.iload_n 2, 1) := by decide +kernel
theorem dX11_shelvePoint_5 : decode cX11_shelvePoint 5 = .ok (.invokevirtual 116, 3) := by decide +kernel
theorem dX11_shelvePoint_8 : decode cX11_shelvePoint 8 = .ok (.ifCond .ne 6, 3) := by decide +kernel
set_option maxRecDepth 20000 in
theorem ggX11_shelvePiece_X2_pieceAt : GoodIn wsX11_shelvePiece wsX2_pieceAt := goodIn_r _ [74, 69, 75, 18, 19, 20, 21, 22, 76, 77, 78, 79, 80, 47, 81, 82, 83, 84, 49, 117, 118, 119] (by decide +kernel) (by decide +kernel)
set_option maxRecDepth 20000 in
theorem gX11_shelvePiece_X2_pieceAt : GoodIn wsX11_shelvePiece (wsV RX11 169 RX2 yX2_pieceAt wsX2_pieceAt) := goodIn_app (goodIn_of _ (by decide +kernel)) ggX11_shelvePiece_X2_pieceAt
set_option maxRecDepth 20000 in
theorem ggX11_shelvePiece_X4_allOf : GoodIn wsX11_shelvePiece wsX4_allOf := goodIn_r _ [8, 9, 10, 11, 12, 13, 14, 15, 16, 17, 18, 19, 20, 21, 22, 23, 24, 25, 26, 27, 28, 29, 30, 31, 32, 33, 34, 35, 36, 37, 38, 39, 40, 41, 42, 43, 44, 45, 46, 47, 48, 49, 50, 51, 52, 53, 54, 55, 56, 57, 58, 59, 60, 61, 62, 63, 64, 65, 66, 67, 68, 69, 70, 111, 112, 113, 114, 115, 116, 117, 118, 119, 120, 121] (by decide +kernel) (by decide +kernel)
set_option maxRecDepth 20000 in
theorem gX11_shelvePiece_X4_allOf : GoodIn wsX11_shelvePiece (wsV RX11 163 RX4 yX4_allOf wsX4_allOf) := goodIn_app (goodIn_of _ (by decide +kernel)) ggX11_shelvePiece_X4_allOf
theorem dX11_shelvePiece_0 : decode cX11_shelvePiece 0 = .ok (.aload_n 0, 1) := by decide +kernel
theorem dX11_shelvePiece_1 : decode cX11_shelvePiece 1 = .ok (.getfield 12, 3) := by decide +kernel
theorem dX11_shelvePiece_12 : decode cX11_shelvePiece 12 = .ok (.iload 4, 2) := by decide +kernel
theorem dX11_shelvePiece_14 : decode cX11_shelvePiece 14 = .ok (.invokevirtual 169, 3) := by decide +kernel
theorem dX11_shelvePiece_17 : decode cX11_shelvePiece 17 = .ok (.istore 5, 2) := by decide +kernel
theorem dX11_shelvePiece_19 : decode cX11_shelvePiece 19 = .ok (.iload 5, 2) := by decide +kernel
theorem dX11_shelvePiece_21 : decode cX11_shelvePiece 21 = .ok (.ifCond .ne 8, 3) := by decide +kernel
theorem dX11_shelvePiece_24 : decode cX11_shelvePiece 24 = .ok (.bipush (-2), 2) := by decide +kernel
theorem dX11_shelvePiece_26 : decode cX11_shelvePiece 26 = .ok (.goto 14, 3) := by decide +kernel
theorem dX11_shelvePiece_4 : decode cX11_shelvePiece 4 = .ok (.aload_n 0, 1) := by decide +kernel
theorem dX11_shelvePiece_40 : decode cX11_shelvePiece 40 = .ok (.ireturn, 1) := by decide +kernel
theorem dX11_shelvePiece_5 : decode cX11_shelvePiece 5 = .ok (.getfield 30, 3) := by decide +kernel
theorem dX11_shelvePiece_8 : decode cX11_shelvePiece 8 = .ok (.iload_n 3, 1) := by decide +kernel
theorem dX11_shelvePiece_9 : decode cX11_shelvePiece 9 = .ok (.invokevirtual 163, 3) := by decide +kernel
set_option maxRecDepth 20000 in
theorem ggX7_put_X11_isShelf : GoodIn wsX7_put wsX11_isShelf := goodIn_r _ [5] (by decide +kernel) (by decide +kernel)
set_option maxRecDepth 20000 in
theorem gX7_put_X11_isShelf_n18 : GoodIn wsX7_put (wsX11_isShelf) := ggX7_put_X11_isShelf
theorem dX7_put_0 : decode cX7_put 0 = .ok (.iload_n 1, 1) := by decide +kernel
theorem dX7_put_1 : decode cX7_put 1 = .ok (.invokestatic 18, 3) := by decide +kernel
theorem dX7_put_10 : decode cX7_put 10 = .ok (.aload_n 0, 1) := by decide +kernel
theorem dX7_put_11 : decode cX7_put 11 = .ok (.getfield 11, 3) := by decide +kernel
theorem dX7_put_14 : decode cX7_put 14 = .ok (.iload_n 1, 1) := by decide +kernel
theorem dX7_put_15 : decode cX7_put 15 = .ok (.iload_n 2, 1) := by decide +kernel
theorem dX7_put_16 : decode cX7_put 16 = .ok (.iastore, 1) := by decide +kernel
theorem dX7_put_17 : decode cX7_put 17 = .ok (.aload_n 0, 1) := by decide +kernel
theorem dX7_put_18 : decode cX7_put 18 = .ok (.getfield 15, 3) := by decide +kernel
theorem dX7_put_21 : decode cX7_put 21 = .ok (.iload_n 1, 1) := by decide +kernel
theorem dX7_put_22 : decode cX7_put 22 = .ok (.iload_n 3, 1) := by decide +kernel
theorem dX7_put_23 : decode cX7_put 23 = .ok (.iastore, 1) := by decide +kernel
theorem dX7_put_24 : decode cX7_put 24 = .ok (.iconst 1, 1) := by decide +kernel
theorem dX7_put_25 : decode cX7_put 25 = .ok (.ireturn, 1) := by decide +kernel
theorem dX7_put_4 : decode cX7_put 4 = .ok (.ifCond .ne 6, 3) := by decide +kernel
theorem dX7_put_7 : decode cX7_put 7 = .ok (.bipush (-2), 2) := by decide +kernel
theorem dX7_put_9 : decode cX7_put 9 = .ok (.ireturn, 1) := by decide +kernel
set_option maxRecDepth 20000 in
theorem ggX11_shelveArea_X2_hasAll : GoodIn wsX11_shelveArea wsX2_hasAll := goodIn_r _ [7, 8, 9, 10, 6, 11, 12, 39, 40, 41] (by decide +kernel) (by decide +kernel)
set_option maxRecDepth 20000 in
theorem gX11_shelveArea_X2_hasAll : GoodIn wsX11_shelveArea (wsV RX11 144 RX2 yX2_hasAll wsX2_hasAll) := goodIn_app (goodIn_of _ (by decide +kernel)) ggX11_shelveArea_X2_hasAll
set_option maxRecDepth 20000 in
theorem ggX11_shelveArea_X7_put : GoodIn wsX11_shelveArea wsX7_put := goodIn_r _ [17, 18, 19, 20, 21, 22, 42, 43] (by decide +kernel) (by decide +kernel)
set_option maxRecDepth 20000 in
theorem gX11_shelveArea_X7_put : GoodIn wsX11_shelveArea (wsV RX11 302 RX7 yX7_put wsX7_put) := goodIn_app (goodIn_of _ (by decide +kernel)) ggX11_shelveArea_X7_put
theorem dX11_shelveArea_0 : decode cX11_shelveArea 0 = .ok (.aload_n 0, 1) := by decide +kernel
theorem dX11_shelveArea_1 : decode cX11_shelveArea 1 = .ok (.getfield 12, 3) := by decide +kernel
theorem dX11_shelveArea_11 : decode cX11_shelveArea 11 = .ok (.aload_n 0, 1) := by decide +kernel
theorem dX11_shelveArea_12 : decode cX11_shelveArea 12 = .ok (.getfield 92, 3) := by decide +kernel
theorem dX11_shelveArea_15 : decode cX11_shelveArea 15 = .ok (.iload_n 1, 1) := by decide +kernel
theorem dX11_shelveArea_16 : decode cX11_shelveArea 16 = .ok (.iconst 2, 1) := by decide +kernel
theorem dX11_shelveArea_17 : decode cX11_shelveArea 17 = .ok (.iload_n 2, 1) := by decide +kernel
theorem dX11_shelveArea_18 : decode cX11_shelveArea 18 = .ok (.invokevirtual 302, 3) := by decide +kernel
theorem dX11_shelveArea_21 : decode cX11_shelveArea 21 = .ok (.goto 5, 3) := by decide +kernel
theorem dX11_shelveArea_24 : decode cX11_shelveArea 24 = .ok (.bipush (-2), 2) := by decide +kernel
theorem dX11_shelveArea_26 : decode cX11_shelveArea 26 = .ok (.ireturn, 1) := by decide +kernel
theorem dX11_shelveArea_4 : decode cX11_shelveArea 4 = .ok (.iload_n 2, 1) := by decide +kernel
theorem dX11_shelveArea_5 : decode cX11_shelveArea 5 = .ok (.invokevirtual 144, 3) := by decide +kernel
theorem dX11_shelveArea_8 : decode cX11_shelveArea 8 = .ok (.ifCond .eq 16, 3) := by decide +kernel
set_option maxRecDepth 20000 in
theorem ggX11_shelveRow_X11_refusalOfSheet : GoodIn wsX11_shelveRow wsX11_refusalOfSheet := goodIn_r _ [7, 2, 8, 9, 6, 10, 11, 12, 13, 14, 15, 16, 26, 27, 28, 29, 30, 31, 32, 33, 34, 35, 36, 37, 38, 39, 40, 41, 42, 43, 44] (by decide +kernel) (by decide +kernel)
set_option maxRecDepth 20000 in
theorem gX11_shelveRow_X11_refusalOfSheet : GoodIn wsX11_shelveRow (wsV RX11 218 RX11 yX11_refusalOfSheet wsX11_refusalOfSheet) := goodIn_app (goodIn_of _ (by decide +kernel)) ggX11_shelveRow_X11_refusalOfSheet
theorem dX11_shelveRow_0 : decode cX11_shelveRow 0 = .ok (.aload_n 0, 1) := by decide +kernel
theorem dX11_shelveRow_1 : decode cX11_shelveRow 1 = .ok (.iload_n 2, 1) := by decide +kernel
theorem dX11_shelveRow_10 : decode cX11_shelveRow 10 = .ok (.iload_n 3, 1) := by decide +kernel
theorem dX11_shelveRow_11 : decode cX11_shelveRow 11 = .ok (.ireturn, 1) := by decide +kernel
theorem dX11_shelveRow_2 : decode cX11_shelveRow 2 = .ok (.invokevirtual 218, 3) := by decide +kernel
theorem dX11_shelveRow_5 : decode cX11_shelveRow 5 = .ok (.istore_n 3, 1) := by decide +kernel
theorem dX11_shelveRow_6 : decode cX11_shelveRow 6 = .ok (.iload_n 3, 1) := by decide +kernel
theorem dX11_shelveRow_7 : decode cX11_shelveRow 7 = .ok (.ifCond .eq 5, 3) := by decide +kernel
set_option maxRecDepth 20000 in
theorem ggX11_shelf_X11_isShelf : GoodIn wsX11_shelf wsX11_isShelf := goodIn_r _ [5] (by decide +kernel) (by decide +kernel)
set_option maxRecDepth 20000 in
theorem gX11_shelf_X11_isShelf : GoodIn wsX11_shelf (va_wsS RX11 286 yX11_isShelf wsX11_isShelf) := goodIn_app (goodIn_of _ (by decide +kernel)) ggX11_shelf_X11_isShelf
set_option maxRecDepth 20000 in
theorem ggX11_shelf_X11_shelveArea : GoodIn wsX11_shelf wsX11_shelveArea := goodIn_r _ [120, 10, 1, 121, 122, 123, 15, 124, 107, 32, 33, 34, 17, 83, 84, 85, 86, 87, 88, 89, 3, 4, 5, 143, 144, 145, 146, 147, 148, 149, 150, 151, 152, 153, 154, 155, 156, 157, 158, 159, 160, 161, 170, 171] (by decide +kernel) (by decide +kernel)
set_option maxRecDepth 20000 in
theorem gX11_shelf_X11_shelveArea : GoodIn wsX11_shelf (wsV RX11 296 RX11 yX11_shelveArea wsX11_shelveArea) := goodIn_app (goodIn_of _ (by decide +kernel)) ggX11_shelf_X11_shelveArea
set_option maxRecDepth 20000 in
theorem ggX11_shelf_X11_shelvePiece : GoodIn wsX11_shelf wsX11_shelvePiece := goodIn_r _ [93, 10, 11, 1, 94, 95, 96, 21, 97, 23, 24, 25, 26, 27, 28, 29, 30, 31, 32, 33, 15, 34, 17, 35, 36, 37, 38, 39, 40, 41, 42, 43, 44, 45, 46, 47, 48, 49, 50, 51, 52, 53, 54, 55, 56, 57, 58, 59, 60, 61, 62, 63, 64, 65, 66, 67, 68, 69, 70, 71, 72, 73, 74, 75, 76, 98, 99, 100, 101, 81, 102, 103, 104, 105, 106, 107, 108, 109, 110, 111, 112, 113, 114, 115, 116, 83, 84, 85, 86, 87, 88, 89, 3, 4, 5, 143, 144, 145, 146, 147, 148, 149, 150, 151, 152, 153, 154, 155, 156, 157, 158, 162, 163, 164, 165, 166, 167, 159, 160, 161, 168, 169, 170, 171] (by decide +kernel) (by decide +kernel)
set_option maxRecDepth 20000 in
theorem gX11_shelf_X11_shelvePiece : GoodIn wsX11_shelf (wsV RX11 292 RX11 yX11_shelvePiece wsX11_shelvePiece) := goodIn_app (goodIn_of _ (by decide +kernel)) ggX11_shelf_X11_shelvePiece
set_option maxRecDepth 20000 in
theorem ggX11_shelf_X11_shelvePoint : GoodIn wsX11_shelf wsX11_shelvePoint := goodIn_r _ [9, 10, 1, 11, 12, 13, 14, 15, 16, 17, 18, 19, 20, 21, 22, 23, 24, 25, 26, 27, 28, 29, 30, 31, 32, 33, 34, 35, 36, 37, 38, 39, 40, 41, 42, 43, 44, 45, 46, 47, 48, 49, 50, 51, 52, 53, 54, 55, 56, 57, 58, 59, 60, 61, 62, 63, 64, 65, 66, 67, 68, 69, 70, 71, 72, 73, 74, 75, 76, 77, 78, 79, 80, 81, 82, 83, 84, 85, 86, 87, 88, 89, 3, 4, 5, 143, 144, 145, 146, 147, 148, 149, 150, 151, 152, 153, 154, 155, 156, 157, 158, 159, 160, 161, 162, 163, 164, 165, 166, 167, 168, 169, 170, 171] (by decide +kernel) (by decide +kernel)
set_option maxRecDepth 20000 in
theorem gX11_shelf_X11_shelvePoint : GoodIn wsX11_shelf (wsV RX11 289 RX11 yX11_shelvePoint wsX11_shelvePoint) := goodIn_app (goodIn_of _ (by decide +kernel)) ggX11_shelf_X11_shelvePoint
set_option maxRecDepth 20000 in
theorem ggX11_shelf_X11_shelveRow : GoodIn wsX11_shelf wsX11_shelveRow := goodIn_r _ [128, 1, 129, 130, 131, 132, 4, 133, 134, 135, 136, 137, 138, 139, 140, 141, 142, 83, 84, 85, 86, 87, 88, 89, 3, 5, 143, 144, 145, 146, 147, 148, 149, 150, 151, 152, 153, 154, 155, 156, 157, 158, 172, 173, 174, 170, 171] (by decide +kernel) (by decide +kernel)
set_option maxRecDepth 20000 in
theorem gX11_shelf_X11_shelveRow : GoodIn wsX11_shelf (wsV RX11 299 RX11 yX11_shelveRow wsX11_shelveRow) := goodIn_app (goodIn_of _ (by decide +kernel)) ggX11_shelf_X11_shelveRow
set_option maxRecDepth 20000 in
theorem ggX11_shelf_X7_put : GoodIn wsX11_shelf wsX7_put := goodIn_r _ [87, 88, 89, 3, 4, 5, 170, 171] (by decide +kernel) (by decide +kernel)
set_option maxRecDepth 20000 in
theorem gX11_shelf_X7_put : GoodIn wsX11_shelf (wsV RX11 302 RX7 yX7_put wsX7_put) := goodIn_app (goodIn_of _ (by decide +kernel)) ggX11_shelf_X7_put
theorem dX11_shelf_0 : decode cX11_shelf 0 = .ok (.iload_n 1, 1) := by decide +kernel
theorem dX11_shelf_1 : decode cX11_shelf 1 = .ok (.invokestatic 286, 3) := by decide +kernel
theorem dX11_shelf_10 : decode cX11_shelf 10 = .ok (.iload_n 2, 1) := by decide +kernel
theorem dX11_shelf_100 : decode cX11_shelf 100 = .ok (.ireturn, 1) := by decide +kernel
theorem dX11_shelf_11 : decode cX11_shelf 11 = .ok (.tableswitch 87 0 5 #[37, 44, 53, 62, 69, 76], 37) := by decide +kernel
theorem dX11_shelf_4 : decode cX11_shelf 4 = .ok (.ifCond .ne 6, 3) := by decide +kernel
theorem dX11_shelf_48 : decode cX11_shelf 48 = .ok (.aload_n 0, 1) := by decide +kernel
theorem dX11_shelf_49 : decode cX11_shelf 49 = .ok (.iload_n 1, 1) := by decide +kernel
theorem dX11_shelf_50 : decode cX11_shelf 50 = .ok (.iload_n 3, 1) := by decide +kernel
theorem dX11_shelf_51 : decode cX11_shelf 51 = .ok (.invokevirtual 289, 3) := by decide +kernel
theorem dX11_shelf_54 : decode cX11_shelf 54 = .ok (.ireturn, 1) := by decide +kernel
theorem dX11_shelf_55 : decode cX11_shelf 55 = .ok (.aload_n 0, 1) := by decide +kernel
theorem dX11_shelf_56 : decode cX11_shelf 56 = .ok (.iload_n 1, 1) := by decide +kernel
theorem dX11_shelf_57 : decode cX11_shelf 57 = .ok (.iconst 4, 1) := by decide +kernel
theorem dX11_shelf_58 : decode cX11_shelf 58 = .ok (.iconst 0, 1) := by decide +kernel
theorem dX11_shelf_59 : decode cX11_shelf 59 = .ok (.iload_n 3, 1) := by decide +kernel
theorem dX11_shelf_60 : decode cX11_shelf 60 = .ok (.invokevirtual 292, 3) := by decide +kernel
theorem dX11_shelf_63 : decode cX11_shelf 63 = .ok (.ireturn, 1) := by decide +kernel
theorem dX11_shelf_64 : decode cX11_shelf 64 = .ok (.aload_n 0, 1) := by decide +kernel
theorem dX11_shelf_65 : decode cX11_shelf 65 = .ok (.iload_n 1, 1) := by decide +kernel
theorem dX11_shelf_66 : decode cX11_shelf 66 = .ok (.iconst 5, 1) := by decide +kernel
theorem dX11_shelf_67 : decode cX11_shelf 67 = .ok (.iconst 2, 1) := by decide +kernel
theorem dX11_shelf_68 : decode cX11_shelf 68 = .ok (.iload_n 3, 1) := by decide +kernel
theorem dX11_shelf_69 : decode cX11_shelf 69 = .ok (.invokevirtual 292, 3) := by decide +kernel
theorem dX11_shelf_7 : decode cX11_shelf 7 = .ok (.bipush (-2), 2) := by decide +kernel
theorem dX11_shelf_72 : decode cX11_shelf 72 = .ok (.ireturn, 1) := by decide +kernel
theorem dX11_shelf_73 : decode cX11_shelf 73 = .ok (.aload_n 0, 1) := by decide +kernel
theorem dX11_shelf_74 : decode cX11_shelf 74 = .ok (.iload_n 1, 1) := by decide +kernel
theorem dX11_shelf_75 : decode cX11_shelf 75 = .ok (.iload_n 3, 1) := by decide +kernel
theorem dX11_shelf_76 : decode cX11_shelf 76 = .ok (.invokevirtual 296, 3) := by decide +kernel
theorem dX11_shelf_79 : decode cX11_shelf 79 = .ok (.ireturn, 1) := by decide +kernel
theorem dX11_shelf_80 : decode cX11_shelf 80 = .ok (.aload_n 0, 1) := by decide +kernel
theorem dX11_shelf_81 : decode cX11_shelf 81 = .ok (.iload_n 1, 1) := by decide +kernel
theorem dX11_shelf_82 : decode cX11_shelf 82 = .ok (.iload_n 3, 1) := by decide +kernel
theorem dX11_shelf_83 : decode cX11_shelf 83 = .ok (.invokevirtual 299, 3) := by decide +kernel
theorem dX11_shelf_86 : decode cX11_shelf 86 = .ok (.ireturn, 1) := by decide +kernel
theorem dX11_shelf_87 : decode cX11_shelf 87 = .ok (.aload_n 0, 1) := by decide +kernel
theorem dX11_shelf_88 : decode cX11_shelf 88 = .ok (.getfield 92, 3) := by decide +kernel
theorem dX11_shelf_9 : decode cX11_shelf 9 = .ok (.ireturn, 1) := by decide +kernel
theorem dX11_shelf_91 : decode cX11_shelf 91 = .ok (.iload_n 1, 1) := by decide +kernel
theorem dX11_shelf_92 : decode cX11_shelf 92 = .ok (.iconst (-1), 1) := by decide +kernel
theorem dX11_shelf_93 : decode cX11_shelf 93 = .ok (.iconst 0, 1) := by decide +kernel
theorem dX11_shelf_94 : decode cX11_shelf 94 = .ok (.invokevirtual 302, 3) := by decide +kernel
theorem dX11_shelf_97 : decode cX11_shelf 97 = .ok (.ireturn, 1) := by decide +kernel
theorem dX11_shelf_98 : decode cX11_shelf 98 = .ok (.bipush (-2), 2) := by decide +kernel
theorem dX11_isKind_0 : decode cX11_isKind 0 = .ok (.iload_n 0, 1) := by decide +kernel
theorem dX11_isKind_1 : decode cX11_isKind 1 = .ok (.ifCond .lt 13, 3) := by decide +kernel
theorem dX11_isKind_10 : decode cX11_isKind 10 = .ok (.iconst 1, 1) := by decide +kernel
theorem dX11_isKind_11 : decode cX11_isKind 11 = .ok (.goto 4, 3) := by decide +kernel
theorem dX11_isKind_14 : decode cX11_isKind 14 = .ok (.iconst 0, 1) := by decide +kernel
theorem dX11_isKind_15 : decode cX11_isKind 15 = .ok (.ireturn, 1) := by decide +kernel
theorem dX11_isKind_4 : decode cX11_isKind 4 = .ok (.iload_n 0, 1) := by decide +kernel
theorem dX11_isKind_5 : decode cX11_isKind 5 = .ok (.bipush 6, 2) := by decide +kernel
theorem dX11_isKind_7 : decode cX11_isKind 7 = .ok (.if_icmp .ge 7, 3) := by decide +kernel
set_option maxRecDepth 20000 in
theorem ggX7_isEmpty_X11_isShelf : GoodIn wsX7_isEmpty wsX11_isShelf := goodIn_r _ [4] (by decide +kernel) (by decide +kernel)
set_option maxRecDepth 20000 in
theorem gX7_isEmpty_X11_isShelf_n18 : GoodIn wsX7_isEmpty (wsX11_isShelf) := ggX7_isEmpty_X11_isShelf
theorem dX7_isEmpty_0 : decode cX7_isEmpty 0 = .ok (.iload_n 1, 1) := by decide +kernel
theorem dX7_isEmpty_1 : decode cX7_isEmpty 1 = .ok (.invokestatic 18, 3) := by decide +kernel
theorem dX7_isEmpty_11 : decode cX7_isEmpty 11 = .ok (.iload_n 1, 1) := by decide +kernel
theorem dX7_isEmpty_12 : decode cX7_isEmpty 12 = .ok (.iaload, 1) := by decide +kernel
theorem dX7_isEmpty_13 : decode cX7_isEmpty 13 = .ok (.iconst (-1), 1) := by decide +kernel
theorem dX7_isEmpty_14 : decode cX7_isEmpty 14 = .ok (.if_icmp .ne 7, 3) := by decide +kernel
theorem dX7_isEmpty_17 : decode cX7_isEmpty 17 = .ok (.iconst 1, 1) := by decide +kernel
theorem dX7_isEmpty_18 : decode cX7_isEmpty 18 = .ok (.goto 4, 3) := by decide +kernel
theorem dX7_isEmpty_22 : decode cX7_isEmpty 22 = .ok (.ireturn, 1) := by decide +kernel
theorem dX7_isEmpty_4 : decode cX7_isEmpty 4 = .ok (.ifCond .eq 13, 3) := by decide +kernel
theorem dX7_isEmpty_7 : decode cX7_isEmpty 7 = .ok (.aload_n 0, 1) := by decide +kernel
theorem dX7_isEmpty_8 : decode cX7_isEmpty 8 = .ok (.getfield 11, 3) := by decide +kernel
set_option maxRecDepth 20000 in
theorem ggX11_refusalOfNumber_X11_refusalOfSheet : GoodIn wsX11_refusalOfNumber wsX11_refusalOfSheet := goodIn_r _ [6, 1, 7, 8, 5, 9, 10, 11, 12, 13, 14, 15, 21, 22, 23, 24, 25, 26, 27, 28, 29, 30, 31, 32, 33, 34, 35, 36, 37, 38, 39] (by decide +kernel) (by decide +kernel)
set_option maxRecDepth 20000 in
theorem gX11_refusalOfNumber_X11_refusalOfSheet : GoodIn wsX11_refusalOfNumber (wsV RX11 218 RX11 yX11_refusalOfSheet wsX11_refusalOfSheet) := goodIn_app (goodIn_of _ (by decide +kernel)) ggX11_refusalOfNumber_X11_refusalOfSheet
theorem dX11_refusalOfNumber_0 : decode cX11_refusalOfNumber 0 = .ok (.aload_n 0, 1) := by decide +kernel
theorem dX11_refusalOfNumber_1 : decode cX11_refusalOfNumber 1 = .ok (.iload_n 1, 1) := by decide +kernel
theorem dX11_refusalOfNumber_10 : decode cX11_refusalOfNumber 10 = .ok (.iload_n 3, 1) := by decide +kernel
theorem dX11_refusalOfNumber_11 : decode cX11_refusalOfNumber 11 = .ok (.ireturn, 1) := by decide +kernel
theorem dX11_refusalOfNumber_2 : decode cX11_refusalOfNumber 2 = .ok (.invokevirtual 218, 3) := by decide +kernel
theorem dX11_refusalOfNumber_5 : decode cX11_refusalOfNumber 5 = .ok (.istore_n 3, 1) := by decide +kernel
theorem dX11_refusalOfNumber_6 : decode cX11_refusalOfNumber 6 = .ok (.iload_n 3, 1) := by decide +kernel
theorem dX11_refusalOfNumber_7 : decode cX11_refusalOfNumber 7 = .ok (.ifCond .eq 5, 3) := by decide +kernel
set_option maxRecDepth 20000 in
theorem ggX11_write_X11_refusalOfNumber : GoodIn wsX11_write wsX11_refusalOfNumber := goodIn_r _ [6, 1, 7, 8, 9, 5, 10, 11, 12, 13, 14, 15, 16, 17, 18, 19, 20, 21, 22, 23, 24, 31, 32, 33, 34, 35, 36, 37, 38, 39, 40, 41, 42, 43, 44, 45, 46, 47, 48, 49] (by decide +kernel) (by decide +kernel)
set_option maxRecDepth 20000 in
theorem gX11_write_X11_refusalOfNumber : GoodIn wsX11_write (wsV RX11 335 RX11 yX11_refusalOfNumber wsX11_refusalOfNumber) := goodIn_app (goodIn_of _ (by decide +kernel)) ggX11_write_X11_refusalOfNumber
theorem dX11_write_0 : decode cX11_write 0 = .ok (.aload_n 0, 1) := by decide +kernel
theorem dX11_write_1 : decode cX11_write 1 = .ok (.iload_n 1, 1) := by decide +kernel
theorem dX11_write_10 : decode cX11_write 10 = .ok (.ifCond .eq 6, 3) := by decide +kernel
theorem dX11_write_13 : decode cX11_write 13 = .ok (.iload 4, 2) := by decide +kernel
theorem dX11_write_15 : decode cX11_write 15 = .ok (.ireturn, 1) := by decide +kernel
theorem dX11_write_2 : decode cX11_write 2 = .ok (.iload_n 2, 1) := by decide +kernel
theorem dX11_write_3 : decode cX11_write 3 = .ok (.invokevirtual 335, 3) := by decide +kernel
theorem dX11_write_6 : decode cX11_write 6 = .ok (.istore 4, 2) := by decide +kernel
theorem dX11_write_8 : decode cX11_write 8 = .ok (.iload 4, 2) := by decide +kernel
set_option maxRecDepth 20000 in
theorem ggX11_item_X11_refusalOfNumber : GoodIn wsX11_item wsX11_refusalOfNumber := goodIn_r _ [6, 1, 7, 8, 9, 5, 10, 11, 12, 13, 14, 15, 16, 17, 18, 19, 20, 21, 22, 23, 24, 31, 32, 33, 34, 35, 36, 37, 38, 39, 40, 41, 42, 43, 44, 45, 46, 47, 48, 49] (by decide +kernel) (by decide +kernel)
set_option maxRecDepth 20000 in
theorem gX11_item_X11_refusalOfNumber : GoodIn wsX11_item (wsV RX11 335 RX11 yX11_refusalOfNumber wsX11_refusalOfNumber) := goodIn_app (goodIn_of _ (by decide +kernel)) ggX11_item_X11_refusalOfNumber
theorem dX11_item_0 : decode cX11_item 0 = .ok (.aload_n 0, 1) := by decide +kernel
theorem dX11_item_1 : decode cX11_item 1 = .ok (.iload_n 1, 1) := by decide +kernel
theorem dX11_item_11 : decode cX11_item 11 = .ok (.iload_n 3, 1) := by decide +kernel
theorem dX11_item_12 : decode cX11_item 12 = .ok (.goto 13, 3) := by decide +kernel
theorem dX11_item_2 : decode cX11_item 2 = .ok (.iload_n 2, 1) := by decide +kernel
theorem dX11_item_25 : decode cX11_item 25 = .ok (.ireturn, 1) := by decide +kernel
theorem dX11_item_3 : decode cX11_item 3 = .ok (.invokevirtual 335, 3) := by decide +kernel
theorem dX11_item_6 : decode cX11_item 6 = .ok (.istore_n 3, 1) := by decide +kernel
theorem dX11_item_7 : decode cX11_item 7 = .ok (.iload_n 3, 1) := by decide +kernel
theorem dX11_item_8 : decode cX11_item 8 = .ok (.ifCond .eq 7, 3) := by decide +kernel
section LW2
variable {p : Program} {l : Launch} {e : Env} {R : Room} {s : State} {m : MethodId} {args : Array Value} {below : List Frame} {meth : Method} {c : Code} {H : Heap} {locs : List Loc} {cells slots : Nat} {Q : State → Prop}
variable {pc : Nat} {ls : Array Slot} {rest st0 : List Value} {cc bytes : ByteArray} {nL maxL index n mc ms : Nat} {own : String} {y : MethodName} {ret : Option FieldType} {rm : Room} {Ts ws : List Cond} {D : va_G} {cI cS : ClassId} {wc : va_W} {b : Addr} {As : List Value} {ci : Nat} {q : vw_C} {fs : List Value}
/-- a place that is a number below the length -/
theorem lz_ald {tys : List (ClassId × FieldType)} {W0 : va_W} {a : Nat} (hexec : p.tables.exec = Jvm.exec) (hb : c.code = cc) (hK : va_K D cls tys s) (hP : va_P D cls W0 H) (q0 t0 : Nat) {cA : ClassId} {k : Nat} {f : Nat → Int32} (ha : W0[q0]? = some (a, .inl (cA, k, .inl f))) (ht : tys[t0]? = some (cA, .int)) (i : Nat) (hi : i < k ∧ k < 2 ^ 31) (hdg : decode cc pc = .ok (.iaload, 1))
    (kk : W p l e R s m args below meth c H locs cells slots Q (F0 m (pc + 1) ls (.int (f i) :: rest))) : W p l e R s m args below meth c H locs cells slots Q (F0 m pc ls (.int (nI i) :: .ref a :: rest)) := by
  refine va_iald hexec hb hK hP q0 t0 ha ht (vp_in_nI hi.1 hi.2) hdg ?_
  rw [nI_clamp (by omega)]
  exact kk
theorem lz_ast {tys : List (ClassId × FieldType)} {W0 : va_W} {A1 : Nat → Prop} {H2 : Heap} {a : Nat} (hexec : p.tables.exec = Jvm.exec) (hb : c.code = cc) (hK : va_K D cls tys s) (hP : va_P D cls W0 H) (hD : va_D A1 W0) (hS : va_S A1 H2 H locs) (q0 t0 : Nat) {cA : ClassId} {k : Nat} {f : Nat → Int32} {x : Int32} (ha : W0[q0]? = some (a, .inl (cA, k, .inl f))) (ht : tys[t0]? = some (cA, .int)) (i : Nat) (hi : i < k ∧ k < 2 ^ 31) (hdg : decode cc pc = .ok (.iastore, 1))
    (kk : ∀ (H1 : Heap) (locs1 : List Loc), va_P D cls (W0.set q0 (a, .inl (cA, k, .inl (upd f i x)))) H1 → va_D A1 (W0.set q0 (a, .inl (cA, k, .inl (upd f i x)))) → va_S A1 H2 H1 locs1 → W p l e R s m args below meth c H1 locs1 cells slots Q (F0 m (pc + 1) ls rest)) : W p l e R s m args below meth c H locs cells slots Q (F0 m pc ls (.int x :: .int (nI i) :: .ref a :: rest)) := by
  refine va_iast hexec hb hK hP hD hS q0 t0 ha ht (vp_in_nI hi.1 hi.2) hdg (fun H1 locs1 h1 h2 h3 => ?_)
  rw [nI_clamp (by omega)] at h1 h2
  exact kk H1 locs1 h1 h2 h3
variable {S : Type} {A : Nat → Prop} {H0 : Heap} {W0 wr : va_W} {w1 : S → va_W} {isC isR : List Nat} {pv : S → Prop} {pi : Int32 → S → Prop}
/-- a method that writes; what it leaves is told by a word of its own kind -/
abbrev QE {S : Type} (D : va_G) (ws : va_W) (w' : S → va_W) (sz : Nat) (post : S → Prop) : Array Value → State → Outcome → State → Prop := va_Qv post (fun u t => va_P D cls (w' u) t.heap ∧ va_D (va_A ws sz) (w' u)) (va_A ws sz)
abbrev QF {S : Type} (D : va_G) (ws : va_W) (w' : S → va_W) (sz : Nat) (post : Int32 → S → Prop) : Array Value → State → Outcome → State → Prop := va_Qi post (fun u t => va_P D cls (w' u) t.heap ∧ va_D (va_A ws sz) (w' u)) (va_A ws sz)
theorem lz_qe (F : CallFix p m c cc nL s args Ts own) (hM : Met l y ws rm (PQ D cI cS wc H.size (.ref b :: As)) (QE D wc w1 H.size pv) mc ms (va_A wc H.size)) (hK : KK D cI cS s) (hP : va_P D cls W0 H) (hD : va_D A W0) (hS : va_S A H0 H locs) (hA : ∀ q, H0.size ≤ q → A q)
    (isC isR : List Nat) (hnC : va_nd isC = true) (hC : isC.map (fun i => W0[i]?) = wc.map some) (hR : isR.map (fun i => W0[i]?) = wr.map some) (hnR : va_nd isR = true) (hdis : ∀ i ∈ isR, i ∉ isC) (hPc : va_P D cls wc H) (hDc : va_D A wc) (hc : cls[ci]? = some q) (he : wc[0]? = some (b, .inr (ci, fs)))
    (cw : CallW R s args own q.1 index y bytes maxL ret ws rm mc ms n) (hn : As.length = n) (hsize : ls.size = nL) (hst : st0 = As.reverse ++ .ref b :: rest) (hW : (rest.map fun v => v.category).sum ≤ 8) (hdg : decode cc pc = .ok (.invokevirtual index, 3)) (hf : cells + mc ≤ R.cells ∧ slots + ms ≤ R.slots)
    (kk : ∀ (u : S) (H1 : Heap) (locs1 : List Loc), pv u → va_P D cls (wr ++ w1 u) H1 → va_D A (wr ++ w1 u) → va_S A H0 H1 locs1 → W p l e R s m args below meth c H1 locs1 (cells + mc) (slots + ms) Q (F0 m (pc + 3) ls rest)) : W p l e R s m args below meth c H locs cells slots Q (F0 m pc ls st0) := by
  have hFc := va_free hD hS hA isC hC
  refine va_callv (va_runV (As := As) (rest := rest) F hM cw ⟨lz_bQ, va_recv hK.1 hPc hc he, fun U hU hW => ⟨rfl, by rw [hU], by rw [hU]; exact hPc, hK.warm hW, hDc.weaken (fun _ _ _ _ => trivial)⟩⟩ rfl hn hsize hst (lv_room hW) hdg hf) hS (fun q _ h => hFc q h) hFc (fun u t H1 locs1 ht hvm hw hB hz1 hk1 hS1 => ?_)
  subst ht
  obtain ⟨hP2, hD2⟩ := va_join hP hD isC isR hC hR hnR hdis hk1 hFc hB.1 hB.2
  exact kk u _ locs1 hw hP2 hD2 hS1
theorem lz_qf (F : CallFix p m c cc nL s args Ts own) (hM : Met l y ws rm (PQ D cI cS wc H.size (.ref b :: As)) (QF D wc w1 H.size pi) mc ms (va_A wc H.size)) (hK : KK D cI cS s) (hP : va_P D cls W0 H) (hD : va_D A W0) (hS : va_S A H0 H locs) (hA : ∀ q, H0.size ≤ q → A q)
    (isC isR : List Nat) (hnC : va_nd isC = true) (hC : isC.map (fun i => W0[i]?) = wc.map some) (hR : isR.map (fun i => W0[i]?) = wr.map some) (hnR : va_nd isR = true) (hdis : ∀ i ∈ isR, i ∉ isC) (hPc : va_P D cls wc H) (hDc : va_D A wc) (hc : cls[ci]? = some q) (he : wc[0]? = some (b, .inr (ci, fs)))
    (cw : CallW R s args own q.1 index y bytes maxL ret ws rm mc ms n) (hn : As.length = n) (hsize : ls.size = nL) (hst : st0 = As.reverse ++ .ref b :: rest) (hW : (rest.map fun v => v.category).sum ≤ 8) (hdg : decode cc pc = .ok (.invokevirtual index, 3)) (hf : cells + mc ≤ R.cells ∧ slots + ms ≤ R.slots)
    (kk : ∀ (r : Int32) (u : S) (H1 : Heap) (locs1 : List Loc), pi r u → va_P D cls (wr ++ w1 u) H1 → va_D A (wr ++ w1 u) → va_S A H0 H1 locs1 → W p l e R s m args below meth c H1 locs1 (cells + mc) (slots + ms) Q (F0 m (pc + 3) ls (.int r :: rest))) : W p l e R s m args below meth c H locs cells slots Q (F0 m pc ls st0) := by
  have hFc := va_free hD hS hA isC hC
  refine va_calli (va_runV (As := As) (rest := rest) F hM cw ⟨lz_bQ, va_recv hK.1 hPc hc he, fun U hU hW => ⟨rfl, by rw [hU], by rw [hU]; exact hPc, hK.warm hW, hDc.weaken (fun _ _ _ _ => trivial)⟩⟩ rfl hn hsize hst (lv_room hW) hdg hf) hS (fun q _ h => hFc q h) hFc (fun r u t H1 locs1 ht hvm hw hB hz1 hk1 hS1 => ?_)
  subst ht
  obtain ⟨hP2, hD2⟩ := va_join hP hD isC isR hC hR hnR hdis hk1 hFc hB.1 hB.2
  exact kk r u _ locs1 hw hP2 hD2 hS1
end LW2
theorem dX2_hasPoint_12 : decode cX2_hasPoint 12 = .ok (.iconst 1, 1) := by decide +kernel
theorem dX2_hasPoint_13 : decode cX2_hasPoint 13 = .ok (.goto 4, 3) := by decide +kernel
theorem dX2_areTwo_10 : decode cX2_areTwo 10 = .ok (.invokevirtual 23, 3) := by decide +kernel
theorem dX2_areTwo_13 : decode cX2_areTwo 13 = .ok (.ifCond .eq 12, 3) := by decide +kernel
theorem dX2_areTwo_16 : decode cX2_areTwo 16 = .ok (.iload_n 1, 1) := by decide +kernel
theorem dX2_areTwo_17 : decode cX2_areTwo 17 = .ok (.iload_n 2, 1) := by decide +kernel
theorem dX2_areTwo_18 : decode cX2_areTwo 18 = .ok (.if_icmp .eq 7, 3) := by decide +kernel
theorem dX2_areTwo_21 : decode cX2_areTwo 21 = .ok (.iconst 1, 1) := by decide +kernel
theorem dX2_areTwo_22 : decode cX2_areTwo 22 = .ok (.goto 4, 3) := by decide +kernel
theorem dX2_areTwo_8 : decode cX2_areTwo 8 = .ok (.aload_n 0, 1) := by decide +kernel
theorem dX2_areTwo_9 : decode cX2_areTwo 9 = .ok (.iload_n 2, 1) := by decide +kernel
set_option maxRecDepth 20000 in
theorem ggX2_join_X2_areTwo : GoodIn wsX2_join wsX2_areTwo := goodIn_r _ [7, 8, 9, 10, 6, 11, 12, 13, 14, 15] (by decide +kernel) (by decide +kernel)
set_option maxRecDepth 20000 in
theorem gX2_join_X2_areTwo : GoodIn wsX2_join (wsV RX2 36 RX2 yX2_areTwo wsX2_areTwo) := goodIn_app (goodIn_of _ (by decide +kernel)) ggX2_join_X2_areTwo
theorem dX2_join_0 : decode cX2_join 0 = .ok (.aload_n 0, 1) := by decide +kernel
theorem dX2_join_1 : decode cX2_join 1 = .ok (.iload_n 1, 1) := by decide +kernel
theorem dX2_join_10 : decode cX2_join 10 = .ok (.iload_n 3, 1) := by decide +kernel
theorem dX2_join_11 : decode cX2_join 11 = .ok (.ifCond .eq 30, 3) := by decide +kernel
theorem dX2_join_14 : decode cX2_join 14 = .ok (.aload_n 0, 1) := by decide +kernel
theorem dX2_join_15 : decode cX2_join 15 = .ok (.getfield 9, 3) := by decide +kernel
theorem dX2_join_18 : decode cX2_join 18 = .ok (.iload_n 1, 1) := by decide +kernel
theorem dX2_join_19 : decode cX2_join 19 = .ok (.dup2, 1) := by decide +kernel
theorem dX2_join_2 : decode cX2_join 2 = .ok (.iload_n 2, 1) := by decide +kernel
theorem dX2_join_20 : decode cX2_join 20 = .ok (.iaload, 1) := by decide +kernel
theorem dX2_join_21 : decode cX2_join 21 = .ok (.iconst 1, 1) := by decide +kernel
theorem dX2_join_22 : decode cX2_join 22 = .ok (.iload_n 2, 1) := by decide +kernel
theorem dX2_join_23 : decode cX2_join 23 = .ok (.ishl, 1) := by decide +kernel
theorem dX2_join_24 : decode cX2_join 24 = .ok (.ior, 1) := by decide +kernel
theorem dX2_join_25 : decode cX2_join 25 = .ok (.iastore, 1) := by decide +kernel
theorem dX2_join_26 : decode cX2_join 26 = .ok (.aload_n 0, 1) := by decide +kernel
theorem dX2_join_27 : decode cX2_join 27 = .ok (.getfield 9, 3) := by decide +kernel
theorem dX2_join_3 : decode cX2_join 3 = .ok (.invokevirtual 36, 3) := by decide +kernel
theorem dX2_join_30 : decode cX2_join 30 = .ok (.iload_n 2, 1) := by decide +kernel
theorem dX2_join_31 : decode cX2_join 31 = .ok (.dup2, 1) := by decide +kernel
theorem dX2_join_32 : decode cX2_join 32 = .ok (.iaload, 1) := by decide +kernel
theorem dX2_join_33 : decode cX2_join 33 = .ok (.iconst 1, 1) := by decide +kernel
theorem dX2_join_34 : decode cX2_join 34 = .ok (.iload_n 1, 1) := by decide +kernel
theorem dX2_join_35 : decode cX2_join 35 = .ok (.ishl, 1) := by decide +kernel
theorem dX2_join_36 : decode cX2_join 36 = .ok (.ior, 1) := by decide +kernel
theorem dX2_join_37 : decode cX2_join 37 = .ok (.iastore, 1) := by decide +kernel
theorem dX2_join_38 : decode cX2_join 38 = .ok (.goto 31, 3) := by decide +kernel
theorem dX2_join_6 : decode cX2_join 6 = .ok (.ifCond .ne 4, 3) := by decide +kernel
theorem dX2_join_69 : decode cX2_join 69 = .ok (.aload_n 0, 1) := by decide +kernel
theorem dX2_join_70 : decode cX2_join 70 = .ok (.dup, 1) := by decide +kernel
theorem dX2_join_71 : decode cX2_join 71 = .ok (.getfield 33, 3) := by decide +kernel
theorem dX2_join_74 : decode cX2_join 74 = .ok (.iconst 1, 1) := by decide +kernel
theorem dX2_join_75 : decode cX2_join 75 = .ok (.iadd, 1) := by decide +kernel
theorem dX2_join_76 : decode cX2_join 76 = .ok (.putfield 33, 3) := by decide +kernel
theorem dX2_join_79 : decode cX2_join 79 = .ok (.return_, 1) := by decide +kernel
theorem dX11_canDeal_0 : decode cX11_canDeal 0 = .ok (.iload_n 0, 1) := by decide +kernel
theorem dX11_canDeal_1 : decode cX11_canDeal 1 = .ok (.ifCond .lt 23, 3) := by decide +kernel
theorem dX11_canDeal_10 : decode cX11_canDeal 10 = .ok (.iload_n 1, 1) := by decide +kernel
theorem dX11_canDeal_11 : decode cX11_canDeal 11 = .ok (.ifCond .lt 13, 3) := by decide +kernel
theorem dX11_canDeal_14 : decode cX11_canDeal 14 = .ok (.iload_n 1, 1) := by decide +kernel
theorem dX11_canDeal_15 : decode cX11_canDeal 15 = .ok (.bipush 10, 2) := by decide +kernel
theorem dX11_canDeal_17 : decode cX11_canDeal 17 = .ok (.if_icmp .gt 7, 3) := by decide +kernel
theorem dX11_canDeal_20 : decode cX11_canDeal 20 = .ok (.iconst 1, 1) := by decide +kernel
theorem dX11_canDeal_21 : decode cX11_canDeal 21 = .ok (.goto 4, 3) := by decide +kernel
theorem dX11_canDeal_24 : decode cX11_canDeal 24 = .ok (.iconst 0, 1) := by decide +kernel
theorem dX11_canDeal_25 : decode cX11_canDeal 25 = .ok (.ireturn, 1) := by decide +kernel
theorem dX11_canDeal_4 : decode cX11_canDeal 4 = .ok (.iload_n 0, 1) := by decide +kernel
theorem dX11_canDeal_5 : decode cX11_canDeal 5 = .ok (.bipush 12, 2) := by decide +kernel
theorem dX11_canDeal_7 : decode cX11_canDeal 7 = .ok (.if_icmp .gt 17, 3) := by decide +kernel
set_option maxHeartbeats 4000000 in
set_option maxRecDepth 100000 in
theorem c_J6_bitCount_0f7a4_1 (l : Launch) (D : va_G) (cI cS : ClassId) (x0 : Int32) : Met l yJ6_bitCount_0f7a4 wsJ6_bitCount_0f7a4 ({ frames := 0, cells := 0, slots := 0, locals := 0 }) (PS D cI cS [] [.int x0]) (vp_Si (fun r => r = (((((((x0 - (((Int32.toUInt32 x0 >>> (Int32.toUInt32 1 &&& Int32.toUInt32 31)).toInt32) &&& (1431655765 : Int32))) &&& (858993459 : Int32)) + (((Int32.toUInt32 (x0 - (((Int32.toUInt32 x0 >>> (Int32.toUInt32 1 &&& Int32.toUInt32 31)).toInt32) &&& (1431655765 : Int32))) >>> (Int32.toUInt32 2 &&& Int32.toUInt32 31)).toInt32) &&& (858993459 : Int32))) + ((Int32.toUInt32 (((x0 - (((Int32.toUInt32 x0 >>> (Int32.toUInt32 1 &&& Int32.toUInt32 31)).toInt32) &&& (1431655765 : Int32))) &&& (858993459 : Int32)) + (((Int32.toUInt32 (x0 - (((Int32.toUInt32 x0 >>> (Int32.toUInt32 1 &&& Int32.toUInt32 31)).toInt32) &&& (1431655765 : Int32))) >>> (Int32.toUInt32 2 &&& Int32.toUInt32 31)).toInt32) &&& (858993459 : Int32))) >>> (Int32.toUInt32 4 &&& Int32.toUInt32 31)).toInt32)) &&& (252645135 : Int32)) + ((Int32.toUInt32 (((((x0 - (((Int32.toUInt32 x0 >>> (Int32.toUInt32 1 &&& Int32.toUInt32 31)).toInt32) &&& (1431655765 : Int32))) &&& (858993459 : Int32)) + (((Int32.toUInt32 (x0 - (((Int32.toUInt32 x0 >>> (Int32.toUInt32 1 &&& Int32.toUInt32 31)).toInt32) &&& (1431655765 : Int32))) >>> (Int32.toUInt32 2 &&& Int32.toUInt32 31)).toInt32) &&& (858993459 : Int32))) + ((Int32.toUInt32 (((x0 - (((Int32.toUInt32 x0 >>> (Int32.toUInt32 1 &&& Int32.toUInt32 31)).toInt32) &&& (1431655765 : Int32))) &&& (858993459 : Int32)) + (((Int32.toUInt32 (x0 - (((Int32.toUInt32 x0 >>> (Int32.toUInt32 1 &&& Int32.toUInt32 31)).toInt32) &&& (1431655765 : Int32))) >>> (Int32.toUInt32 2 &&& Int32.toUInt32 31)).toInt32) &&& (858993459 : Int32))) >>> (Int32.toUInt32 4 &&& Int32.toUInt32 31)).toInt32)) &&& (252645135 : Int32)) >>> (Int32.toUInt32 8 &&& Int32.toUInt32 31)).toInt32)) + ((Int32.toUInt32 ((((((x0 - (((Int32.toUInt32 x0 >>> (Int32.toUInt32 1 &&& Int32.toUInt32 31)).toInt32) &&& (1431655765 : Int32))) &&& (858993459 : Int32)) + (((Int32.toUInt32 (x0 - (((Int32.toUInt32 x0 >>> (Int32.toUInt32 1 &&& Int32.toUInt32 31)).toInt32) &&& (1431655765 : Int32))) >>> (Int32.toUInt32 2 &&& Int32.toUInt32 31)).toInt32) &&& (858993459 : Int32))) + ((Int32.toUInt32 (((x0 - (((Int32.toUInt32 x0 >>> (Int32.toUInt32 1 &&& Int32.toUInt32 31)).toInt32) &&& (1431655765 : Int32))) &&& (858993459 : Int32)) + (((Int32.toUInt32 (x0 - (((Int32.toUInt32 x0 >>> (Int32.toUInt32 1 &&& Int32.toUInt32 31)).toInt32) &&& (1431655765 : Int32))) >>> (Int32.toUInt32 2 &&& Int32.toUInt32 31)).toInt32) &&& (858993459 : Int32))) >>> (Int32.toUInt32 4 &&& Int32.toUInt32 31)).toInt32)) &&& (252645135 : Int32)) + ((Int32.toUInt32 (((((x0 - (((Int32.toUInt32 x0 >>> (Int32.toUInt32 1 &&& Int32.toUInt32 31)).toInt32) &&& (1431655765 : Int32))) &&& (858993459 : Int32)) + (((Int32.toUInt32 (x0 - (((Int32.toUInt32 x0 >>> (Int32.toUInt32 1 &&& Int32.toUInt32 31)).toInt32) &&& (1431655765 : Int32))) >>> (Int32.toUInt32 2 &&& Int32.toUInt32 31)).toInt32) &&& (858993459 : Int32))) + ((Int32.toUInt32 (((x0 - (((Int32.toUInt32 x0 >>> (Int32.toUInt32 1 &&& Int32.toUInt32 31)).toInt32) &&& (1431655765 : Int32))) &&& (858993459 : Int32)) + (((Int32.toUInt32 (x0 - (((Int32.toUInt32 x0 >>> (Int32.toUInt32 1 &&& Int32.toUInt32 31)).toInt32) &&& (1431655765 : Int32))) >>> (Int32.toUInt32 2 &&& Int32.toUInt32 31)).toInt32) &&& (858993459 : Int32))) >>> (Int32.toUInt32 4 &&& Int32.toUInt32 31)).toInt32)) &&& (252645135 : Int32)) >>> (Int32.toUInt32 8 &&& Int32.toUInt32 31)).toInt32)) >>> (Int32.toUInt32 16 &&& Int32.toUInt32 31)).toInt32)) &&& (63 : Int32))) 0 0 (fun _ => False) := by
  refine Met.ofW (cc := cJ6_bitCount_0f7a4) (maxL := 1) (ret := (some .int)) (by decide) rfl ?_
  intro p e s m args below meth c s₁ B hml hv
  obtain ⟨rfl, hP, hKK⟩ := hv
  have hx := B.exec
  have hb := B.bytes
  have hr := B.returns
  have hts := atoms_spec (ws := wsJ6_bitCount_0f7a4) B.pre
  have hown : s.vm.findClass RJ6 = some m.cls := findClass_of_methodNamed B.named
  have hlocks := B.notSynchronized
  have hK := hKK.1
  have hN := hKK.2
  have hl := lv_entry ([.int x0]) (n := 1) (Nat.le_of_ble_eq_true rfl)
  rw [lg_entry_eq]
  generalize (lg_sl ([.int x0]) ++ List.replicate (1 - (lg_sl ([.int x0])).length) Slot.unset).toArray = ls at hl ⊢
  have hl : lv_has ls 1 [(0, .int x0)] := hl
  refine lv_iload_n hx hb dJ6_bitCount_0f7a4_0 rfl (lv_at hl 0 rfl) ?_
  refine lv_iload_n hx hb dJ6_bitCount_0f7a4_1 rfl (lv_at hl 0 rfl) ?_
  refine lv_iconst (v := 1) hx hb dJ6_bitCount_0f7a4_2 (by decide) ?_
  refine lv_iushr (v := (Int32.toUInt32 x0 >>> (Int32.toUInt32 1 &&& Int32.toUInt32 31)).toInt32) hx hb dJ6_bitCount_0f7a4_3 rfl ?_
  refine lv_ldcw hx hb hown (hts (.constant RJ6 265 (1431655765)) (by decide +kernel)) dJ6_bitCount_0f7a4_4 ?_
  refine lv_iand hx hb dJ6_bitCount_0f7a4_7 ?_
  refine lv_isub hx hb dJ6_bitCount_0f7a4_8 ?_
  refine lv_istore_n (lv' := [(0, .int (x0 - (((Int32.toUInt32 x0 >>> (Int32.toUInt32 1 &&& Int32.toUInt32 31)).toInt32) &&& (1431655765 : Int32))))]) hx hb dJ6_bitCount_0f7a4_9 rfl hl (by decide) rfl (fun ls hl => ?_)
  refine lv_iload_n hx hb dJ6_bitCount_0f7a4_10 rfl (lv_at hl 0 rfl) ?_
  refine lv_ldcw hx hb hown (hts (.constant RJ6 266 (858993459)) (by decide +kernel)) dJ6_bitCount_0f7a4_11 ?_
  refine lv_iand hx hb dJ6_bitCount_0f7a4_14 ?_
  refine lv_iload_n hx hb dJ6_bitCount_0f7a4_15 rfl (lv_at hl 0 rfl) ?_
  refine lv_iconst (v := 2) hx hb dJ6_bitCount_0f7a4_16 (by decide) ?_
  refine lv_iushr (v := (Int32.toUInt32 (x0 - (((Int32.toUInt32 x0 >>> (Int32.toUInt32 1 &&& Int32.toUInt32 31)).toInt32) &&& (1431655765 : Int32))) >>> (Int32.toUInt32 2 &&& Int32.toUInt32 31)).toInt32) hx hb dJ6_bitCount_0f7a4_17 rfl ?_
  refine lv_ldcw hx hb hown (hts (.constant RJ6 266 (858993459)) (by decide +kernel)) dJ6_bitCount_0f7a4_18 ?_
  refine lv_iand hx hb dJ6_bitCount_0f7a4_21 ?_
  refine lv_iadd hx hb dJ6_bitCount_0f7a4_22 ?_
  refine lv_istore_n (lv' := [(0, .int (((x0 - (((Int32.toUInt32 x0 >>> (Int32.toUInt32 1 &&& Int32.toUInt32 31)).toInt32) &&& (1431655765 : Int32))) &&& (858993459 : Int32)) + (((Int32.toUInt32 (x0 - (((Int32.toUInt32 x0 >>> (Int32.toUInt32 1 &&& Int32.toUInt32 31)).toInt32) &&& (1431655765 : Int32))) >>> (Int32.toUInt32 2 &&& Int32.toUInt32 31)).toInt32) &&& (858993459 : Int32))))]) hx hb dJ6_bitCount_0f7a4_23 rfl hl (by decide) rfl (fun ls hl => ?_)
  refine lv_iload_n hx hb dJ6_bitCount_0f7a4_24 rfl (lv_at hl 0 rfl) ?_
  refine lv_iload_n hx hb dJ6_bitCount_0f7a4_25 rfl (lv_at hl 0 rfl) ?_
  refine lv_iconst (v := 4) hx hb dJ6_bitCount_0f7a4_26 (by decide) ?_
  refine lv_iushr (v := (Int32.toUInt32 (((x0 - (((Int32.toUInt32 x0 >>> (Int32.toUInt32 1 &&& Int32.toUInt32 31)).toInt32) &&& (1431655765 : Int32))) &&& (858993459 : Int32)) + (((Int32.toUInt32 (x0 - (((Int32.toUInt32 x0 >>> (Int32.toUInt32 1 &&& Int32.toUInt32 31)).toInt32) &&& (1431655765 : Int32))) >>> (Int32.toUInt32 2 &&& Int32.toUInt32 31)).toInt32) &&& (858993459 : Int32))) >>> (Int32.toUInt32 4 &&& Int32.toUInt32 31)).toInt32) hx hb dJ6_bitCount_0f7a4_27 rfl ?_
  refine lv_iadd hx hb dJ6_bitCount_0f7a4_28 ?_
  refine lv_ldcw hx hb hown (hts (.constant RJ6 267 (252645135)) (by decide +kernel)) dJ6_bitCount_0f7a4_29 ?_
  refine lv_iand hx hb dJ6_bitCount_0f7a4_32 ?_
  refine lv_istore_n (lv' := [(0, .int (((((x0 - (((Int32.toUInt32 x0 >>> (Int32.toUInt32 1 &&& Int32.toUInt32 31)).toInt32) &&& (1431655765 : Int32))) &&& (858993459 : Int32)) + (((Int32.toUInt32 (x0 - (((Int32.toUInt32 x0 >>> (Int32.toUInt32 1 &&& Int32.toUInt32 31)).toInt32) &&& (1431655765 : Int32))) >>> (Int32.toUInt32 2 &&& Int32.toUInt32 31)).toInt32) &&& (858993459 : Int32))) + ((Int32.toUInt32 (((x0 - (((Int32.toUInt32 x0 >>> (Int32.toUInt32 1 &&& Int32.toUInt32 31)).toInt32) &&& (1431655765 : Int32))) &&& (858993459 : Int32)) + (((Int32.toUInt32 (x0 - (((Int32.toUInt32 x0 >>> (Int32.toUInt32 1 &&& Int32.toUInt32 31)).toInt32) &&& (1431655765 : Int32))) >>> (Int32.toUInt32 2 &&& Int32.toUInt32 31)).toInt32) &&& (858993459 : Int32))) >>> (Int32.toUInt32 4 &&& Int32.toUInt32 31)).toInt32)) &&& (252645135 : Int32)))]) hx hb dJ6_bitCount_0f7a4_33 rfl hl (by decide) rfl (fun ls hl => ?_)
  refine lv_iload_n hx hb dJ6_bitCount_0f7a4_34 rfl (lv_at hl 0 rfl) ?_
  refine lv_iload_n hx hb dJ6_bitCount_0f7a4_35 rfl (lv_at hl 0 rfl) ?_
  refine lv_bipush (v := 8) hx hb dJ6_bitCount_0f7a4_36 (by decide) ?_
  refine lv_iushr (v := (Int32.toUInt32 (((((x0 - (((Int32.toUInt32 x0 >>> (Int32.toUInt32 1 &&& Int32.toUInt32 31)).toInt32) &&& (1431655765 : Int32))) &&& (858993459 : Int32)) + (((Int32.toUInt32 (x0 - (((Int32.toUInt32 x0 >>> (Int32.toUInt32 1 &&& Int32.toUInt32 31)).toInt32) &&& (1431655765 : Int32))) >>> (Int32.toUInt32 2 &&& Int32.toUInt32 31)).toInt32) &&& (858993459 : Int32))) + ((Int32.toUInt32 (((x0 - (((Int32.toUInt32 x0 >>> (Int32.toUInt32 1 &&& Int32.toUInt32 31)).toInt32) &&& (1431655765 : Int32))) &&& (858993459 : Int32)) + (((Int32.toUInt32 (x0 - (((Int32.toUInt32 x0 >>> (Int32.toUInt32 1 &&& Int32.toUInt32 31)).toInt32) &&& (1431655765 : Int32))) >>> (Int32.toUInt32 2 &&& Int32.toUInt32 31)).toInt32) &&& (858993459 : Int32))) >>> (Int32.toUInt32 4 &&& Int32.toUInt32 31)).toInt32)) &&& (252645135 : Int32)) >>> (Int32.toUInt32 8 &&& Int32.toUInt32 31)).toInt32) hx hb dJ6_bitCount_0f7a4_38 rfl ?_
  refine lv_iadd hx hb dJ6_bitCount_0f7a4_39 ?_
  refine lv_istore_n (lv' := [(0, .int ((((((x0 - (((Int32.toUInt32 x0 >>> (Int32.toUInt32 1 &&& Int32.toUInt32 31)).toInt32) &&& (1431655765 : Int32))) &&& (858993459 : Int32)) + (((Int32.toUInt32 (x0 - (((Int32.toUInt32 x0 >>> (Int32.toUInt32 1 &&& Int32.toUInt32 31)).toInt32) &&& (1431655765 : Int32))) >>> (Int32.toUInt32 2 &&& Int32.toUInt32 31)).toInt32) &&& (858993459 : Int32))) + ((Int32.toUInt32 (((x0 - (((Int32.toUInt32 x0 >>> (Int32.toUInt32 1 &&& Int32.toUInt32 31)).toInt32) &&& (1431655765 : Int32))) &&& (858993459 : Int32)) + (((Int32.toUInt32 (x0 - (((Int32.toUInt32 x0 >>> (Int32.toUInt32 1 &&& Int32.toUInt32 31)).toInt32) &&& (1431655765 : Int32))) >>> (Int32.toUInt32 2 &&& Int32.toUInt32 31)).toInt32) &&& (858993459 : Int32))) >>> (Int32.toUInt32 4 &&& Int32.toUInt32 31)).toInt32)) &&& (252645135 : Int32)) + ((Int32.toUInt32 (((((x0 - (((Int32.toUInt32 x0 >>> (Int32.toUInt32 1 &&& Int32.toUInt32 31)).toInt32) &&& (1431655765 : Int32))) &&& (858993459 : Int32)) + (((Int32.toUInt32 (x0 - (((Int32.toUInt32 x0 >>> (Int32.toUInt32 1 &&& Int32.toUInt32 31)).toInt32) &&& (1431655765 : Int32))) >>> (Int32.toUInt32 2 &&& Int32.toUInt32 31)).toInt32) &&& (858993459 : Int32))) + ((Int32.toUInt32 (((x0 - (((Int32.toUInt32 x0 >>> (Int32.toUInt32 1 &&& Int32.toUInt32 31)).toInt32) &&& (1431655765 : Int32))) &&& (858993459 : Int32)) + (((Int32.toUInt32 (x0 - (((Int32.toUInt32 x0 >>> (Int32.toUInt32 1 &&& Int32.toUInt32 31)).toInt32) &&& (1431655765 : Int32))) >>> (Int32.toUInt32 2 &&& Int32.toUInt32 31)).toInt32) &&& (858993459 : Int32))) >>> (Int32.toUInt32 4 &&& Int32.toUInt32 31)).toInt32)) &&& (252645135 : Int32)) >>> (Int32.toUInt32 8 &&& Int32.toUInt32 31)).toInt32)))]) hx hb dJ6_bitCount_0f7a4_40 rfl hl (by decide) rfl (fun ls hl => ?_)
  refine lv_iload_n hx hb dJ6_bitCount_0f7a4_41 rfl (lv_at hl 0 rfl) ?_
  refine lv_iload_n hx hb dJ6_bitCount_0f7a4_42 rfl (lv_at hl 0 rfl) ?_
  refine lv_bipush (v := 16) hx hb dJ6_bitCount_0f7a4_43 (by decide) ?_
  refine lv_iushr (v := (Int32.toUInt32 ((((((x0 - (((Int32.toUInt32 x0 >>> (Int32.toUInt32 1 &&& Int32.toUInt32 31)).toInt32) &&& (1431655765 : Int32))) &&& (858993459 : Int32)) + (((Int32.toUInt32 (x0 - (((Int32.toUInt32 x0 >>> (Int32.toUInt32 1 &&& Int32.toUInt32 31)).toInt32) &&& (1431655765 : Int32))) >>> (Int32.toUInt32 2 &&& Int32.toUInt32 31)).toInt32) &&& (858993459 : Int32))) + ((Int32.toUInt32 (((x0 - (((Int32.toUInt32 x0 >>> (Int32.toUInt32 1 &&& Int32.toUInt32 31)).toInt32) &&& (1431655765 : Int32))) &&& (858993459 : Int32)) + (((Int32.toUInt32 (x0 - (((Int32.toUInt32 x0 >>> (Int32.toUInt32 1 &&& Int32.toUInt32 31)).toInt32) &&& (1431655765 : Int32))) >>> (Int32.toUInt32 2 &&& Int32.toUInt32 31)).toInt32) &&& (858993459 : Int32))) >>> (Int32.toUInt32 4 &&& Int32.toUInt32 31)).toInt32)) &&& (252645135 : Int32)) + ((Int32.toUInt32 (((((x0 - (((Int32.toUInt32 x0 >>> (Int32.toUInt32 1 &&& Int32.toUInt32 31)).toInt32) &&& (1431655765 : Int32))) &&& (858993459 : Int32)) + (((Int32.toUInt32 (x0 - (((Int32.toUInt32 x0 >>> (Int32.toUInt32 1 &&& Int32.toUInt32 31)).toInt32) &&& (1431655765 : Int32))) >>> (Int32.toUInt32 2 &&& Int32.toUInt32 31)).toInt32) &&& (858993459 : Int32))) + ((Int32.toUInt32 (((x0 - (((Int32.toUInt32 x0 >>> (Int32.toUInt32 1 &&& Int32.toUInt32 31)).toInt32) &&& (1431655765 : Int32))) &&& (858993459 : Int32)) + (((Int32.toUInt32 (x0 - (((Int32.toUInt32 x0 >>> (Int32.toUInt32 1 &&& Int32.toUInt32 31)).toInt32) &&& (1431655765 : Int32))) >>> (Int32.toUInt32 2 &&& Int32.toUInt32 31)).toInt32) &&& (858993459 : Int32))) >>> (Int32.toUInt32 4 &&& Int32.toUInt32 31)).toInt32)) &&& (252645135 : Int32)) >>> (Int32.toUInt32 8 &&& Int32.toUInt32 31)).toInt32)) >>> (Int32.toUInt32 16 &&& Int32.toUInt32 31)).toInt32) hx hb dJ6_bitCount_0f7a4_45 rfl ?_
  refine lv_iadd hx hb dJ6_bitCount_0f7a4_46 ?_
  refine lv_istore_n (lv' := [(0, .int (((((((x0 - (((Int32.toUInt32 x0 >>> (Int32.toUInt32 1 &&& Int32.toUInt32 31)).toInt32) &&& (1431655765 : Int32))) &&& (858993459 : Int32)) + (((Int32.toUInt32 (x0 - (((Int32.toUInt32 x0 >>> (Int32.toUInt32 1 &&& Int32.toUInt32 31)).toInt32) &&& (1431655765 : Int32))) >>> (Int32.toUInt32 2 &&& Int32.toUInt32 31)).toInt32) &&& (858993459 : Int32))) + ((Int32.toUInt32 (((x0 - (((Int32.toUInt32 x0 >>> (Int32.toUInt32 1 &&& Int32.toUInt32 31)).toInt32) &&& (1431655765 : Int32))) &&& (858993459 : Int32)) + (((Int32.toUInt32 (x0 - (((Int32.toUInt32 x0 >>> (Int32.toUInt32 1 &&& Int32.toUInt32 31)).toInt32) &&& (1431655765 : Int32))) >>> (Int32.toUInt32 2 &&& Int32.toUInt32 31)).toInt32) &&& (858993459 : Int32))) >>> (Int32.toUInt32 4 &&& Int32.toUInt32 31)).toInt32)) &&& (252645135 : Int32)) + ((Int32.toUInt32 (((((x0 - (((Int32.toUInt32 x0 >>> (Int32.toUInt32 1 &&& Int32.toUInt32 31)).toInt32) &&& (1431655765 : Int32))) &&& (858993459 : Int32)) + (((Int32.toUInt32 (x0 - (((Int32.toUInt32 x0 >>> (Int32.toUInt32 1 &&& Int32.toUInt32 31)).toInt32) &&& (1431655765 : Int32))) >>> (Int32.toUInt32 2 &&& Int32.toUInt32 31)).toInt32) &&& (858993459 : Int32))) + ((Int32.toUInt32 (((x0 - (((Int32.toUInt32 x0 >>> (Int32.toUInt32 1 &&& Int32.toUInt32 31)).toInt32) &&& (1431655765 : Int32))) &&& (858993459 : Int32)) + (((Int32.toUInt32 (x0 - (((Int32.toUInt32 x0 >>> (Int32.toUInt32 1 &&& Int32.toUInt32 31)).toInt32) &&& (1431655765 : Int32))) >>> (Int32.toUInt32 2 &&& Int32.toUInt32 31)).toInt32) &&& (858993459 : Int32))) >>> (Int32.toUInt32 4 &&& Int32.toUInt32 31)).toInt32)) &&& (252645135 : Int32)) >>> (Int32.toUInt32 8 &&& Int32.toUInt32 31)).toInt32)) + ((Int32.toUInt32 ((((((x0 - (((Int32.toUInt32 x0 >>> (Int32.toUInt32 1 &&& Int32.toUInt32 31)).toInt32) &&& (1431655765 : Int32))) &&& (858993459 : Int32)) + (((Int32.toUInt32 (x0 - (((Int32.toUInt32 x0 >>> (Int32.toUInt32 1 &&& Int32.toUInt32 31)).toInt32) &&& (1431655765 : Int32))) >>> (Int32.toUInt32 2 &&& Int32.toUInt32 31)).toInt32) &&& (858993459 : Int32))) + ((Int32.toUInt32 (((x0 - (((Int32.toUInt32 x0 >>> (Int32.toUInt32 1 &&& Int32.toUInt32 31)).toInt32) &&& (1431655765 : Int32))) &&& (858993459 : Int32)) + (((Int32.toUInt32 (x0 - (((Int32.toUInt32 x0 >>> (Int32.toUInt32 1 &&& Int32.toUInt32 31)).toInt32) &&& (1431655765 : Int32))) >>> (Int32.toUInt32 2 &&& Int32.toUInt32 31)).toInt32) &&& (858993459 : Int32))) >>> (Int32.toUInt32 4 &&& Int32.toUInt32 31)).toInt32)) &&& (252645135 : Int32)) + ((Int32.toUInt32 (((((x0 - (((Int32.toUInt32 x0 >>> (Int32.toUInt32 1 &&& Int32.toUInt32 31)).toInt32) &&& (1431655765 : Int32))) &&& (858993459 : Int32)) + (((Int32.toUInt32 (x0 - (((Int32.toUInt32 x0 >>> (Int32.toUInt32 1 &&& Int32.toUInt32 31)).toInt32) &&& (1431655765 : Int32))) >>> (Int32.toUInt32 2 &&& Int32.toUInt32 31)).toInt32) &&& (858993459 : Int32))) + ((Int32.toUInt32 (((x0 - (((Int32.toUInt32 x0 >>> (Int32.toUInt32 1 &&& Int32.toUInt32 31)).toInt32) &&& (1431655765 : Int32))) &&& (858993459 : Int32)) + (((Int32.toUInt32 (x0 - (((Int32.toUInt32 x0 >>> (Int32.toUInt32 1 &&& Int32.toUInt32 31)).toInt32) &&& (1431655765 : Int32))) >>> (Int32.toUInt32 2 &&& Int32.toUInt32 31)).toInt32) &&& (858993459 : Int32))) >>> (Int32.toUInt32 4 &&& Int32.toUInt32 31)).toInt32)) &&& (252645135 : Int32)) >>> (Int32.toUInt32 8 &&& Int32.toUInt32 31)).toInt32)) >>> (Int32.toUInt32 16 &&& Int32.toUInt32 31)).toInt32)))]) hx hb dJ6_bitCount_0f7a4_47 rfl hl (by decide) rfl (fun ls hl => ?_)
  refine lv_iload_n hx hb dJ6_bitCount_0f7a4_48 rfl (lv_at hl 0 rfl) ?_
  refine lv_bipush (v := 63) hx hb dJ6_bitCount_0f7a4_49 (by decide) ?_
  refine lv_iand hx hb dJ6_bitCount_0f7a4_51 ?_
  exact W.iret (v := (((((((x0 - (((Int32.toUInt32 x0 >>> (Int32.toUInt32 1 &&& Int32.toUInt32 31)).toInt32) &&& (1431655765 : Int32))) &&& (858993459 : Int32)) + (((Int32.toUInt32 (x0 - (((Int32.toUInt32 x0 >>> (Int32.toUInt32 1 &&& Int32.toUInt32 31)).toInt32) &&& (1431655765 : Int32))) >>> (Int32.toUInt32 2 &&& Int32.toUInt32 31)).toInt32) &&& (858993459 : Int32))) + ((Int32.toUInt32 (((x0 - (((Int32.toUInt32 x0 >>> (Int32.toUInt32 1 &&& Int32.toUInt32 31)).toInt32) &&& (1431655765 : Int32))) &&& (858993459 : Int32)) + (((Int32.toUInt32 (x0 - (((Int32.toUInt32 x0 >>> (Int32.toUInt32 1 &&& Int32.toUInt32 31)).toInt32) &&& (1431655765 : Int32))) >>> (Int32.toUInt32 2 &&& Int32.toUInt32 31)).toInt32) &&& (858993459 : Int32))) >>> (Int32.toUInt32 4 &&& Int32.toUInt32 31)).toInt32)) &&& (252645135 : Int32)) + ((Int32.toUInt32 (((((x0 - (((Int32.toUInt32 x0 >>> (Int32.toUInt32 1 &&& Int32.toUInt32 31)).toInt32) &&& (1431655765 : Int32))) &&& (858993459 : Int32)) + (((Int32.toUInt32 (x0 - (((Int32.toUInt32 x0 >>> (Int32.toUInt32 1 &&& Int32.toUInt32 31)).toInt32) &&& (1431655765 : Int32))) >>> (Int32.toUInt32 2 &&& Int32.toUInt32 31)).toInt32) &&& (858993459 : Int32))) + ((Int32.toUInt32 (((x0 - (((Int32.toUInt32 x0 >>> (Int32.toUInt32 1 &&& Int32.toUInt32 31)).toInt32) &&& (1431655765 : Int32))) &&& (858993459 : Int32)) + (((Int32.toUInt32 (x0 - (((Int32.toUInt32 x0 >>> (Int32.toUInt32 1 &&& Int32.toUInt32 31)).toInt32) &&& (1431655765 : Int32))) >>> (Int32.toUInt32 2 &&& Int32.toUInt32 31)).toInt32) &&& (858993459 : Int32))) >>> (Int32.toUInt32 4 &&& Int32.toUInt32 31)).toInt32)) &&& (252645135 : Int32)) >>> (Int32.toUInt32 8 &&& Int32.toUInt32 31)).toInt32)) + ((Int32.toUInt32 ((((((x0 - (((Int32.toUInt32 x0 >>> (Int32.toUInt32 1 &&& Int32.toUInt32 31)).toInt32) &&& (1431655765 : Int32))) &&& (858993459 : Int32)) + (((Int32.toUInt32 (x0 - (((Int32.toUInt32 x0 >>> (Int32.toUInt32 1 &&& Int32.toUInt32 31)).toInt32) &&& (1431655765 : Int32))) >>> (Int32.toUInt32 2 &&& Int32.toUInt32 31)).toInt32) &&& (858993459 : Int32))) + ((Int32.toUInt32 (((x0 - (((Int32.toUInt32 x0 >>> (Int32.toUInt32 1 &&& Int32.toUInt32 31)).toInt32) &&& (1431655765 : Int32))) &&& (858993459 : Int32)) + (((Int32.toUInt32 (x0 - (((Int32.toUInt32 x0 >>> (Int32.toUInt32 1 &&& Int32.toUInt32 31)).toInt32) &&& (1431655765 : Int32))) >>> (Int32.toUInt32 2 &&& Int32.toUInt32 31)).toInt32) &&& (858993459 : Int32))) >>> (Int32.toUInt32 4 &&& Int32.toUInt32 31)).toInt32)) &&& (252645135 : Int32)) + ((Int32.toUInt32 (((((x0 - (((Int32.toUInt32 x0 >>> (Int32.toUInt32 1 &&& Int32.toUInt32 31)).toInt32) &&& (1431655765 : Int32))) &&& (858993459 : Int32)) + (((Int32.toUInt32 (x0 - (((Int32.toUInt32 x0 >>> (Int32.toUInt32 1 &&& Int32.toUInt32 31)).toInt32) &&& (1431655765 : Int32))) >>> (Int32.toUInt32 2 &&& Int32.toUInt32 31)).toInt32) &&& (858993459 : Int32))) + ((Int32.toUInt32 (((x0 - (((Int32.toUInt32 x0 >>> (Int32.toUInt32 1 &&& Int32.toUInt32 31)).toInt32) &&& (1431655765 : Int32))) &&& (858993459 : Int32)) + (((Int32.toUInt32 (x0 - (((Int32.toUInt32 x0 >>> (Int32.toUInt32 1 &&& Int32.toUInt32 31)).toInt32) &&& (1431655765 : Int32))) >>> (Int32.toUInt32 2 &&& Int32.toUInt32 31)).toInt32) &&& (858993459 : Int32))) >>> (Int32.toUInt32 4 &&& Int32.toUInt32 31)).toInt32)) &&& (252645135 : Int32)) >>> (Int32.toUInt32 8 &&& Int32.toUInt32 31)).toInt32)) >>> (Int32.toUInt32 16 &&& Int32.toUInt32 31)).toInt32)) &&& (63 : Int32)) hx hb hr (fun t ht hW => ⟨_, rfl, rfl, ht⟩) (fun q hq => absurd hq List.not_mem_nil) dJ6_bitCount_0f7a4_52
set_option maxRecDepth 20000 in
theorem ggX2_lineCount_J6_bitCount_0f7a4 : GoodIn wsX2_lineCount wsJ6_bitCount_0f7a4 := goodIn_r _ [6, 7, 8, 9] (by decide +kernel) (by decide +kernel)
set_option maxRecDepth 20000 in
theorem gX2_lineCount_J6_bitCount_0f7a4 : GoodIn wsX2_lineCount (va_wsS RX2 65 yJ6_bitCount_0f7a4 wsJ6_bitCount_0f7a4) := goodIn_app (goodIn_of _ (by decide +kernel)) ggX2_lineCount_J6_bitCount_0f7a4
theorem dX2_lineCount_12 : decode cX2_lineCount 12 = .ok (.iload_n 1, 1) := by decide +kernel
theorem dX2_lineCount_13 : decode cX2_lineCount 13 = .ok (.aload_n 0, 1) := by decide +kernel
theorem dX2_lineCount_14 : decode cX2_lineCount 14 = .ok (.getfield 9, 3) := by decide +kernel
theorem dX2_lineCount_17 : decode cX2_lineCount 17 = .ok (.iload_n 2, 1) := by decide +kernel
theorem dX2_lineCount_18 : decode cX2_lineCount 18 = .ok (.iaload, 1) := by decide +kernel
theorem dX2_lineCount_19 : decode cX2_lineCount 19 = .ok (.invokestatic 65, 3) := by decide +kernel
theorem dX2_lineCount_22 : decode cX2_lineCount 22 = .ok (.iadd, 1) := by decide +kernel
theorem dX2_lineCount_23 : decode cX2_lineCount 23 = .ok (.istore_n 1, 1) := by decide +kernel
theorem dX2_lineCount_24 : decode cX2_lineCount 24 = .ok (.iinc 2 1, 3) := by decide +kernel
theorem dX2_lineCount_27 : decode cX2_lineCount 27 = .ok (.goto (-23), 3) := by decide +kernel
/-- the least point of a set -/
def lo (s : Nat) : Nat := (List.range 12).findIdx (fun i => s.testBit i)
theorem dJ6_numberOfLeadingZeros_0f7a4_13 : decode cJ6_numberOfLeadingZeros_0f7a4 13 = .ok (.iconst 0, 1) := by decide +kernel
theorem dJ6_numberOfLeadingZeros_0f7a4_15 : decode cJ6_numberOfLeadingZeros_0f7a4 15 = .ok (.bipush 31, 2) := by decide +kernel
theorem dJ6_numberOfLeadingZeros_0f7a4_17 : decode cJ6_numberOfLeadingZeros_0f7a4 17 = .ok (.istore_n 1, 1) := by decide +kernel
theorem dJ6_numberOfLeadingZeros_0f7a4_18 : decode cJ6_numberOfLeadingZeros_0f7a4 18 = .ok (.iload_n 0, 1) := by decide +kernel
theorem dJ6_numberOfLeadingZeros_0f7a4_19 : decode cJ6_numberOfLeadingZeros_0f7a4 19 = .ok (.ldc_w 264, 3) := by decide +kernel
theorem dJ6_numberOfLeadingZeros_0f7a4_22 : decode cJ6_numberOfLeadingZeros_0f7a4 22 = .ok (.if_icmp .lt 11, 3) := by decide +kernel
theorem dJ6_numberOfLeadingZeros_0f7a4_25 : decode cJ6_numberOfLeadingZeros_0f7a4 25 = .ok (.iinc 1 (-16), 3) := by decide +kernel
theorem dJ6_numberOfLeadingZeros_0f7a4_28 : decode cJ6_numberOfLeadingZeros_0f7a4 28 = .ok (.iload_n 0, 1) := by decide +kernel
theorem dJ6_numberOfLeadingZeros_0f7a4_29 : decode cJ6_numberOfLeadingZeros_0f7a4 29 = .ok (.bipush 16, 2) := by decide +kernel
theorem dJ6_numberOfLeadingZeros_0f7a4_31 : decode cJ6_numberOfLeadingZeros_0f7a4 31 = .ok (.iushr, 1) := by decide +kernel
theorem dJ6_numberOfLeadingZeros_0f7a4_32 : decode cJ6_numberOfLeadingZeros_0f7a4 32 = .ok (.istore_n 0, 1) := by decide +kernel
theorem dJ6_numberOfLeadingZeros_0f7a4_33 : decode cJ6_numberOfLeadingZeros_0f7a4 33 = .ok (.iload_n 0, 1) := by decide +kernel
theorem dJ6_numberOfLeadingZeros_0f7a4_34 : decode cJ6_numberOfLeadingZeros_0f7a4 34 = .ok (.sipush 256, 3) := by decide +kernel
theorem dJ6_numberOfLeadingZeros_0f7a4_37 : decode cJ6_numberOfLeadingZeros_0f7a4 37 = .ok (.if_icmp .lt 11, 3) := by decide +kernel
theorem dJ6_numberOfLeadingZeros_0f7a4_40 : decode cJ6_numberOfLeadingZeros_0f7a4 40 = .ok (.iinc 1 (-8), 3) := by decide +kernel
theorem dJ6_numberOfLeadingZeros_0f7a4_43 : decode cJ6_numberOfLeadingZeros_0f7a4 43 = .ok (.iload_n 0, 1) := by decide +kernel
theorem dJ6_numberOfLeadingZeros_0f7a4_44 : decode cJ6_numberOfLeadingZeros_0f7a4 44 = .ok (.bipush 8, 2) := by decide +kernel
theorem dJ6_numberOfLeadingZeros_0f7a4_46 : decode cJ6_numberOfLeadingZeros_0f7a4 46 = .ok (.iushr, 1) := by decide +kernel
theorem dJ6_numberOfLeadingZeros_0f7a4_47 : decode cJ6_numberOfLeadingZeros_0f7a4 47 = .ok (.istore_n 0, 1) := by decide +kernel
theorem dJ6_numberOfLeadingZeros_0f7a4_48 : decode cJ6_numberOfLeadingZeros_0f7a4 48 = .ok (.iload_n 0, 1) := by decide +kernel
theorem dJ6_numberOfLeadingZeros_0f7a4_49 : decode cJ6_numberOfLeadingZeros_0f7a4 49 = .ok (.bipush 16, 2) := by decide +kernel
theorem dJ6_numberOfLeadingZeros_0f7a4_51 : decode cJ6_numberOfLeadingZeros_0f7a4 51 = .ok (.if_icmp .lt 10, 3) := by decide +kernel
theorem dJ6_numberOfLeadingZeros_0f7a4_54 : decode cJ6_numberOfLeadingZeros_0f7a4 54 = .ok (.iinc 1 (-4), 3) := by decide +kernel
theorem dJ6_numberOfLeadingZeros_0f7a4_57 : decode cJ6_numberOfLeadingZeros_0f7a4 57 = .ok (.iload_n 0, 1) := by decide +kernel
theorem dJ6_numberOfLeadingZeros_0f7a4_58 : decode cJ6_numberOfLeadingZeros_0f7a4 58 = .ok (.iconst 4, 1) := by decide +kernel
theorem dJ6_numberOfLeadingZeros_0f7a4_59 : decode cJ6_numberOfLeadingZeros_0f7a4 59 = .ok (.iushr, 1) := by decide +kernel
theorem dJ6_numberOfLeadingZeros_0f7a4_60 : decode cJ6_numberOfLeadingZeros_0f7a4 60 = .ok (.istore_n 0, 1) := by decide +kernel
theorem dJ6_numberOfLeadingZeros_0f7a4_61 : decode cJ6_numberOfLeadingZeros_0f7a4 61 = .ok (.iload_n 0, 1) := by decide +kernel
theorem dJ6_numberOfLeadingZeros_0f7a4_62 : decode cJ6_numberOfLeadingZeros_0f7a4 62 = .ok (.iconst 4, 1) := by decide +kernel
theorem dJ6_numberOfLeadingZeros_0f7a4_63 : decode cJ6_numberOfLeadingZeros_0f7a4 63 = .ok (.if_icmp .lt 10, 3) := by decide +kernel
theorem dJ6_numberOfLeadingZeros_0f7a4_66 : decode cJ6_numberOfLeadingZeros_0f7a4 66 = .ok (.iinc 1 (-2), 3) := by decide +kernel
theorem dJ6_numberOfLeadingZeros_0f7a4_69 : decode cJ6_numberOfLeadingZeros_0f7a4 69 = .ok (.iload_n 0, 1) := by decide +kernel
theorem dJ6_numberOfLeadingZeros_0f7a4_70 : decode cJ6_numberOfLeadingZeros_0f7a4 70 = .ok (.iconst 2, 1) := by decide +kernel
theorem dJ6_numberOfLeadingZeros_0f7a4_71 : decode cJ6_numberOfLeadingZeros_0f7a4 71 = .ok (.iushr, 1) := by decide +kernel
theorem dJ6_numberOfLeadingZeros_0f7a4_72 : decode cJ6_numberOfLeadingZeros_0f7a4 72 = .ok (.istore_n 0, 1) := by decide +kernel
theorem dJ6_numberOfLeadingZeros_0f7a4_73 : decode cJ6_numberOfLeadingZeros_0f7a4 73 = .ok (.iload_n 1, 1) := by decide +kernel
theorem dJ6_numberOfLeadingZeros_0f7a4_74 : decode cJ6_numberOfLeadingZeros_0f7a4 74 = .ok (.iload_n 0, 1) := by decide +kernel
theorem dJ6_numberOfLeadingZeros_0f7a4_75 : decode cJ6_numberOfLeadingZeros_0f7a4 75 = .ok (.iconst 1, 1) := by decide +kernel
theorem dJ6_numberOfLeadingZeros_0f7a4_76 : decode cJ6_numberOfLeadingZeros_0f7a4 76 = .ok (.iushr, 1) := by decide +kernel
theorem dJ6_numberOfLeadingZeros_0f7a4_77 : decode cJ6_numberOfLeadingZeros_0f7a4 77 = .ok (.isub, 1) := by decide +kernel
theorem dJ6_numberOfLeadingZeros_0f7a4_78 : decode cJ6_numberOfLeadingZeros_0f7a4 78 = .ok (.ireturn, 1) := by decide +kernel
theorem dX1_recall_0 : decode cX1_recall 0 = .ok (.iload_n 1, 1) := by decide +kernel
theorem dX1_recall_1 : decode cX1_recall 1 = .ok (.ifCond .lt 28, 3) := by decide +kernel
theorem dX1_recall_10 : decode cX1_recall 10 = .ok (.if_icmp .ge 19, 3) := by decide +kernel
theorem dX1_recall_13 : decode cX1_recall 13 = .ok (.aload_n 0, 1) := by decide +kernel
theorem dX1_recall_14 : decode cX1_recall 14 = .ok (.getfield 21, 3) := by decide +kernel
theorem dX1_recall_17 : decode cX1_recall 17 = .ok (.iload_n 1, 1) := by decide +kernel
theorem dX1_recall_18 : decode cX1_recall 18 = .ok (.iaload, 1) := by decide +kernel
theorem dX1_recall_19 : decode cX1_recall 19 = .ok (.bipush 16, 2) := by decide +kernel
theorem dX1_recall_21 : decode cX1_recall 21 = .ok (.iushr, 1) := by decide +kernel
theorem dX1_recall_22 : decode cX1_recall 22 = .ok (.aload_n 0, 1) := by decide +kernel
theorem dX1_recall_23 : decode cX1_recall 23 = .ok (.getfield 9, 3) := by decide +kernel
theorem dX1_recall_26 : decode cX1_recall 26 = .ok (.if_icmp .eq 5, 3) := by decide +kernel
theorem dX1_recall_31 : decode cX1_recall 31 = .ok (.aload_n 0, 1) := by decide +kernel
theorem dX1_recall_32 : decode cX1_recall 32 = .ok (.getfield 21, 3) := by decide +kernel
theorem dX1_recall_35 : decode cX1_recall 35 = .ok (.iload_n 1, 1) := by decide +kernel
theorem dX1_recall_36 : decode cX1_recall 36 = .ok (.iaload, 1) := by decide +kernel
theorem dX1_recall_37 : decode cX1_recall 37 = .ok (.ldc 25, 2) := by decide +kernel
theorem dX1_recall_39 : decode cX1_recall 39 = .ok (.iand, 1) := by decide +kernel
theorem dX1_recall_4 : decode cX1_recall 4 = .ok (.iload_n 1, 1) := by decide +kernel
theorem dX1_recall_40 : decode cX1_recall 40 = .ok (.ireturn, 1) := by decide +kernel
theorem dX1_recall_5 : decode cX1_recall 5 = .ok (.aload_n 0, 1) := by decide +kernel
theorem dX1_recall_6 : decode cX1_recall 6 = .ok (.getfield 21, 3) := by decide +kernel
theorem dX1_recall_9 : decode cX1_recall 9 = .ok (.arraylength, 1) := by decide +kernel
theorem dX1_recall_29 : decode cX1_recall 29 = .ok (.iconst (-1), 1) := by decide +kernel
theorem dX1_recall_30 : decode cX1_recall 30 = .ok (.ireturn, 1) := by decide +kernel
theorem dX1_keep_0 : decode cX1_keep 0 = .ok (.iload_n 1, 1) := by decide +kernel
theorem dX1_keep_1 : decode cX1_keep 1 = .ok (.ifCond .lt 30, 3) := by decide +kernel
theorem dX1_keep_10 : decode cX1_keep 10 = .ok (.if_icmp .ge 21, 3) := by decide +kernel
theorem dX1_keep_13 : decode cX1_keep 13 = .ok (.aload_n 0, 1) := by decide +kernel
theorem dX1_keep_14 : decode cX1_keep 14 = .ok (.getfield 21, 3) := by decide +kernel
theorem dX1_keep_17 : decode cX1_keep 17 = .ok (.iload_n 1, 1) := by decide +kernel
theorem dX1_keep_18 : decode cX1_keep 18 = .ok (.aload_n 0, 1) := by decide +kernel
theorem dX1_keep_19 : decode cX1_keep 19 = .ok (.getfield 9, 3) := by decide +kernel
theorem dX1_keep_22 : decode cX1_keep 22 = .ok (.bipush 16, 2) := by decide +kernel
theorem dX1_keep_24 : decode cX1_keep 24 = .ok (.ishl, 1) := by decide +kernel
theorem dX1_keep_25 : decode cX1_keep 25 = .ok (.iload_n 2, 1) := by decide +kernel
theorem dX1_keep_26 : decode cX1_keep 26 = .ok (.ldc 25, 2) := by decide +kernel
theorem dX1_keep_28 : decode cX1_keep 28 = .ok (.iand, 1) := by decide +kernel
theorem dX1_keep_29 : decode cX1_keep 29 = .ok (.ior, 1) := by decide +kernel
theorem dX1_keep_30 : decode cX1_keep 30 = .ok (.iastore, 1) := by decide +kernel
theorem dX1_keep_31 : decode cX1_keep 31 = .ok (.return_, 1) := by decide +kernel
theorem dX1_keep_4 : decode cX1_keep 4 = .ok (.iload_n 1, 1) := by decide +kernel
theorem dX1_keep_5 : decode cX1_keep 5 = .ok (.aload_n 0, 1) := by decide +kernel
theorem dX1_keep_6 : decode cX1_keep 6 = .ok (.getfield 21, 3) := by decide +kernel
theorem dX1_keep_9 : decode cX1_keep 9 = .ok (.arraylength, 1) := by decide +kernel
theorem dX1_forget_0 : decode cX1_forget 0 = .ok (.aload_n 0, 1) := by decide +kernel
theorem dX1_forget_1 : decode cX1_forget 1 = .ok (.getfield 9, 3) := by decide +kernel
theorem dX1_forget_39 : decode cX1_forget 39 = .ok (.aload_n 0, 1) := by decide +kernel
theorem dX1_forget_4 : decode cX1_forget 4 = .ok (.sipush 32767, 3) := by decide +kernel
theorem dX1_forget_40 : decode cX1_forget 40 = .ok (.dup, 1) := by decide +kernel
theorem dX1_forget_41 : decode cX1_forget 41 = .ok (.getfield 9, 3) := by decide +kernel
theorem dX1_forget_44 : decode cX1_forget 44 = .ok (.iconst 1, 1) := by decide +kernel
theorem dX1_forget_45 : decode cX1_forget 45 = .ok (.iadd, 1) := by decide +kernel
theorem dX1_forget_46 : decode cX1_forget 46 = .ok (.putfield 9, 3) := by decide +kernel
theorem dX1_forget_49 : decode cX1_forget 49 = .ok (.return_, 1) := by decide +kernel
theorem dX1_forget_7 : decode cX1_forget 7 = .ok (.if_icmp .ne 32, 3) := by decide +kernel
set_option maxRecDepth 20000 in
theorem ggX3_bestOf_X1_keep : GoodIn wsX3_bestOf wsX1_keep := goodIn_r _ [29, 13, 14, 15, 37, 38] (by decide +kernel) (by decide +kernel)
set_option maxRecDepth 20000 in
theorem gX3_bestOf_X1_keep : GoodIn wsX3_bestOf (wsV RX3 65 RX1 yX1_keep wsX1_keep) := goodIn_app (goodIn_of _ (by decide +kernel)) ggX3_bestOf_X1_keep
theorem dX3_bestOf_164 : decode cX3_bestOf 164 = .ok (.aload_n 0, 1) := by decide +kernel
theorem dX3_bestOf_165 : decode cX3_bestOf 165 = .ok (.getfield 14, 3) := by decide +kernel
theorem dX3_bestOf_168 : decode cX3_bestOf 168 = .ok (.iload_n 1, 1) := by decide +kernel
theorem dX3_bestOf_169 : decode cX3_bestOf 169 = .ok (.iload 8, 2) := by decide +kernel
theorem dX3_bestOf_171 : decode cX3_bestOf 171 = .ok (.invokevirtual 65, 3) := by decide +kernel
theorem dX3_bestOf_174 : decode cX3_bestOf 174 = .ok (.iload 8, 2) := by decide +kernel
theorem dX3_bestOf_176 : decode cX3_bestOf 176 = .ok (.ireturn, 1) := by decide +kernel
theorem dX3_bestOf_106 : decode cX3_bestOf 106 = .ok (.iload 10, 2) := by decide +kernel
theorem dX3_bestOf_108 : decode cX3_bestOf 108 = .ok (.iload_n 3, 1) := by decide +kernel
theorem dX3_bestOf_109 : decode cX3_bestOf 109 = .ok (.if_icmp .ge 55, 3) := by decide +kernel
theorem dX3_bestOf_112 : decode cX3_bestOf 112 = .ok (.iload 9, 2) := by decide +kernel
theorem dX3_bestOf_114 : decode cX3_bestOf 114 = .ok (.ifCond .eq 50, 3) := by decide +kernel
theorem dX3_bestOf_117 : decode cX3_bestOf 117 = .ok (.iload 8, 2) := by decide +kernel
theorem dX3_bestOf_119 : decode cX3_bestOf 119 = .ok (.iload 7, 2) := by decide +kernel
theorem dX3_bestOf_121 : decode cX3_bestOf 121 = .ok (.if_icmp .ne 43, 3) := by decide +kernel
theorem dX3_bestOf_124 : decode cX3_bestOf 124 = .ok (.iload 6, 2) := by decide +kernel
theorem dX3_bestOf_126 : decode cX3_bestOf 126 = .ok (.iload 10, 2) := by decide +kernel
theorem dX3_bestOf_128 : decode cX3_bestOf 128 = .ok (.ishr, 1) := by decide +kernel
theorem dX3_bestOf_129 : decode cX3_bestOf 129 = .ok (.iconst 1, 1) := by decide +kernel
theorem dX3_bestOf_130 : decode cX3_bestOf 130 = .ok (.iand, 1) := by decide +kernel
theorem dX3_bestOf_131 : decode cX3_bestOf 131 = .ok (.ifCond .eq 27, 3) := by decide +kernel
theorem dX3_bestOf_158 : decode cX3_bestOf 158 = .ok (.iinc 10 1, 3) := by decide +kernel
theorem dX3_bestOf_161 : decode cX3_bestOf 161 = .ok (.goto (-55), 3) := by decide +kernel
set_option maxRecDepth 20000 in
theorem ggX3_bestOf_X3_bestOf : GoodIn wsX3_bestOf wsX3_bestOf := goodIn_r _ (0 :: 1 :: 2 :: 3 :: 4 :: 5 :: 6 :: 7 :: 8 :: 9 :: 10 :: 11 :: 12 :: 13 :: 14 :: 15 :: 16 :: 17 :: 18 :: 19 :: 20 :: 21 :: 22 :: 23 :: 24 :: 25 :: 26 :: 27 :: 28 :: 29 :: 30 :: 31 :: 32 :: 33 :: 34 :: 35 :: 36 :: 37 :: 38 :: []) (by decide +kernel) (by decide +kernel)
set_option maxRecDepth 20000 in
theorem gX3_bestOf_X3_bestOf : GoodIn wsX3_bestOf (wsV RX3 42 RX3 yX3_bestOf wsX3_bestOf) := goodIn_app (goodIn_of _ (by decide +kernel)) ggX3_bestOf_X3_bestOf
theorem dX3_bestOf_134 : decode cX3_bestOf 134 = .ok (.aload_n 0, 1) := by decide +kernel
theorem dX3_bestOf_135 : decode cX3_bestOf 135 = .ok (.iload 5, 2) := by decide +kernel
theorem dX3_bestOf_137 : decode cX3_bestOf 137 = .ok (.iconst 1, 1) := by decide +kernel
theorem dX3_bestOf_138 : decode cX3_bestOf 138 = .ok (.iload 10, 2) := by decide +kernel
theorem dX3_bestOf_140 : decode cX3_bestOf 140 = .ok (.ishl, 1) := by decide +kernel
theorem dX3_bestOf_141 : decode cX3_bestOf 141 = .ok (.iconst (-1), 1) := by decide +kernel
theorem dX3_bestOf_142 : decode cX3_bestOf 142 = .ok (.ixor, 1) := by decide +kernel
theorem dX3_bestOf_143 : decode cX3_bestOf 143 = .ok (.iand, 1) := by decide +kernel
theorem dX3_bestOf_144 : decode cX3_bestOf 144 = .ok (.iload_n 2, 1) := by decide +kernel
theorem dX3_bestOf_145 : decode cX3_bestOf 145 = .ok (.iconst 1, 1) := by decide +kernel
theorem dX3_bestOf_146 : decode cX3_bestOf 146 = .ok (.iadd, 1) := by decide +kernel
theorem dX3_bestOf_147 : decode cX3_bestOf 147 = .ok (.invokevirtual 42, 3) := by decide +kernel
theorem dX3_bestOf_150 : decode cX3_bestOf 150 = .ok (.iload 7, 2) := by decide +kernel
theorem dX3_bestOf_152 : decode cX3_bestOf 152 = .ok (.if_icmp .ne 6, 3) := by decide +kernel
theorem dX3_bestOf_155 : decode cX3_bestOf 155 = .ok (.iinc 8 1, 3) := by decide +kernel
set_option maxRecDepth 20000 in
theorem ggX3_bestOf_X1_recall : GoodIn wsX3_bestOf wsX1_recall := goodIn_r _ [12, 13, 14, 15, 37, 38] (by decide +kernel) (by decide +kernel)
set_option maxRecDepth 20000 in
theorem gX3_bestOf_X1_recall : GoodIn wsX3_bestOf (wsV RX3 58 RX1 yX1_recall wsX1_recall) := goodIn_app (goodIn_of _ (by decide +kernel)) ggX3_bestOf_X1_recall
theorem dX3_bestOf_13 : decode cX3_bestOf 13 = .ok (.iload_n 3, 1) := by decide +kernel
theorem dX3_bestOf_14 : decode cX3_bestOf 14 = .ok (.bipush 12, 2) := by decide +kernel
theorem dX3_bestOf_16 : decode cX3_bestOf 16 = .ok (.if_icmp .ge 9, 3) := by decide +kernel
theorem dX3_bestOf_19 : decode cX3_bestOf 19 = .ok (.iload_n 2, 1) := by decide +kernel
theorem dX3_bestOf_20 : decode cX3_bestOf 20 = .ok (.bipush 12, 2) := by decide +kernel
theorem dX3_bestOf_22 : decode cX3_bestOf 22 = .ok (.if_icmp .le 5, 3) := by decide +kernel
theorem dX3_bestOf_27 : decode cX3_bestOf 27 = .ok (.aload_n 0, 1) := by decide +kernel
theorem dX3_bestOf_28 : decode cX3_bestOf 28 = .ok (.getfield 14, 3) := by decide +kernel
theorem dX3_bestOf_31 : decode cX3_bestOf 31 = .ok (.iload_n 1, 1) := by decide +kernel
theorem dX3_bestOf_32 : decode cX3_bestOf 32 = .ok (.invokevirtual 58, 3) := by decide +kernel
theorem dX3_bestOf_35 : decode cX3_bestOf 35 = .ok (.istore 4, 2) := by decide +kernel
theorem dX3_bestOf_37 : decode cX3_bestOf 37 = .ok (.iload 4, 2) := by decide +kernel
theorem dX3_bestOf_39 : decode cX3_bestOf 39 = .ok (.ifCond .lt 6, 3) := by decide +kernel
theorem dX3_bestOf_42 : decode cX3_bestOf 42 = .ok (.iload 4, 2) := by decide +kernel
theorem dX3_bestOf_44 : decode cX3_bestOf 44 = .ok (.ireturn, 1) := by decide +kernel
set_option maxRecDepth 20000 in
theorem ggX3_bestOf_J6_bitCount_0f7a4 : GoodIn wsX3_bestOf wsJ6_bitCount_0f7a4 := goodIn_r _ [22, 23, 24, 25] (by decide +kernel) (by decide +kernel)
set_option maxRecDepth 20000 in
theorem gX3_bestOf_J6_bitCount_0f7a4 : GoodIn wsX3_bestOf (va_wsS RX3 46 yJ6_bitCount_0f7a4 wsJ6_bitCount_0f7a4) := goodIn_app (goodIn_of _ (by decide +kernel)) ggX3_bestOf_J6_bitCount_0f7a4
theorem dX3_bestOf_100 : decode cX3_bestOf 100 = .ok (.iconst 0, 1) := by decide +kernel
theorem dX3_bestOf_101 : decode cX3_bestOf 101 = .ok (.istore 9, 2) := by decide +kernel
theorem dX3_bestOf_103 : decode cX3_bestOf 103 = .ok (.iconst 0, 1) := by decide +kernel
theorem dX3_bestOf_104 : decode cX3_bestOf 104 = .ok (.istore 10, 2) := by decide +kernel
theorem dX3_bestOf_45 : decode cX3_bestOf 45 = .ok (.iload_n 1, 1) := by decide +kernel
theorem dX3_bestOf_46 : decode cX3_bestOf 46 = .ok (.iconst 1, 1) := by decide +kernel
theorem dX3_bestOf_47 : decode cX3_bestOf 47 = .ok (.iload_n 3, 1) := by decide +kernel
theorem dX3_bestOf_48 : decode cX3_bestOf 48 = .ok (.ishl, 1) := by decide +kernel
theorem dX3_bestOf_49 : decode cX3_bestOf 49 = .ok (.iconst (-1), 1) := by decide +kernel
theorem dX3_bestOf_50 : decode cX3_bestOf 50 = .ok (.ixor, 1) := by decide +kernel
theorem dX3_bestOf_51 : decode cX3_bestOf 51 = .ok (.iand, 1) := by decide +kernel
theorem dX3_bestOf_52 : decode cX3_bestOf 52 = .ok (.istore 5, 2) := by decide +kernel
theorem dX3_bestOf_54 : decode cX3_bestOf 54 = .ok (.aload_n 0, 1) := by decide +kernel
theorem dX3_bestOf_55 : decode cX3_bestOf 55 = .ok (.getfield 23, 3) := by decide +kernel
theorem dX3_bestOf_58 : decode cX3_bestOf 58 = .ok (.getfield 61, 3) := by decide +kernel
theorem dX3_bestOf_61 : decode cX3_bestOf 61 = .ok (.iload_n 3, 1) := by decide +kernel
theorem dX3_bestOf_62 : decode cX3_bestOf 62 = .ok (.iaload, 1) := by decide +kernel
theorem dX3_bestOf_63 : decode cX3_bestOf 63 = .ok (.iload 5, 2) := by decide +kernel
theorem dX3_bestOf_65 : decode cX3_bestOf 65 = .ok (.iand, 1) := by decide +kernel
theorem dX3_bestOf_66 : decode cX3_bestOf 66 = .ok (.istore 6, 2) := by decide +kernel
theorem dX3_bestOf_68 : decode cX3_bestOf 68 = .ok (.aload_n 0, 1) := by decide +kernel
theorem dX3_bestOf_69 : decode cX3_bestOf 69 = .ok (.iload 5, 2) := by decide +kernel
theorem dX3_bestOf_71 : decode cX3_bestOf 71 = .ok (.iload_n 2, 1) := by decide +kernel
theorem dX3_bestOf_72 : decode cX3_bestOf 72 = .ok (.iconst 1, 1) := by decide +kernel
theorem dX3_bestOf_73 : decode cX3_bestOf 73 = .ok (.iadd, 1) := by decide +kernel
theorem dX3_bestOf_74 : decode cX3_bestOf 74 = .ok (.invokevirtual 42, 3) := by decide +kernel
theorem dX3_bestOf_77 : decode cX3_bestOf 77 = .ok (.istore 7, 2) := by decide +kernel
theorem dX3_bestOf_79 : decode cX3_bestOf 79 = .ok (.iload 7, 2) := by decide +kernel
theorem dX3_bestOf_81 : decode cX3_bestOf 81 = .ok (.istore 8, 2) := by decide +kernel
theorem dX3_bestOf_83 : decode cX3_bestOf 83 = .ok (.iconst 2, 1) := by decide +kernel
theorem dX3_bestOf_84 : decode cX3_bestOf 84 = .ok (.iload 7, 2) := by decide +kernel
theorem dX3_bestOf_86 : decode cX3_bestOf 86 = .ok (.imul, 1) := by decide +kernel
theorem dX3_bestOf_87 : decode cX3_bestOf 87 = .ok (.iconst 2, 1) := by decide +kernel
theorem dX3_bestOf_88 : decode cX3_bestOf 88 = .ok (.iadd, 1) := by decide +kernel
theorem dX3_bestOf_89 : decode cX3_bestOf 89 = .ok (.iload_n 1, 1) := by decide +kernel
theorem dX3_bestOf_90 : decode cX3_bestOf 90 = .ok (.invokestatic 46, 3) := by decide +kernel
theorem dX3_bestOf_93 : decode cX3_bestOf 93 = .ok (.if_icmp .gt 7, 3) := by decide +kernel
theorem dX3_bestOf_96 : decode cX3_bestOf 96 = .ok (.iconst 1, 1) := by decide +kernel
theorem dX3_bestOf_97 : decode cX3_bestOf 97 = .ok (.goto 4, 3) := by decide +kernel
set_option maxRecDepth 20000 in
theorem ggX3_notice_X1_forget : GoodIn wsX3_notice wsX1_forget := goodIn_r _ [9, 10, 11, 19, 20] (by decide +kernel) (by decide +kernel)
set_option maxRecDepth 20000 in
theorem gX3_notice_X1_forget : GoodIn wsX3_notice (wsV RX3 36 RX1 yX1_forget wsX1_forget) := goodIn_app (goodIn_of _ (by decide +kernel)) ggX3_notice_X1_forget
theorem dX3_notice_14 : decode cX3_notice 14 = .ok (.aload_n 0, 1) := by decide +kernel
theorem dX3_notice_15 : decode cX3_notice 15 = .ok (.aload_n 0, 1) := by decide +kernel
theorem dX3_notice_16 : decode cX3_notice 16 = .ok (.getfield 23, 3) := by decide +kernel
theorem dX3_notice_19 : decode cX3_notice 19 = .ok (.getfield 31, 3) := by decide +kernel
theorem dX3_notice_22 : decode cX3_notice 22 = .ok (.putfield 27, 3) := by decide +kernel
theorem dX3_notice_25 : decode cX3_notice 25 = .ok (.aload_n 0, 1) := by decide +kernel
theorem dX3_notice_26 : decode cX3_notice 26 = .ok (.getfield 14, 3) := by decide +kernel
theorem dX3_notice_29 : decode cX3_notice 29 = .ok (.invokevirtual 36, 3) := by decide +kernel
theorem dX3_notice_32 : decode cX3_notice 32 = .ok (.aload_n 0, 1) := by decide +kernel
theorem dX3_notice_33 : decode cX3_notice 33 = .ok (.getfield 20, 3) := by decide +kernel
theorem dX3_notice_36 : decode cX3_notice 36 = .ok (.invokevirtual 36, 3) := by decide +kernel
