set_option maxRecDepth 20000 in
theorem ggX11_ways_X2_all : GoodIn wsX11_ways wsX2_all := goodIn_r _ [7, 8, 86, 87, 88] (by decide +kernel) (by decide +kernel)
set_option maxRecDepth 20000 in
theorem gX11_ways_X2_all : GoodIn wsX11_ways (wsV RX11 128 RX2 yX2_all wsX2_all) := goodIn_app (goodIn_of _ (by decide +kernel)) ggX11_ways_X2_all
set_option maxRecDepth 20000 in
theorem ggX11_ways_X3_number : GoodIn wsX11_ways wsX3_number := goodIn_r _ [13, 14, 15, 16, 17, 18, 19, 20, 12, 21, 22, 23, 24, 25, 26, 27, 28, 29, 30, 31, 32, 33, 34, 35, 36, 37, 38, 39, 40, 41, 42, 43, 44, 45, 46, 47, 48, 49, 50, 51, 52, 53, 54, 55, 56, 57, 58, 59, 60, 61, 62, 63, 64, 65, 66, 67, 68, 69, 89, 90, 91, 92, 93, 94, 86, 87, 88] (by decide +kernel) (by decide +kernel)
set_option maxRecDepth 20000 in
theorem gX11_ways_X3_number : GoodIn wsX11_ways (wsV RX11 153 RX3 yX3_number wsX3_number) := goodIn_app (goodIn_of _ (by decide +kernel)) ggX11_ways_X3_number
theorem dX11_ways_0 : decode cX11_ways 0 = .ok (.iload_n 1, 1) := by decide +kernel
theorem dX11_ways_1 : decode cX11_ways 1 = .ok (.ifCond .lt 9, 3) := by decide +kernel
theorem dX11_ways_10 : decode cX11_ways 10 = .ok (.bipush (-2), 2) := by decide +kernel
theorem dX11_ways_12 : decode cX11_ways 12 = .ok (.ireturn, 1) := by decide +kernel
theorem dX11_ways_13 : decode cX11_ways 13 = .ok (.aload_n 0, 1) := by decide +kernel
theorem dX11_ways_14 : decode cX11_ways 14 = .ok (.getfield 21, 3) := by decide +kernel
theorem dX11_ways_17 : decode cX11_ways 17 = .ok (.aload_n 0, 1) := by decide +kernel
theorem dX11_ways_18 : decode cX11_ways 18 = .ok (.getfield 12, 3) := by decide +kernel
theorem dX11_ways_21 : decode cX11_ways 21 = .ok (.invokevirtual 128, 3) := by decide +kernel
theorem dX11_ways_24 : decode cX11_ways 24 = .ok (.iload_n 1, 1) := by decide +kernel
theorem dX11_ways_25 : decode cX11_ways 25 = .ok (.invokevirtual 153, 3) := by decide +kernel
theorem dX11_ways_28 : decode cX11_ways 28 = .ok (.ireturn, 1) := by decide +kernel
theorem dX11_ways_4 : decode cX11_ways 4 = .ok (.iload_n 1, 1) := by decide +kernel
theorem dX11_ways_5 : decode cX11_ways 5 = .ok (.bipush 6, 2) := by decide +kernel
theorem dX11_ways_7 : decode cX11_ways 7 = .ok (.if_icmp .le 6, 3) := by decide +kernel
set_option maxRecDepth 20000 in
theorem ggX11_alone_X2_hasPoint : GoodIn wsX11_alone wsX2_hasPoint := goodIn_r _ [7, 8, 102, 103, 104] (by decide +kernel) (by decide +kernel)
set_option maxRecDepth 20000 in
theorem gX11_alone_X2_hasPoint : GoodIn wsX11_alone (wsV RX11 116 RX2 yX2_hasPoint wsX2_hasPoint) := goodIn_app (goodIn_of _ (by decide +kernel)) ggX11_alone_X2_hasPoint
theorem dX11_alone_0 : decode cX11_alone 0 = .ok (.aload_n 0, 1) := by decide +kernel
theorem dX11_alone_1 : decode cX11_alone 1 = .ok (.getfield 12, 3) := by decide +kernel
theorem dX11_alone_20 : decode cX11_alone 20 = .ok (.bipush (-2), 2) := by decide +kernel
theorem dX11_alone_22 : decode cX11_alone 22 = .ok (.ireturn, 1) := by decide +kernel
theorem dX11_alone_4 : decode cX11_alone 4 = .ok (.iload_n 1, 1) := by decide +kernel
theorem dX11_alone_5 : decode cX11_alone 5 = .ok (.invokevirtual 116, 3) := by decide +kernel
theorem dX11_alone_8 : decode cX11_alone 8 = .ok (.ifCond .eq 12, 3) := by decide +kernel
set_option maxRecDepth 20000 in
theorem ggX11_mark_X2_hasPoint : GoodIn wsX11_mark wsX2_hasPoint := goodIn_r _ [7, 8, 90, 91, 92] (by decide +kernel) (by decide +kernel)
set_option maxRecDepth 20000 in
theorem gX11_mark_X2_hasPoint : GoodIn wsX11_mark (wsV RX11 116 RX2 yX2_hasPoint wsX2_hasPoint) := goodIn_app (goodIn_of _ (by decide +kernel)) ggX11_mark_X2_hasPoint
theorem dX11_mark_0 : decode cX11_mark 0 = .ok (.aload_n 0, 1) := by decide +kernel
theorem dX11_mark_1 : decode cX11_mark 1 = .ok (.getfield 12, 3) := by decide +kernel
theorem dX11_mark_22 : decode cX11_mark 22 = .ok (.bipush (-2), 2) := by decide +kernel
theorem dX11_mark_24 : decode cX11_mark 24 = .ok (.ireturn, 1) := by decide +kernel
theorem dX11_mark_4 : decode cX11_mark 4 = .ok (.iload_n 1, 1) := by decide +kernel
theorem dX11_mark_5 : decode cX11_mark 5 = .ok (.invokevirtual 116, 3) := by decide +kernel
theorem dX11_mark_8 : decode cX11_mark 8 = .ok (.ifCond .eq 14, 3) := by decide +kernel
set_option maxRecDepth 20000 in
theorem ggX3_loosePoints_X2_all : GoodIn wsX3_loosePoints wsX2_all := goodIn_r _ [6, 7, 55, 56, 57] (by decide +kernel) (by decide +kernel)
set_option maxRecDepth 20000 in
theorem gX3_loosePoints_X2_all : GoodIn wsX3_loosePoints (wsV RX3 77 RX2 yX2_all wsX2_all) := goodIn_app (goodIn_of _ (by decide +kernel)) ggX3_loosePoints_X2_all
set_option maxRecDepth 20000 in
theorem ggX3_loosePoints_X3_best : GoodIn wsX3_loosePoints wsX3_best := goodIn_r _ [12, 13, 14, 15, 11, 16, 17, 1, 18, 19, 20, 21, 22, 23, 24, 25, 26, 27, 28, 29, 30, 31, 32, 33, 34, 35, 36, 37, 38, 39, 40, 41, 42, 43, 44, 45, 46, 47, 48, 49, 50, 51, 52, 53, 54, 55, 56, 57, 58, 59] (by decide +kernel) (by decide +kernel)
set_option maxRecDepth 20000 in
theorem gX3_loosePoints_X3_best : GoodIn wsX3_loosePoints (wsV RX3 52 RX3 yX3_best wsX3_best) := goodIn_app (goodIn_of _ (by decide +kernel)) ggX3_loosePoints_X3_best
theorem dX3_loosePoints_0 : decode cX3_loosePoints 0 = .ok (.aload_n 0, 1) := by decide +kernel
theorem dX3_loosePoints_1 : decode cX3_loosePoints 1 = .ok (.aload_n 0, 1) := by decide +kernel
theorem dX3_loosePoints_11 : decode cX3_loosePoints 11 = .ok (.istore_n 1, 1) := by decide +kernel
theorem dX3_loosePoints_12 : decode cX3_loosePoints 12 = .ok (.iconst 0, 1) := by decide +kernel
theorem dX3_loosePoints_13 : decode cX3_loosePoints 13 = .ok (.istore_n 2, 1) := by decide +kernel
theorem dX3_loosePoints_14 : decode cX3_loosePoints 14 = .ok (.iconst 0, 1) := by decide +kernel
theorem dX3_loosePoints_15 : decode cX3_loosePoints 15 = .ok (.istore_n 3, 1) := by decide +kernel
theorem dX3_loosePoints_16 : decode cX3_loosePoints 16 = .ok (.iload_n 3, 1) := by decide +kernel
theorem dX3_loosePoints_17 : decode cX3_loosePoints 17 = .ok (.aload_n 0, 1) := by decide +kernel
theorem dX3_loosePoints_18 : decode cX3_loosePoints 18 = .ok (.getfield 23, 3) := by decide +kernel
theorem dX3_loosePoints_2 : decode cX3_loosePoints 2 = .ok (.getfield 23, 3) := by decide +kernel
theorem dX3_loosePoints_21 : decode cX3_loosePoints 21 = .ok (.getfield 81, 3) := by decide +kernel
theorem dX3_loosePoints_24 : decode cX3_loosePoints 24 = .ok (.if_icmp .ge 36, 3) := by decide +kernel
theorem dX3_loosePoints_5 : decode cX3_loosePoints 5 = .ok (.invokevirtual 77, 3) := by decide +kernel
theorem dX3_loosePoints_60 : decode cX3_loosePoints 60 = .ok (.iload_n 2, 1) := by decide +kernel
theorem dX3_loosePoints_61 : decode cX3_loosePoints 61 = .ok (.ireturn, 1) := by decide +kernel
theorem dX3_loosePoints_8 : decode cX3_loosePoints 8 = .ok (.invokevirtual 52, 3) := by decide +kernel
theorem dX2_nearAny_0 : decode cX2_nearAny 0 = .ok (.iconst 0, 1) := by decide +kernel
theorem dX2_nearAny_1 : decode cX2_nearAny 1 = .ok (.istore_n 2, 1) := by decide +kernel
theorem dX2_nearAny_2 : decode cX2_nearAny 2 = .ok (.iconst 0, 1) := by decide +kernel
theorem dX2_nearAny_3 : decode cX2_nearAny 3 = .ok (.istore_n 3, 1) := by decide +kernel
theorem dX2_nearAny_35 : decode cX2_nearAny 35 = .ok (.iload_n 2, 1) := by decide +kernel
theorem dX2_nearAny_36 : decode cX2_nearAny 36 = .ok (.ireturn, 1) := by decide +kernel
theorem dX2_nearAny_4 : decode cX2_nearAny 4 = .ok (.iload_n 3, 1) := by decide +kernel
theorem dX2_nearAny_5 : decode cX2_nearAny 5 = .ok (.aload_n 0, 1) := by decide +kernel
theorem dX2_nearAny_6 : decode cX2_nearAny 6 = .ok (.getfield 15, 3) := by decide +kernel
theorem dX2_nearAny_9 : decode cX2_nearAny 9 = .ok (.if_icmp .ge 26, 3) := by decide +kernel
set_option maxRecDepth 20000 in
theorem ggX4_allOf_X2_all : GoodIn wsX4_allOf wsX2_all := goodIn_r _ [13, 14, 69, 70, 71] (by decide +kernel) (by decide +kernel)
set_option maxRecDepth 20000 in
theorem gX4_allOf_X2_all : GoodIn wsX4_allOf (wsV RX4 31 RX2 yX2_all wsX2_all) := goodIn_app (goodIn_of _ (by decide +kernel)) ggX4_allOf_X2_all
set_option maxRecDepth 20000 in
theorem ggX4_allOf_X2_nearAny : GoodIn wsX4_allOf wsX2_nearAny := goodIn_r _ [60, 14, 61, 69, 70, 71] (by decide +kernel) (by decide +kernel)
set_option maxRecDepth 20000 in
theorem gX4_allOf_X2_nearAny : GoodIn wsX4_allOf (wsV RX4 25 RX2 yX2_nearAny wsX2_nearAny) := goodIn_app (goodIn_of _ (by decide +kernel)) ggX4_allOf_X2_nearAny
set_option maxRecDepth 20000 in
theorem ggX4_allOf_X3_loosePoints : GoodIn wsX4_allOf wsX3_loosePoints := goodIn_r _ [7, 8, 9, 10, 11, 12, 13, 14, 15, 16, 17, 6, 18, 19, 20, 21, 22, 23, 24, 25, 26, 27, 28, 29, 30, 31, 32, 33, 34, 35, 36, 37, 38, 39, 40, 41, 42, 43, 44, 45, 46, 47, 48, 49, 50, 51, 52, 53, 54, 55, 56, 65, 66, 67, 68, 69, 70, 71, 72, 73] (by decide +kernel) (by decide +kernel)
set_option maxRecDepth 20000 in
theorem gX4_allOf_X3_loosePoints : GoodIn wsX4_allOf (wsV RX4 19 RX3 yX3_loosePoints wsX3_loosePoints) := goodIn_app (goodIn_of _ (by decide +kernel)) ggX4_allOf_X3_loosePoints
theorem dX4_allOf_0 : decode cX4_allOf 0 = .ok (.aload_n 0, 1) := by decide +kernel
theorem dX4_allOf_1 : decode cX4_allOf 1 = .ok (.getfield 15, 3) := by decide +kernel
theorem dX4_allOf_12 : decode cX4_allOf 12 = .ok (.iload_n 2, 1) := by decide +kernel
theorem dX4_allOf_13 : decode cX4_allOf 13 = .ok (.invokevirtual 25, 3) := by decide +kernel
theorem dX4_allOf_16 : decode cX4_allOf 16 = .ok (.iload_n 2, 1) := by decide +kernel
theorem dX4_allOf_17 : decode cX4_allOf 17 = .ok (.iconst (-1), 1) := by decide +kernel
theorem dX4_allOf_18 : decode cX4_allOf 18 = .ok (.ixor, 1) := by decide +kernel
theorem dX4_allOf_19 : decode cX4_allOf 19 = .ok (.iand, 1) := by decide +kernel
theorem dX4_allOf_20 : decode cX4_allOf 20 = .ok (.istore_n 3, 1) := by decide +kernel
theorem dX4_allOf_21 : decode cX4_allOf 21 = .ok (.iload_n 1, 1) := by decide +kernel
theorem dX4_allOf_22 : decode cX4_allOf 22 = .ok (.ifCond .ne 5, 3) := by decide +kernel
theorem dX4_allOf_25 : decode cX4_allOf 25 = .ok (.iload_n 2, 1) := by decide +kernel
theorem dX4_allOf_26 : decode cX4_allOf 26 = .ok (.ireturn, 1) := by decide +kernel
theorem dX4_allOf_27 : decode cX4_allOf 27 = .ok (.iload_n 1, 1) := by decide +kernel
theorem dX4_allOf_28 : decode cX4_allOf 28 = .ok (.iconst 1, 1) := by decide +kernel
theorem dX4_allOf_29 : decode cX4_allOf 29 = .ok (.if_icmp .ne 7, 3) := by decide +kernel
theorem dX4_allOf_32 : decode cX4_allOf 32 = .ok (.iload_n 3, 1) := by decide +kernel
theorem dX4_allOf_33 : decode cX4_allOf 33 = .ok (.goto 16, 3) := by decide +kernel
theorem dX4_allOf_36 : decode cX4_allOf 36 = .ok (.aload_n 0, 1) := by decide +kernel
theorem dX4_allOf_37 : decode cX4_allOf 37 = .ok (.getfield 9, 3) := by decide +kernel
theorem dX4_allOf_4 : decode cX4_allOf 4 = .ok (.invokevirtual 19, 3) := by decide +kernel
theorem dX4_allOf_40 : decode cX4_allOf 40 = .ok (.invokevirtual 31, 3) := by decide +kernel
theorem dX4_allOf_43 : decode cX4_allOf 43 = .ok (.iload_n 2, 1) := by decide +kernel
theorem dX4_allOf_44 : decode cX4_allOf 44 = .ok (.iload_n 3, 1) := by decide +kernel
theorem dX4_allOf_45 : decode cX4_allOf 45 = .ok (.ior, 1) := by decide +kernel
theorem dX4_allOf_46 : decode cX4_allOf 46 = .ok (.iconst (-1), 1) := by decide +kernel
theorem dX4_allOf_47 : decode cX4_allOf 47 = .ok (.ixor, 1) := by decide +kernel
theorem dX4_allOf_48 : decode cX4_allOf 48 = .ok (.iand, 1) := by decide +kernel
theorem dX4_allOf_49 : decode cX4_allOf 49 = .ok (.ireturn, 1) := by decide +kernel
theorem dX4_allOf_7 : decode cX4_allOf 7 = .ok (.istore_n 2, 1) := by decide +kernel
theorem dX4_allOf_8 : decode cX4_allOf 8 = .ok (.aload_n 0, 1) := by decide +kernel
theorem dX4_allOf_9 : decode cX4_allOf 9 = .ok (.getfield 9, 3) := by decide +kernel
set_option maxRecDepth 20000 in
theorem ggX11_marked_X4_allOf : GoodIn wsX11_marked wsX4_allOf := goodIn_r _ [6, 7, 8, 9, 10, 11, 12, 13, 14, 15, 16, 17, 18, 19, 20, 21, 22, 23, 24, 25, 26, 27, 28, 29, 30, 31, 32, 33, 34, 35, 36, 37, 38, 39, 40, 41, 42, 43, 44, 45, 46, 47, 48, 49, 50, 51, 52, 53, 54, 55, 56, 57, 58, 59, 60, 61, 62, 63, 64, 65, 66, 67, 68, 85, 86, 87, 88, 89, 90, 91, 92, 93, 94, 95] (by decide +kernel) (by decide +kernel)
set_option maxRecDepth 20000 in
theorem gX11_marked_X4_allOf : GoodIn wsX11_marked (wsV RX11 163 RX4 yX4_allOf wsX4_allOf) := goodIn_app (goodIn_of _ (by decide +kernel)) ggX11_marked_X4_allOf
theorem dX11_marked_0 : decode cX11_marked 0 = .ok (.iload_n 1, 1) := by decide +kernel
theorem dX11_marked_1 : decode cX11_marked 1 = .ok (.ifCond .lt 8, 3) := by decide +kernel
theorem dX11_marked_11 : decode cX11_marked 11 = .ok (.goto 11, 3) := by decide +kernel
theorem dX11_marked_14 : decode cX11_marked 14 = .ok (.aload_n 0, 1) := by decide +kernel
theorem dX11_marked_15 : decode cX11_marked 15 = .ok (.getfield 30, 3) := by decide +kernel
theorem dX11_marked_18 : decode cX11_marked 18 = .ok (.iload_n 1, 1) := by decide +kernel
theorem dX11_marked_19 : decode cX11_marked 19 = .ok (.invokevirtual 163, 3) := by decide +kernel
theorem dX11_marked_22 : decode cX11_marked 22 = .ok (.ireturn, 1) := by decide +kernel
theorem dX11_marked_4 : decode cX11_marked 4 = .ok (.iload_n 1, 1) := by decide +kernel
theorem dX11_marked_5 : decode cX11_marked 5 = .ok (.iconst 2, 1) := by decide +kernel
theorem dX11_marked_6 : decode cX11_marked 6 = .ok (.if_icmp .le 8, 3) := by decide +kernel
theorem dX11_marked_9 : decode cX11_marked 9 = .ok (.bipush (-2), 2) := by decide +kernel
theorem dX11_markOfPieces_0 : decode cX11_markOfPieces 0 = .ok (.iload_n 0, 1) := by decide +kernel
theorem dX11_markOfPieces_1 : decode cX11_markOfPieces 1 = .ok (.ifCond .ne 7, 3) := by decide +kernel
theorem dX11_markOfPieces_4 : decode cX11_markOfPieces 4 = .ok (.iconst 0, 1) := by decide +kernel
theorem dX11_markOfPieces_5 : decode cX11_markOfPieces 5 = .ok (.goto 4, 3) := by decide +kernel
theorem dX11_markOfPieces_9 : decode cX11_markOfPieces 9 = .ok (.ireturn, 1) := by decide +kernel
theorem dX11_markOfPieces_8 : decode cX11_markOfPieces 8 = .ok (.iconst 2, 1) := by decide +kernel
set_option maxRecDepth 20000 in
theorem ggX11_pieces_X11_markOfPieces : GoodIn wsX11_pieces wsX11_markOfPieces := goodIn_r _ [6] (by decide +kernel) (by decide +kernel)
set_option maxRecDepth 20000 in
theorem gX11_pieces_X11_markOfPieces : GoodIn wsX11_pieces (va_wsS RX11 166 yX11_markOfPieces wsX11_markOfPieces) := goodIn_app (goodIn_of _ (by decide +kernel)) ggX11_pieces_X11_markOfPieces
set_option maxRecDepth 20000 in
theorem ggX11_pieces_X2_pieceCount : GoodIn wsX11_pieces wsX2_pieceCount := goodIn_r _ [77, 72, 78, 21, 22, 23, 24, 25, 79, 80, 81, 82, 83, 50, 84, 85, 86, 87, 52, 110, 111, 112] (by decide +kernel) (by decide +kernel)
set_option maxRecDepth 20000 in
theorem gX11_pieces_X2_pieceCount : GoodIn wsX11_pieces (wsV RX11 137 RX2 yX2_pieceCount wsX2_pieceCount) := goodIn_app (goodIn_of _ (by decide +kernel)) ggX11_pieces_X2_pieceCount
set_option maxRecDepth 20000 in
theorem ggX11_pieces_X4_allOf : GoodIn wsX11_pieces wsX4_allOf := goodIn_r _ [11, 12, 13, 14, 15, 16, 17, 18, 19, 20, 21, 22, 23, 24, 25, 26, 27, 28, 29, 30, 31, 32, 33, 34, 35, 36, 37, 38, 39, 40, 41, 42, 43, 44, 45, 46, 47, 48, 49, 50, 51, 52, 53, 54, 55, 56, 57, 58, 59, 60, 61, 62, 63, 64, 65, 66, 67, 68, 69, 70, 71, 72, 73, 104, 105, 106, 107, 108, 109, 110, 111, 112, 113, 114] (by decide +kernel) (by decide +kernel)
set_option maxRecDepth 20000 in
theorem gX11_pieces_X4_allOf : GoodIn wsX11_pieces (wsV RX11 163 RX4 yX4_allOf wsX4_allOf) := goodIn_app (goodIn_of _ (by decide +kernel)) ggX11_pieces_X4_allOf
theorem dX11_pieces_0 : decode cX11_pieces 0 = .ok (.iload_n 1, 1) := by decide +kernel
theorem dX11_pieces_1 : decode cX11_pieces 1 = .ok (.ifCond .eq 11, 3) := by decide +kernel
theorem dX11_pieces_11 : decode cX11_pieces 11 = .ok (.ireturn, 1) := by decide +kernel
theorem dX11_pieces_12 : decode cX11_pieces 12 = .ok (.aload_n 0, 1) := by decide +kernel
theorem dX11_pieces_13 : decode cX11_pieces 13 = .ok (.getfield 12, 3) := by decide +kernel
theorem dX11_pieces_16 : decode cX11_pieces 16 = .ok (.aload_n 0, 1) := by decide +kernel
theorem dX11_pieces_17 : decode cX11_pieces 17 = .ok (.getfield 30, 3) := by decide +kernel
theorem dX11_pieces_20 : decode cX11_pieces 20 = .ok (.iload_n 1, 1) := by decide +kernel
theorem dX11_pieces_21 : decode cX11_pieces 21 = .ok (.invokestatic 166, 3) := by decide +kernel
theorem dX11_pieces_24 : decode cX11_pieces 24 = .ok (.invokevirtual 163, 3) := by decide +kernel
theorem dX11_pieces_27 : decode cX11_pieces 27 = .ok (.invokevirtual 137, 3) := by decide +kernel
theorem dX11_pieces_30 : decode cX11_pieces 30 = .ok (.ireturn, 1) := by decide +kernel
theorem dX11_pieces_4 : decode cX11_pieces 4 = .ok (.iload_n 1, 1) := by decide +kernel
theorem dX11_pieces_5 : decode cX11_pieces 5 = .ok (.iconst 1, 1) := by decide +kernel
theorem dX11_pieces_6 : decode cX11_pieces 6 = .ok (.if_icmp .eq 6, 3) := by decide +kernel
theorem dX11_pieces_9 : decode cX11_pieces 9 = .ok (.bipush (-2), 2) := by decide +kernel
set_option maxRecDepth 20000 in
theorem ggX2_pieceAt_X2_all : GoodIn wsX2_pieceAt wsX2_all := goodIn_r _ [6, 7, 19, 20, 21] (by decide +kernel) (by decide +kernel)
set_option maxRecDepth 20000 in
theorem gX2_pieceAt_X2_all : GoodIn wsX2_pieceAt (wsV RX2 19 RX2 yX2_all wsX2_all) := goodIn_app (goodIn_of _ (by decide +kernel)) ggX2_pieceAt_X2_all
theorem dX2_pieceAt_0 : decode cX2_pieceAt 0 = .ok (.iload_n 1, 1) := by decide +kernel
theorem dX2_pieceAt_1 : decode cX2_pieceAt 1 = .ok (.aload_n 0, 1) := by decide +kernel
theorem dX2_pieceAt_10 : decode cX2_pieceAt 10 = .ok (.iload 4, 2) := by decide +kernel
theorem dX2_pieceAt_12 : decode cX2_pieceAt 12 = .ok (.bipush 12, 2) := by decide +kernel
theorem dX2_pieceAt_14 : decode cX2_pieceAt 14 = .ok (.if_icmp .ge 39, 3) := by decide +kernel
theorem dX2_pieceAt_17 : decode cX2_pieceAt 17 = .ok (.iload_n 3, 1) := by decide +kernel
theorem dX2_pieceAt_18 : decode cX2_pieceAt 18 = .ok (.ifCond .eq 35, 3) := by decide +kernel
theorem dX2_pieceAt_2 : decode cX2_pieceAt 2 = .ok (.invokevirtual 19, 3) := by decide +kernel
theorem dX2_pieceAt_5 : decode cX2_pieceAt 5 = .ok (.iand, 1) := by decide +kernel
theorem dX2_pieceAt_53 : decode cX2_pieceAt 53 = .ok (.iconst 0, 1) := by decide +kernel
theorem dX2_pieceAt_54 : decode cX2_pieceAt 54 = .ok (.ireturn, 1) := by decide +kernel
theorem dX2_pieceAt_6 : decode cX2_pieceAt 6 = .ok (.istore_n 3, 1) := by decide +kernel
theorem dX2_pieceAt_7 : decode cX2_pieceAt 7 = .ok (.iconst 0, 1) := by decide +kernel
theorem dX2_pieceAt_8 : decode cX2_pieceAt 8 = .ok (.istore 4, 2) := by decide +kernel
set_option maxRecDepth 20000 in
theorem ggX11_piece_X11_markOfPieces : GoodIn wsX11_piece wsX11_markOfPieces := goodIn_r _ [6] (by decide +kernel) (by decide +kernel)
set_option maxRecDepth 20000 in
theorem gX11_piece_X11_markOfPieces : GoodIn wsX11_piece (va_wsS RX11 166 yX11_markOfPieces wsX11_markOfPieces) := goodIn_app (goodIn_of _ (by decide +kernel)) ggX11_piece_X11_markOfPieces
set_option maxRecDepth 20000 in
theorem ggX11_piece_X2_pieceAt : GoodIn wsX11_piece wsX2_pieceAt := goodIn_r _ [77, 72, 78, 21, 22, 23, 24, 25, 79, 80, 81, 82, 83, 50, 84, 85, 86, 87, 52, 111, 112, 113] (by decide +kernel) (by decide +kernel)
set_option maxRecDepth 20000 in
theorem gX11_piece_X2_pieceAt : GoodIn wsX11_piece (wsV RX11 169 RX2 yX2_pieceAt wsX2_pieceAt) := goodIn_app (goodIn_of _ (by decide +kernel)) ggX11_piece_X2_pieceAt
set_option maxRecDepth 20000 in
theorem ggX11_piece_X4_allOf : GoodIn wsX11_piece wsX4_allOf := goodIn_r _ [11, 12, 13, 14, 15, 16, 17, 18, 19, 20, 21, 22, 23, 24, 25, 26, 27, 28, 29, 30, 31, 32, 33, 34, 35, 36, 37, 38, 39, 40, 41, 42, 43, 44, 45, 46, 47, 48, 49, 50, 51, 52, 53, 54, 55, 56, 57, 58, 59, 60, 61, 62, 63, 64, 65, 66, 67, 68, 69, 70, 71, 72, 73, 105, 106, 107, 108, 109, 110, 111, 112, 113, 114, 115] (by decide +kernel) (by decide +kernel)
set_option maxRecDepth 20000 in
theorem gX11_piece_X4_allOf : GoodIn wsX11_piece (wsV RX11 163 RX4 yX4_allOf wsX4_allOf) := goodIn_app (goodIn_of _ (by decide +kernel)) ggX11_piece_X4_allOf
theorem dX11_piece_0 : decode cX11_piece 0 = .ok (.iload_n 1, 1) := by decide +kernel
theorem dX11_piece_1 : decode cX11_piece 1 = .ok (.ifCond .eq 8, 3) := by decide +kernel
theorem dX11_piece_10 : decode cX11_piece 10 = .ok (.ifCond .eq 11, 3) := by decide +kernel
theorem dX11_piece_13 : decode cX11_piece 13 = .ok (.iload_n 3, 1) := by decide +kernel
theorem dX11_piece_14 : decode cX11_piece 14 = .ok (.iconst 1, 1) := by decide +kernel
theorem dX11_piece_15 : decode cX11_piece 15 = .ok (.if_icmp .eq 6, 3) := by decide +kernel
theorem dX11_piece_18 : decode cX11_piece 18 = .ok (.bipush (-2), 2) := by decide +kernel
theorem dX11_piece_20 : decode cX11_piece 20 = .ok (.ireturn, 1) := by decide +kernel
theorem dX11_piece_21 : decode cX11_piece 21 = .ok (.aload_n 0, 1) := by decide +kernel
theorem dX11_piece_22 : decode cX11_piece 22 = .ok (.getfield 12, 3) := by decide +kernel
theorem dX11_piece_25 : decode cX11_piece 25 = .ok (.aload_n 0, 1) := by decide +kernel
theorem dX11_piece_26 : decode cX11_piece 26 = .ok (.getfield 30, 3) := by decide +kernel
theorem dX11_piece_29 : decode cX11_piece 29 = .ok (.iload_n 1, 1) := by decide +kernel
theorem dX11_piece_30 : decode cX11_piece 30 = .ok (.invokestatic 166, 3) := by decide +kernel
theorem dX11_piece_33 : decode cX11_piece 33 = .ok (.invokevirtual 163, 3) := by decide +kernel
theorem dX11_piece_36 : decode cX11_piece 36 = .ok (.iload_n 2, 1) := by decide +kernel
theorem dX11_piece_37 : decode cX11_piece 37 = .ok (.invokevirtual 169, 3) := by decide +kernel
theorem dX11_piece_4 : decode cX11_piece 4 = .ok (.iload_n 1, 1) := by decide +kernel
theorem dX11_piece_40 : decode cX11_piece 40 = .ok (.istore 4, 2) := by decide +kernel
theorem dX11_piece_42 : decode cX11_piece 42 = .ok (.iload 4, 2) := by decide +kernel
theorem dX11_piece_44 : decode cX11_piece 44 = .ok (.ifCond .ne 5, 3) := by decide +kernel
theorem dX11_piece_47 : decode cX11_piece 47 = .ok (.iconst (-1), 1) := by decide +kernel
theorem dX11_piece_48 : decode cX11_piece 48 = .ok (.ireturn, 1) := by decide +kernel
theorem dX11_piece_5 : decode cX11_piece 5 = .ok (.iconst 1, 1) := by decide +kernel
theorem dX11_piece_6 : decode cX11_piece 6 = .ok (.if_icmp .ne 12, 3) := by decide +kernel
theorem dX11_piece_9 : decode cX11_piece 9 = .ok (.iload_n 3, 1) := by decide +kernel
set_option maxRecDepth 20000 in
theorem ggX4_surplusOf_J6_bitCount_0f7a4 : GoodIn wsX4_surplusOf wsJ6_bitCount_0f7a4 := goodIn_r _ [54, 55, 56, 57] (by decide +kernel) (by decide +kernel)
set_option maxRecDepth 20000 in
theorem gX4_surplusOf_J6_bitCount_0f7a4 : GoodIn wsX4_surplusOf (va_wsS RX4 37 yJ6_bitCount_0f7a4 wsJ6_bitCount_0f7a4) := goodIn_app (goodIn_of _ (by decide +kernel)) ggX4_surplusOf_J6_bitCount_0f7a4
set_option maxRecDepth 20000 in
theorem ggX4_surplusOf_X2_nearAny : GoodIn wsX4_surplusOf wsX2_nearAny := goodIn_r _ [7, 8, 9, 74, 75, 76] (by decide +kernel) (by decide +kernel)
set_option maxRecDepth 20000 in
theorem gX4_surplusOf_X2_nearAny : GoodIn wsX4_surplusOf (wsV RX4 25 RX2 yX2_nearAny wsX2_nearAny) := goodIn_app (goodIn_of _ (by decide +kernel)) ggX4_surplusOf_X2_nearAny
set_option maxRecDepth 20000 in
theorem ggX4_surplusOf_X3_loosePoints : GoodIn wsX4_surplusOf wsX3_loosePoints := goodIn_r _ [14, 15, 16, 17, 18, 6, 19, 8, 20, 21, 22, 13, 23, 24, 25, 26, 27, 28, 29, 30, 31, 32, 33, 34, 35, 36, 37, 38, 39, 40, 41, 42, 43, 44, 45, 46, 47, 48, 49, 50, 51, 52, 53, 54, 55, 56, 57, 58, 59, 60, 61, 77, 78, 79, 80, 74, 75, 76, 81, 82] (by decide +kernel) (by decide +kernel)
set_option maxRecDepth 20000 in
theorem gX4_surplusOf_X3_loosePoints : GoodIn wsX4_surplusOf (wsV RX4 19 RX3 yX3_loosePoints wsX3_loosePoints) := goodIn_app (goodIn_of _ (by decide +kernel)) ggX4_surplusOf_X3_loosePoints
theorem dX4_surplusOf_0 : decode cX4_surplusOf 0 = .ok (.aload_n 0, 1) := by decide +kernel
theorem dX4_surplusOf_1 : decode cX4_surplusOf 1 = .ok (.getfield 9, 3) := by decide +kernel
theorem dX4_surplusOf_10 : decode cX4_surplusOf 10 = .ok (.getfield 15, 3) := by decide +kernel
theorem dX4_surplusOf_13 : decode cX4_surplusOf 13 = .ok (.invokevirtual 19, 3) := by decide +kernel
theorem dX4_surplusOf_16 : decode cX4_surplusOf 16 = .ok (.istore_n 3, 1) := by decide +kernel
theorem dX4_surplusOf_17 : decode cX4_surplusOf 17 = .ok (.iload_n 1, 1) := by decide +kernel
theorem dX4_surplusOf_18 : decode cX4_surplusOf 18 = .ok (.invokestatic 37, 3) := by decide +kernel
theorem dX4_surplusOf_21 : decode cX4_surplusOf 21 = .ok (.ineg, 1) := by decide +kernel
theorem dX4_surplusOf_22 : decode cX4_surplusOf 22 = .ok (.istore 4, 2) := by decide +kernel
theorem dX4_surplusOf_24 : decode cX4_surplusOf 24 = .ok (.iconst 0, 1) := by decide +kernel
theorem dX4_surplusOf_25 : decode cX4_surplusOf 25 = .ok (.istore 5, 2) := by decide +kernel
theorem dX4_surplusOf_27 : decode cX4_surplusOf 27 = .ok (.iload 5, 2) := by decide +kernel
theorem dX4_surplusOf_29 : decode cX4_surplusOf 29 = .ok (.bipush 12, 2) := by decide +kernel
theorem dX4_surplusOf_31 : decode cX4_surplusOf 31 = .ok (.if_icmp .ge 43, 3) := by decide +kernel
theorem dX4_surplusOf_34 : decode cX4_surplusOf 34 = .ok (.iload_n 3, 1) := by decide +kernel
theorem dX4_surplusOf_35 : decode cX4_surplusOf 35 = .ok (.ifCond .eq 39, 3) := by decide +kernel
theorem dX4_surplusOf_4 : decode cX4_surplusOf 4 = .ok (.iload_n 1, 1) := by decide +kernel
theorem dX4_surplusOf_5 : decode cX4_surplusOf 5 = .ok (.invokevirtual 25, 3) := by decide +kernel
theorem dX4_surplusOf_74 : decode cX4_surplusOf 74 = .ok (.iload 4, 2) := by decide +kernel
theorem dX4_surplusOf_76 : decode cX4_surplusOf 76 = .ok (.ireturn, 1) := by decide +kernel
theorem dX4_surplusOf_8 : decode cX4_surplusOf 8 = .ok (.istore_n 2, 1) := by decide +kernel
theorem dX4_surplusOf_9 : decode cX4_surplusOf 9 = .ok (.aload_n 0, 1) := by decide +kernel
set_option maxRecDepth 20000 in
theorem ggX11_surplus_X4_allOf : GoodIn wsX11_surplus wsX4_allOf := goodIn_r _ [6, 7, 8, 9, 10, 11, 12, 13, 14, 15, 16, 17, 18, 19, 20, 21, 22, 23, 24, 25, 26, 27, 28, 29, 30, 31, 32, 33, 34, 35, 36, 37, 38, 39, 40, 41, 42, 43, 44, 45, 46, 47, 48, 49, 50, 51, 52, 53, 54, 55, 56, 57, 58, 59, 60, 61, 62, 63, 64, 65, 66, 67, 68, 99, 100, 101, 102, 103, 104, 105, 106, 107, 108, 109] (by decide +kernel) (by decide +kernel)
set_option maxRecDepth 20000 in
theorem gX11_surplus_X4_allOf : GoodIn wsX11_surplus (wsV RX11 163 RX4 yX4_allOf wsX4_allOf) := goodIn_app (goodIn_of _ (by decide +kernel)) ggX11_surplus_X4_allOf
set_option maxRecDepth 20000 in
theorem ggX11_surplus_X4_surplusOf : GoodIn wsX11_surplus wsX4_surplusOf := goodIn_r _ [72, 8, 7, 63, 64, 65, 18, 66, 20, 67, 9, 10, 11, 12, 13, 14, 15, 16, 17, 19, 21, 22, 23, 24, 25, 26, 27, 28, 29, 30, 31, 32, 33, 34, 35, 36, 37, 38, 39, 40, 41, 42, 43, 44, 45, 46, 47, 48, 49, 50, 51, 52, 53, 54, 55, 56, 57, 58, 59, 60, 61, 62, 73, 74, 75, 76, 77, 78, 79, 80, 81, 82, 99, 100, 105, 106, 107, 101, 102, 103, 104, 108, 109] (by decide +kernel) (by decide +kernel)
set_option maxRecDepth 20000 in
theorem gX11_surplus_X4_surplusOf : GoodIn wsX11_surplus (wsV RX11 175 RX4 yX4_surplusOf wsX4_surplusOf) := goodIn_app (goodIn_of _ (by decide +kernel)) ggX11_surplus_X4_surplusOf
theorem dX11_surplus_0 : decode cX11_surplus 0 = .ok (.iload_n 1, 1) := by decide +kernel
theorem dX11_surplus_1 : decode cX11_surplus 1 = .ok (.aload_n 0, 1) := by decide +kernel
theorem dX11_surplus_10 : decode cX11_surplus 10 = .ok (.ixor, 1) := by decide +kernel
theorem dX11_surplus_11 : decode cX11_surplus 11 = .ok (.iand, 1) := by decide +kernel
theorem dX11_surplus_12 : decode cX11_surplus 12 = .ok (.ifCond .eq 8, 3) := by decide +kernel
theorem dX11_surplus_15 : decode cX11_surplus 15 = .ok (.bipush (-2), 2) := by decide +kernel
theorem dX11_surplus_17 : decode cX11_surplus 17 = .ok (.goto 11, 3) := by decide +kernel
theorem dX11_surplus_2 : decode cX11_surplus 2 = .ok (.getfield 30, 3) := by decide +kernel
theorem dX11_surplus_20 : decode cX11_surplus 20 = .ok (.aload_n 0, 1) := by decide +kernel
theorem dX11_surplus_21 : decode cX11_surplus 21 = .ok (.getfield 30, 3) := by decide +kernel
theorem dX11_surplus_24 : decode cX11_surplus 24 = .ok (.iload_n 1, 1) := by decide +kernel
theorem dX11_surplus_25 : decode cX11_surplus 25 = .ok (.invokevirtual 175, 3) := by decide +kernel
theorem dX11_surplus_28 : decode cX11_surplus 28 = .ok (.ireturn, 1) := by decide +kernel
theorem dX11_surplus_5 : decode cX11_surplus 5 = .ok (.iconst 1, 1) := by decide +kernel
theorem dX11_surplus_6 : decode cX11_surplus 6 = .ok (.invokevirtual 163, 3) := by decide +kernel
theorem dX11_surplus_9 : decode cX11_surplus 9 = .ok (.iconst (-1), 1) := by decide +kernel
set_option maxRecDepth 20000 in
theorem ggX2_oddPieceCount_X2_all : GoodIn wsX2_oddPieceCount wsX2_all := goodIn_r _ [6, 7, 25, 26, 27] (by decide +kernel) (by decide +kernel)
set_option maxRecDepth 20000 in
theorem gX2_oddPieceCount_X2_all : GoodIn wsX2_oddPieceCount (wsV RX2 19 RX2 yX2_all wsX2_all) := goodIn_app (goodIn_of _ (by decide +kernel)) ggX2_oddPieceCount_X2_all
theorem dX2_oddPieceCount_0 : decode cX2_oddPieceCount 0 = .ok (.iload_n 1, 1) := by decide +kernel
theorem dX2_oddPieceCount_1 : decode cX2_oddPieceCount 1 = .ok (.aload_n 0, 1) := by decide +kernel
theorem dX2_oddPieceCount_10 : decode cX2_oddPieceCount 10 = .ok (.istore 4, 2) := by decide +kernel
theorem dX2_oddPieceCount_12 : decode cX2_oddPieceCount 12 = .ok (.iload 4, 2) := by decide +kernel
theorem dX2_oddPieceCount_14 : decode cX2_oddPieceCount 14 = .ok (.bipush 12, 2) := by decide +kernel
theorem dX2_oddPieceCount_16 : decode cX2_oddPieceCount 16 = .ok (.if_icmp .ge 40, 3) := by decide +kernel
theorem dX2_oddPieceCount_19 : decode cX2_oddPieceCount 19 = .ok (.iload_n 2, 1) := by decide +kernel
theorem dX2_oddPieceCount_2 : decode cX2_oddPieceCount 2 = .ok (.invokevirtual 19, 3) := by decide +kernel
theorem dX2_oddPieceCount_20 : decode cX2_oddPieceCount 20 = .ok (.ifCond .eq 36, 3) := by decide +kernel
theorem dX2_oddPieceCount_5 : decode cX2_oddPieceCount 5 = .ok (.iand, 1) := by decide +kernel
theorem dX2_oddPieceCount_56 : decode cX2_oddPieceCount 56 = .ok (.iload_n 3, 1) := by decide +kernel
theorem dX2_oddPieceCount_57 : decode cX2_oddPieceCount 57 = .ok (.ireturn, 1) := by decide +kernel
theorem dX2_oddPieceCount_6 : decode cX2_oddPieceCount 6 = .ok (.istore_n 2, 1) := by decide +kernel
theorem dX2_oddPieceCount_7 : decode cX2_oddPieceCount 7 = .ok (.iconst 0, 1) := by decide +kernel
theorem dX2_oddPieceCount_8 : decode cX2_oddPieceCount 8 = .ok (.istore_n 3, 1) := by decide +kernel
theorem dX2_oddPieceCount_9 : decode cX2_oddPieceCount 9 = .ok (.iconst 0, 1) := by decide +kernel
set_option maxRecDepth 20000 in
theorem ggX10_oddWithout_X2_all : GoodIn wsX10_oddWithout wsX2_all := goodIn_r _ [6, 7, 39, 40, 41] (by decide +kernel) (by decide +kernel)
set_option maxRecDepth 20000 in
theorem gX10_oddWithout_X2_all : GoodIn wsX10_oddWithout (wsV RX10 27 RX2 yX2_all wsX2_all) := goodIn_app (goodIn_of _ (by decide +kernel)) ggX10_oddWithout_X2_all
set_option maxRecDepth 20000 in
theorem ggX10_oddWithout_X2_oddPieceCount : GoodIn wsX10_oddWithout wsX2_oddPieceCount := goodIn_r _ [11, 12, 13, 3, 4, 5, 6, 7, 14, 15, 16, 17, 18, 19, 20, 21, 22, 23, 24, 25, 26, 27, 28, 29, 30, 39, 40, 41] (by decide +kernel) (by decide +kernel)
set_option maxRecDepth 20000 in
theorem gX10_oddWithout_X2_oddPieceCount : GoodIn wsX10_oddWithout (wsV RX10 33 RX2 yX2_oddPieceCount wsX2_oddPieceCount) := goodIn_app (goodIn_of _ (by decide +kernel)) ggX10_oddWithout_X2_oddPieceCount
theorem dX10_oddWithout_0 : decode cX10_oddWithout 0 = .ok (.aload_n 0, 1) := by decide +kernel
theorem dX10_oddWithout_1 : decode cX10_oddWithout 1 = .ok (.getfield 19, 3) := by decide +kernel
theorem dX10_oddWithout_11 : decode cX10_oddWithout 11 = .ok (.iload_n 1, 1) := by decide +kernel
theorem dX10_oddWithout_12 : decode cX10_oddWithout 12 = .ok (.iconst (-1), 1) := by decide +kernel
theorem dX10_oddWithout_13 : decode cX10_oddWithout 13 = .ok (.ixor, 1) := by decide +kernel
theorem dX10_oddWithout_14 : decode cX10_oddWithout 14 = .ok (.iand, 1) := by decide +kernel
theorem dX10_oddWithout_15 : decode cX10_oddWithout 15 = .ok (.invokevirtual 33, 3) := by decide +kernel
theorem dX10_oddWithout_18 : decode cX10_oddWithout 18 = .ok (.ireturn, 1) := by decide +kernel
theorem dX10_oddWithout_4 : decode cX10_oddWithout 4 = .ok (.aload_n 0, 1) := by decide +kernel
theorem dX10_oddWithout_5 : decode cX10_oddWithout 5 = .ok (.getfield 19, 3) := by decide +kernel
theorem dX10_oddWithout_8 : decode cX10_oddWithout 8 = .ok (.invokevirtual 27, 3) := by decide +kernel
set_option maxRecDepth 20000 in
theorem ggX11_odd_X10_oddWithout : GoodIn wsX11_odd wsX10_oddWithout := goodIn_r _ [17, 18, 19, 9, 10, 6, 11, 12, 20, 21, 22, 23, 24, 8, 25, 26, 27, 28, 29, 30, 31, 32, 33, 34, 35, 36, 37, 38, 39, 40, 41, 61, 62, 63, 64, 65, 66, 67, 68, 58, 59, 60] (by decide +kernel) (by decide +kernel)
set_option maxRecDepth 20000 in
theorem gX11_odd_X10_oddWithout : GoodIn wsX11_odd (wsV RX11 178 RX10 yX10_oddWithout wsX10_oddWithout) := goodIn_app (goodIn_of _ (by decide +kernel)) ggX11_odd_X10_oddWithout
set_option maxRecDepth 20000 in
theorem ggX11_odd_X2_hasAll : GoodIn wsX11_odd wsX2_hasAll := goodIn_r _ [7, 8, 9, 10, 6, 11, 12, 58, 59, 60] (by decide +kernel) (by decide +kernel)
set_option maxRecDepth 20000 in
theorem gX11_odd_X2_hasAll : GoodIn wsX11_odd (wsV RX11 144 RX2 yX2_hasAll wsX2_hasAll) := goodIn_app (goodIn_of _ (by decide +kernel)) ggX11_odd_X2_hasAll
theorem dX11_odd_0 : decode cX11_odd 0 = .ok (.aload_n 0, 1) := by decide +kernel
theorem dX11_odd_1 : decode cX11_odd 1 = .ok (.getfield 12, 3) := by decide +kernel
theorem dX11_odd_11 : decode cX11_odd 11 = .ok (.aload_n 0, 1) := by decide +kernel
theorem dX11_odd_12 : decode cX11_odd 12 = .ok (.getfield 37, 3) := by decide +kernel
theorem dX11_odd_15 : decode cX11_odd 15 = .ok (.iload_n 1, 1) := by decide +kernel
theorem dX11_odd_16 : decode cX11_odd 16 = .ok (.invokevirtual 178, 3) := by decide +kernel
theorem dX11_odd_19 : decode cX11_odd 19 = .ok (.goto 5, 3) := by decide +kernel
theorem dX11_odd_22 : decode cX11_odd 22 = .ok (.bipush (-2), 2) := by decide +kernel
theorem dX11_odd_24 : decode cX11_odd 24 = .ok (.ireturn, 1) := by decide +kernel
theorem dX11_odd_4 : decode cX11_odd 4 = .ok (.iload_n 1, 1) := by decide +kernel
theorem dX11_odd_5 : decode cX11_odd 5 = .ok (.invokevirtual 144, 3) := by decide +kernel
theorem dX11_odd_8 : decode cX11_odd 8 = .ok (.ifCond .eq 14, 3) := by decide +kernel
set_option maxRecDepth 20000 in
theorem ggX10_isBarrier_J6_bitCount_0f7a4 : GoodIn wsX10_isBarrier wsJ6_bitCount_0f7a4 := goodIn_r _ [33, 34, 35, 36] (by decide +kernel) (by decide +kernel)
set_option maxRecDepth 20000 in
theorem gX10_isBarrier_J6_bitCount_0f7a4 : GoodIn wsX10_isBarrier (va_wsS RX10 40 yJ6_bitCount_0f7a4 wsJ6_bitCount_0f7a4) := goodIn_app (goodIn_of _ (by decide +kernel)) ggX10_isBarrier_J6_bitCount_0f7a4
set_option maxRecDepth 20000 in
theorem ggX10_isBarrier_X10_oddWithout : GoodIn wsX10_isBarrier wsX10_oddWithout := goodIn_r _ [7, 2, 8, 9, 10, 11, 12, 13, 14, 15, 16, 17, 18, 19, 20, 21, 22, 23, 24, 25, 26, 27, 28, 29, 30, 31, 32, 33, 34, 35, 36, 79, 80, 81, 82, 83, 84, 85, 86, 87, 88, 89] (by decide +kernel) (by decide +kernel)
set_option maxRecDepth 20000 in
theorem gX10_isBarrier_X10_oddWithout : GoodIn wsX10_isBarrier (wsV RX10 37 RX10 yX10_oddWithout wsX10_oddWithout) := goodIn_app (goodIn_of _ (by decide +kernel)) ggX10_isBarrier_X10_oddWithout
set_option maxRecDepth 20000 in
theorem ggX10_isBarrier_X2_all : GoodIn wsX10_isBarrier wsX2_all := goodIn_r _ [12, 13, 87, 88, 89] (by decide +kernel) (by decide +kernel)
set_option maxRecDepth 20000 in
theorem gX10_isBarrier_X2_all : GoodIn wsX10_isBarrier (wsV RX10 27 RX2 yX2_all wsX2_all) := goodIn_app (goodIn_of _ (by decide +kernel)) ggX10_isBarrier_X2_all
set_option maxRecDepth 20000 in
theorem ggX10_isBarrier_X3_lack : GoodIn wsX10_isBarrier wsX3_lack := goodIn_r _ [42, 43, 32, 25, 33, 34, 35, 36, 44, 45, 46, 41, 47, 48, 49, 50, 51, 52, 53, 54, 55, 56, 57, 58, 59, 60, 61, 62, 63, 64, 65, 66, 67, 68, 69, 30, 70, 71, 72, 73, 74, 75, 76, 77, 78, 90, 91, 92, 93, 87, 88, 89, 94, 95] (by decide +kernel) (by decide +kernel)
set_option maxRecDepth 20000 in
theorem gX10_isBarrier_X3_lack : GoodIn wsX10_isBarrier (wsV RX10 45 RX3 yX3_lack wsX3_lack) := goodIn_app (goodIn_of _ (by decide +kernel)) ggX10_isBarrier_X3_lack
theorem dX10_isBarrier_0 : decode cX10_isBarrier 0 = .ok (.aload_n 0, 1) := by decide +kernel
theorem dX10_isBarrier_1 : decode cX10_isBarrier 1 = .ok (.iload_n 1, 1) := by decide +kernel
theorem dX10_isBarrier_10 : decode cX10_isBarrier 10 = .ok (.aload_n 0, 1) := by decide +kernel
theorem dX10_isBarrier_11 : decode cX10_isBarrier 11 = .ok (.getfield 23, 3) := by decide +kernel
theorem dX10_isBarrier_14 : decode cX10_isBarrier 14 = .ok (.aload_n 0, 1) := by decide +kernel
theorem dX10_isBarrier_15 : decode cX10_isBarrier 15 = .ok (.getfield 19, 3) := by decide +kernel
theorem dX10_isBarrier_18 : decode cX10_isBarrier 18 = .ok (.invokevirtual 27, 3) := by decide +kernel
theorem dX10_isBarrier_2 : decode cX10_isBarrier 2 = .ok (.invokevirtual 37, 3) := by decide +kernel
theorem dX10_isBarrier_21 : decode cX10_isBarrier 21 = .ok (.invokevirtual 45, 3) := by decide +kernel
theorem dX10_isBarrier_24 : decode cX10_isBarrier 24 = .ok (.if_icmp .ne 7, 3) := by decide +kernel
theorem dX10_isBarrier_27 : decode cX10_isBarrier 27 = .ok (.iconst 1, 1) := by decide +kernel
theorem dX10_isBarrier_28 : decode cX10_isBarrier 28 = .ok (.goto 4, 3) := by decide +kernel
theorem dX10_isBarrier_32 : decode cX10_isBarrier 32 = .ok (.ireturn, 1) := by decide +kernel
theorem dX10_isBarrier_5 : decode cX10_isBarrier 5 = .ok (.iload_n 1, 1) := by decide +kernel
theorem dX10_isBarrier_6 : decode cX10_isBarrier 6 = .ok (.invokestatic 40, 3) := by decide +kernel
theorem dX10_isBarrier_9 : decode cX10_isBarrier 9 = .ok (.isub, 1) := by decide +kernel
set_option maxRecDepth 20000 in
theorem ggX11_barrier_X10_isBarrier : GoodIn wsX11_barrier wsX10_isBarrier := goodIn_r _ [17, 18, 19, 20, 21, 22, 16, 23, 24, 9, 10, 6, 11, 12, 25, 26, 27, 28, 29, 8, 30, 31, 32, 33, 34, 35, 36, 37, 38, 39, 40, 41, 42, 43, 44, 45, 46, 47, 48, 49, 50, 51, 52, 53, 54, 55, 56, 57, 58, 59, 60, 61, 62, 63, 64, 65, 66, 67, 68, 69, 70, 71, 72, 73, 74, 75, 76, 77, 78, 79, 80, 81, 82, 83, 84, 85, 86, 87, 88, 108, 109, 110, 111, 112, 113, 114, 115, 105, 106, 107, 116, 117, 118, 119, 120, 121] (by decide +kernel) (by decide +kernel)
set_option maxRecDepth 20000 in
theorem gX11_barrier_X10_isBarrier : GoodIn wsX11_barrier (wsV RX11 181 RX10 yX10_isBarrier wsX10_isBarrier) := goodIn_app (goodIn_of _ (by decide +kernel)) ggX11_barrier_X10_isBarrier
set_option maxRecDepth 20000 in
theorem ggX11_barrier_X2_hasAll : GoodIn wsX11_barrier wsX2_hasAll := goodIn_r _ [7, 8, 9, 10, 6, 11, 12, 105, 106, 107] (by decide +kernel) (by decide +kernel)
set_option maxRecDepth 20000 in
theorem gX11_barrier_X2_hasAll : GoodIn wsX11_barrier (wsV RX11 144 RX2 yX2_hasAll wsX2_hasAll) := goodIn_app (goodIn_of _ (by decide +kernel)) ggX11_barrier_X2_hasAll
theorem dX11_barrier_0 : decode cX11_barrier 0 = .ok (.aload_n 0, 1) := by decide +kernel
theorem dX11_barrier_1 : decode cX11_barrier 1 = .ok (.getfield 12, 3) := by decide +kernel
theorem dX11_barrier_11 : decode cX11_barrier 11 = .ok (.bipush (-2), 2) := by decide +kernel
theorem dX11_barrier_13 : decode cX11_barrier 13 = .ok (.ireturn, 1) := by decide +kernel
theorem dX11_barrier_14 : decode cX11_barrier 14 = .ok (.aload_n 0, 1) := by decide +kernel
theorem dX11_barrier_15 : decode cX11_barrier 15 = .ok (.getfield 37, 3) := by decide +kernel
theorem dX11_barrier_18 : decode cX11_barrier 18 = .ok (.iload_n 1, 1) := by decide +kernel
theorem dX11_barrier_19 : decode cX11_barrier 19 = .ok (.invokevirtual 181, 3) := by decide +kernel
theorem dX11_barrier_22 : decode cX11_barrier 22 = .ok (.ifCond .eq 7, 3) := by decide +kernel
theorem dX11_barrier_25 : decode cX11_barrier 25 = .ok (.iconst 1, 1) := by decide +kernel
theorem dX11_barrier_26 : decode cX11_barrier 26 = .ok (.goto 4, 3) := by decide +kernel
theorem dX11_barrier_30 : decode cX11_barrier 30 = .ok (.ireturn, 1) := by decide +kernel
theorem dX11_barrier_4 : decode cX11_barrier 4 = .ok (.iload_n 1, 1) := by decide +kernel
theorem dX11_barrier_5 : decode cX11_barrier 5 = .ok (.invokevirtual 144, 3) := by decide +kernel
theorem dX11_barrier_8 : decode cX11_barrier 8 = .ok (.ifCond .ne 6, 3) := by decide +kernel
theorem dX10_noteBarrier_0 : decode cX10_noteBarrier 0 = .ok (.aload_n 0, 1) := by decide +kernel
theorem dX10_noteBarrier_1 : decode cX10_noteBarrier 1 = .ok (.getfield 56, 3) := by decide +kernel
theorem dX10_noteBarrier_21 : decode cX10_noteBarrier 21 = .ok (.aload_n 0, 1) := by decide +kernel
theorem dX10_noteBarrier_22 : decode cX10_noteBarrier 22 = .ok (.iload_n 1, 1) := by decide +kernel
theorem dX10_noteBarrier_23 : decode cX10_noteBarrier 23 = .ok (.putfield 59, 3) := by decide +kernel
theorem dX10_noteBarrier_26 : decode cX10_noteBarrier 26 = .ok (.aload_n 0, 1) := by decide +kernel
theorem dX10_noteBarrier_27 : decode cX10_noteBarrier 27 = .ok (.dup, 1) := by decide +kernel
theorem dX10_noteBarrier_28 : decode cX10_noteBarrier 28 = .ok (.getfield 62, 3) := by decide +kernel
theorem dX10_noteBarrier_31 : decode cX10_noteBarrier 31 = .ok (.iload_n 1, 1) := by decide +kernel
theorem dX10_noteBarrier_32 : decode cX10_noteBarrier 32 = .ok (.iand, 1) := by decide +kernel
theorem dX10_noteBarrier_33 : decode cX10_noteBarrier 33 = .ok (.putfield 62, 3) := by decide +kernel
theorem dX10_noteBarrier_36 : decode cX10_noteBarrier 36 = .ok (.aload_n 0, 1) := by decide +kernel
theorem dX10_noteBarrier_37 : decode cX10_noteBarrier 37 = .ok (.dup, 1) := by decide +kernel
theorem dX10_noteBarrier_38 : decode cX10_noteBarrier 38 = .ok (.getfield 56, 3) := by decide +kernel
theorem dX10_noteBarrier_4 : decode cX10_noteBarrier 4 = .ok (.ifCond .eq 17, 3) := by decide +kernel
theorem dX10_noteBarrier_41 : decode cX10_noteBarrier 41 = .ok (.iconst 1, 1) := by decide +kernel
theorem dX10_noteBarrier_42 : decode cX10_noteBarrier 42 = .ok (.iadd, 1) := by decide +kernel
theorem dX10_noteBarrier_43 : decode cX10_noteBarrier 43 = .ok (.putfield 56, 3) := by decide +kernel
theorem dX10_noteBarrier_46 : decode cX10_noteBarrier 46 = .ok (.return_, 1) := by decide +kernel
set_option maxRecDepth 20000 in
theorem ggX10_seekBarriers_J6_bitCount_0f7a4 : GoodIn wsX10_seekBarriers wsJ6_bitCount_0f7a4 := goodIn_r _ [54, 55, 56, 57] (by decide +kernel) (by decide +kernel)
set_option maxRecDepth 20000 in
theorem gX10_seekBarriers_J6_bitCount_0f7a4 : GoodIn wsX10_seekBarriers (va_wsS RX10 40 yJ6_bitCount_0f7a4 wsJ6_bitCount_0f7a4) := goodIn_app (goodIn_of _ (by decide +kernel)) ggX10_seekBarriers_J6_bitCount_0f7a4
set_option maxRecDepth 20000 in
theorem ggX10_seekBarriers_X10_noteBarrier : GoodIn wsX10_seekBarriers wsX10_noteBarrier := goodIn_r _ [91, 4, 5, 6, 66, 53, 44, 54, 55, 56, 57, 92, 93, 94, 95, 96, 97, 98, 99] (by decide +kernel) (by decide +kernel)
set_option maxRecDepth 20000 in
theorem gX10_seekBarriers_X10_noteBarrier : GoodIn wsX10_seekBarriers (wsV RX10 68 RX10 yX10_noteBarrier wsX10_noteBarrier) := goodIn_app (goodIn_of _ (by decide +kernel)) ggX10_seekBarriers_X10_noteBarrier
set_option maxRecDepth 20000 in
theorem ggX10_seekBarriers_X10_oddWithout : GoodIn wsX10_seekBarriers wsX10_oddWithout := goodIn_r _ [71, 2, 7, 8, 9, 10, 11, 12, 72, 73, 74, 75, 76, 77, 78, 79, 80, 81, 82, 44, 83, 84, 85, 86, 46, 87, 53, 54, 55, 56, 57, 92, 93, 94, 95, 96, 97, 98, 99, 100, 101, 102] (by decide +kernel) (by decide +kernel)
set_option maxRecDepth 20000 in
theorem gX10_seekBarriers_X10_oddWithout : GoodIn wsX10_seekBarriers (wsV RX10 37 RX10 yX10_oddWithout wsX10_oddWithout) := goodIn_app (goodIn_of _ (by decide +kernel)) ggX10_seekBarriers_X10_oddWithout
set_option maxRecDepth 20000 in
theorem ggX10_seekBarriers_X2_all : GoodIn wsX10_seekBarriers wsX2_all := goodIn_r _ [11, 12, 100, 101, 102] (by decide +kernel) (by decide +kernel)
set_option maxRecDepth 20000 in
theorem gX10_seekBarriers_X2_all : GoodIn wsX10_seekBarriers (wsV RX10 27 RX2 yX2_all wsX2_all) := goodIn_app (goodIn_of _ (by decide +kernel)) ggX10_seekBarriers_X2_all
set_option maxRecDepth 20000 in
theorem ggX10_seekBarriers_X3_lack : GoodIn wsX10_seekBarriers wsX3_lack := goodIn_r _ [65, 52, 53, 44, 54, 55, 56, 57, 20, 21, 22, 16, 23, 24, 25, 26, 27, 28, 18, 29, 30, 31, 32, 33, 34, 35, 36, 37, 38, 39, 40, 41, 42, 43, 45, 46, 47, 48, 49, 50, 51, 58, 59, 60, 61, 103, 104, 105, 106, 100, 101, 102, 107, 108] (by decide +kernel) (by decide +kernel)
set_option maxRecDepth 20000 in
theorem gX10_seekBarriers_X3_lack : GoodIn wsX10_seekBarriers (wsV RX10 45 RX3 yX3_lack wsX3_lack) := goodIn_app (goodIn_of _ (by decide +kernel)) ggX10_seekBarriers_X3_lack
set_option maxRecDepth 20000 in
theorem ggX10_seekBarriers_X3_loosePoints : GoodIn wsX10_seekBarriers wsX3_loosePoints := goodIn_r _ [17, 18, 19, 8, 9, 10, 11, 12, 20, 21, 22, 16, 23, 24, 25, 26, 27, 28, 29, 30, 31, 32, 33, 34, 35, 36, 37, 38, 39, 40, 41, 42, 43, 44, 45, 46, 47, 48, 49, 50, 51, 52, 53, 54, 55, 56, 57, 58, 59, 60, 61, 103, 104, 105, 106, 100, 101, 102, 107, 108] (by decide +kernel) (by decide +kernel)
set_option maxRecDepth 20000 in
theorem gX10_seekBarriers_X3_loosePoints : GoodIn wsX10_seekBarriers (wsV RX10 53 RX3 yX3_loosePoints wsX3_loosePoints) := goodIn_app (goodIn_of _ (by decide +kernel)) ggX10_seekBarriers_X3_loosePoints
theorem dX10_seekBarriers_0 : decode cX10_seekBarriers 0 = .ok (.aload_n 0, 1) := by decide +kernel
theorem dX10_seekBarriers_1 : decode cX10_seekBarriers 1 = .ok (.getfield 15, 3) := by decide +kernel
theorem dX10_seekBarriers_101 : decode cX10_seekBarriers 101 = .ok (.iload_n 3, 1) := by decide +kernel
theorem dX10_seekBarriers_102 : decode cX10_seekBarriers 102 = .ok (.invokestatic 40, 3) := by decide +kernel
theorem dX10_seekBarriers_105 : decode cX10_seekBarriers 105 = .ok (.iload 5, 2) := by decide +kernel
theorem dX10_seekBarriers_107 : decode cX10_seekBarriers 107 = .ok (.iadd, 1) := by decide +kernel
theorem dX10_seekBarriers_108 : decode cX10_seekBarriers 108 = .ok (.aload_n 0, 1) := by decide +kernel
theorem dX10_seekBarriers_109 : decode cX10_seekBarriers 109 = .ok (.getfield 19, 3) := by decide +kernel
theorem dX10_seekBarriers_11 : decode cX10_seekBarriers 11 = .ok (.if_icmp .ne 4, 3) := by decide +kernel
theorem dX10_seekBarriers_112 : decode cX10_seekBarriers 112 = .ok (.getfield 65, 3) := by decide +kernel
theorem dX10_seekBarriers_115 : decode cX10_seekBarriers 115 = .ok (.if_icmp .gt 7, 3) := by decide +kernel
theorem dX10_seekBarriers_118 : decode cX10_seekBarriers 118 = .ok (.iconst 1, 1) := by decide +kernel
theorem dX10_seekBarriers_119 : decode cX10_seekBarriers 119 = .ok (.goto 4, 3) := by decide +kernel
theorem dX10_seekBarriers_123 : decode cX10_seekBarriers 123 = .ok (.istore 6, 2) := by decide +kernel
theorem dX10_seekBarriers_125 : decode cX10_seekBarriers 125 = .ok (.iload 6, 2) := by decide +kernel
theorem dX10_seekBarriers_127 : decode cX10_seekBarriers 127 = .ok (.ifCond .eq 18, 3) := by decide +kernel
theorem dX10_seekBarriers_130 : decode cX10_seekBarriers 130 = .ok (.aload_n 0, 1) := by decide +kernel
theorem dX10_seekBarriers_131 : decode cX10_seekBarriers 131 = .ok (.iload_n 3, 1) := by decide +kernel
theorem dX10_seekBarriers_132 : decode cX10_seekBarriers 132 = .ok (.invokevirtual 37, 3) := by decide +kernel
theorem dX10_seekBarriers_135 : decode cX10_seekBarriers 135 = .ok (.iload 5, 2) := by decide +kernel
theorem dX10_seekBarriers_137 : decode cX10_seekBarriers 137 = .ok (.if_icmp .ne 8, 3) := by decide +kernel
theorem dX10_seekBarriers_140 : decode cX10_seekBarriers 140 = .ok (.aload_n 0, 1) := by decide +kernel
theorem dX10_seekBarriers_141 : decode cX10_seekBarriers 141 = .ok (.iload_n 3, 1) := by decide +kernel
theorem dX10_seekBarriers_142 : decode cX10_seekBarriers 142 = .ok (.invokevirtual 68, 3) := by decide +kernel
theorem dX10_seekBarriers_145 : decode cX10_seekBarriers 145 = .ok (.iload_n 3, 1) := by decide +kernel
theorem dX10_seekBarriers_146 : decode cX10_seekBarriers 146 = .ok (.iload_n 1, 1) := by decide +kernel
theorem dX10_seekBarriers_147 : decode cX10_seekBarriers 147 = .ok (.if_icmp .ne 4, 3) := by decide +kernel
theorem dX10_seekBarriers_15 : decode cX10_seekBarriers 15 = .ok (.aload_n 0, 1) := by decide +kernel
theorem dX10_seekBarriers_150 : decode cX10_seekBarriers 150 = .ok (.return_, 1) := by decide +kernel
theorem dX10_seekBarriers_16 : decode cX10_seekBarriers 16 = .ok (.aload_n 0, 1) := by decide +kernel
theorem dX10_seekBarriers_17 : decode cX10_seekBarriers 17 = .ok (.getfield 19, 3) := by decide +kernel
theorem dX10_seekBarriers_20 : decode cX10_seekBarriers 20 = .ok (.getfield 50, 3) := by decide +kernel
theorem dX10_seekBarriers_23 : decode cX10_seekBarriers 23 = .ok (.putfield 15, 3) := by decide +kernel
theorem dX10_seekBarriers_26 : decode cX10_seekBarriers 26 = .ok (.aload_n 0, 1) := by decide +kernel
theorem dX10_seekBarriers_27 : decode cX10_seekBarriers 27 = .ok (.getfield 19, 3) := by decide +kernel
theorem dX10_seekBarriers_30 : decode cX10_seekBarriers 30 = .ok (.invokevirtual 27, 3) := by decide +kernel
theorem dX10_seekBarriers_33 : decode cX10_seekBarriers 33 = .ok (.aload_n 0, 1) := by decide +kernel
theorem dX10_seekBarriers_34 : decode cX10_seekBarriers 34 = .ok (.getfield 23, 3) := by decide +kernel
theorem dX10_seekBarriers_37 : decode cX10_seekBarriers 37 = .ok (.invokevirtual 53, 3) := by decide +kernel
theorem dX10_seekBarriers_4 : decode cX10_seekBarriers 4 = .ok (.aload_n 0, 1) := by decide +kernel
theorem dX10_seekBarriers_40 : decode cX10_seekBarriers 40 = .ok (.iconst (-1), 1) := by decide +kernel
theorem dX10_seekBarriers_41 : decode cX10_seekBarriers 41 = .ok (.ixor, 1) := by decide +kernel
theorem dX10_seekBarriers_42 : decode cX10_seekBarriers 42 = .ok (.iand, 1) := by decide +kernel
theorem dX10_seekBarriers_43 : decode cX10_seekBarriers 43 = .ok (.istore_n 1, 1) := by decide +kernel
theorem dX10_seekBarriers_44 : decode cX10_seekBarriers 44 = .ok (.aload_n 0, 1) := by decide +kernel
theorem dX10_seekBarriers_45 : decode cX10_seekBarriers 45 = .ok (.getfield 23, 3) := by decide +kernel
theorem dX10_seekBarriers_48 : decode cX10_seekBarriers 48 = .ok (.aload_n 0, 1) := by decide +kernel
theorem dX10_seekBarriers_49 : decode cX10_seekBarriers 49 = .ok (.getfield 19, 3) := by decide +kernel
theorem dX10_seekBarriers_5 : decode cX10_seekBarriers 5 = .ok (.getfield 19, 3) := by decide +kernel
theorem dX10_seekBarriers_52 : decode cX10_seekBarriers 52 = .ok (.invokevirtual 27, 3) := by decide +kernel
theorem dX10_seekBarriers_55 : decode cX10_seekBarriers 55 = .ok (.invokevirtual 45, 3) := by decide +kernel
theorem dX10_seekBarriers_58 : decode cX10_seekBarriers 58 = .ok (.istore_n 2, 1) := by decide +kernel
theorem dX10_seekBarriers_59 : decode cX10_seekBarriers 59 = .ok (.aload_n 0, 1) := by decide +kernel
theorem dX10_seekBarriers_60 : decode cX10_seekBarriers 60 = .ok (.iconst 0, 1) := by decide +kernel
theorem dX10_seekBarriers_61 : decode cX10_seekBarriers 61 = .ok (.putfield 56, 3) := by decide +kernel
theorem dX10_seekBarriers_64 : decode cX10_seekBarriers 64 = .ok (.aload_n 0, 1) := by decide +kernel
theorem dX10_seekBarriers_65 : decode cX10_seekBarriers 65 = .ok (.iconst 0, 1) := by decide +kernel
theorem dX10_seekBarriers_66 : decode cX10_seekBarriers 66 = .ok (.putfield 59, 3) := by decide +kernel
theorem dX10_seekBarriers_69 : decode cX10_seekBarriers 69 = .ok (.aload_n 0, 1) := by decide +kernel
theorem dX10_seekBarriers_70 : decode cX10_seekBarriers 70 = .ok (.aload_n 0, 1) := by decide +kernel
theorem dX10_seekBarriers_71 : decode cX10_seekBarriers 71 = .ok (.getfield 19, 3) := by decide +kernel
theorem dX10_seekBarriers_74 : decode cX10_seekBarriers 74 = .ok (.invokevirtual 27, 3) := by decide +kernel
theorem dX10_seekBarriers_77 : decode cX10_seekBarriers 77 = .ok (.putfield 62, 3) := by decide +kernel
theorem dX10_seekBarriers_8 : decode cX10_seekBarriers 8 = .ok (.getfield 50, 3) := by decide +kernel
theorem dX10_seekBarriers_80 : decode cX10_seekBarriers 80 = .ok (.iconst 0, 1) := by decide +kernel
theorem dX10_seekBarriers_81 : decode cX10_seekBarriers 81 = .ok (.istore_n 3, 1) := by decide +kernel
theorem dX10_seekBarriers_82 : decode cX10_seekBarriers 82 = .ok (.iconst 0, 1) := by decide +kernel
theorem dX10_seekBarriers_83 : decode cX10_seekBarriers 83 = .ok (.istore 4, 2) := by decide +kernel
theorem dX10_seekBarriers_85 : decode cX10_seekBarriers 85 = .ok (.iload 4, 2) := by decide +kernel
theorem dX10_seekBarriers_87 : decode cX10_seekBarriers 87 = .ok (.sipush 4096, 3) := by decide +kernel
theorem dX10_seekBarriers_90 : decode cX10_seekBarriers 90 = .ok (.if_icmp .ge 73, 3) := by decide +kernel
theorem dX10_seekBarriers_93 : decode cX10_seekBarriers 93 = .ok (.iload_n 3, 1) := by decide +kernel
theorem dX10_seekBarriers_94 : decode cX10_seekBarriers 94 = .ok (.invokestatic 40, 3) := by decide +kernel
theorem dX10_seekBarriers_97 : decode cX10_seekBarriers 97 = .ok (.iload_n 2, 1) := by decide +kernel
theorem dX10_seekBarriers_98 : decode cX10_seekBarriers 98 = .ok (.iadd, 1) := by decide +kernel
theorem dX10_seekBarriers_99 : decode cX10_seekBarriers 99 = .ok (.istore 5, 2) := by decide +kernel
set_option maxHeartbeats 4000000 in
set_option maxRecDepth 100000 in
theorem c_X3_number_3 (l : Launch) (D : va_G) (cI cS : ClassId) (sz : Nat) (h0 h1 h2 h3 h4 h6 : Nat) : Met l yX3_number wsX3_number ({ frames := 2, cells := 2, slots := 24578, locals := 80 }) (PQ D cI cS [(h0, .inr (3, [.ref h1, .ref h2, .ref h3, .int 0])), (h1, .inr (2, [.ref h4, .int 0, .int 0])), (h3, .inr (1, [.ref h6, .int 1])), (h6, .inl (cI, 0, .inl (fun _ => 0)))] sz [.ref h0, .int 0, .int 3]) (QI D [(h0, .inr (3, [.ref h1, .ref h2, .ref h3, .int 0])), (h1, .inr (2, [.ref h4, .int 0, .int 0])), (h3, .inr (1, [.ref h6, .int 1])), (h6, .inl (cI, 0, .inl (fun _ => 0)))] [] sz (fun r => r = (0 : Int32))) 2 24578 (va_A [(h0, .inr (3, [.ref h1, .ref h2, .ref h3, .int 0])), (h1, .inr (2, [.ref h4, .int 0, .int 0])), (h3, .inr (1, [.ref h6, .int 1])), (h6, .inl (cI, 0, .inl (fun _ => 0)))] sz) := by
  refine Met.ofW (cc := cX3_number) (maxL := 3) (ret := (some .int)) (by decide) rfl ?_
  intro p e s m args below meth c s₁ B hml hv
  obtain ⟨rfl, hsz, hP, hKK, hD0⟩ := hv
  have hx := B.exec
  have hb := B.bytes
  have hr := B.returns
  have hts := atoms_spec (ws := wsX3_number) B.pre
  have hown : s.vm.findClass RX3 = some m.cls := findClass_of_methodNamed B.named
  have hlocks := B.notSynchronized
  have hK := hKK.1
  have hN := hKK.2
  have hin1 : ∀ w ∈ wsX10, w ∈ wsX3_number := by decide +kernel
  have hin3 : ∀ w ∈ wsX30, w ∈ wsX3_number := by decide +kernel
  subst hsz
  have hD := hD0.self (sz := s.heap.size)
  obtain ⟨A, hAe⟩ : ∃ A, A = va_A [(h0, .inr (3, [.ref h1, .ref h2, .ref h3, .int 0])), (h1, .inr (2, [.ref h4, .int 0, .int 0])), (h3, .inr (1, [.ref h6, .int 1])), (h6, .inl (cI, 0, .inl (fun _ => 0)))] s.heap.size := ⟨_, rfl⟩
  rw [← hAe] at hD
  have hA : ∀ q : Nat, s.heap.size ≤ q → A q := fun q h => by rw [hAe]; exact Or.inr h
  have hS : va_S A s.heap s.heap [] := va_S.rf
  have hl := lv_entry ([.ref h0, .int 0, .int 3]) (n := 3) (Nat.le_of_ble_eq_true rfl)
  rw [lg_entry_eq]
  generalize (lg_sl ([.ref h0, .int 0, .int 3]) ++ List.replicate (3 - (lg_sl ([.ref h0, .int 0, .int 3])).length) Slot.unset).toArray = ls at hl ⊢
  have hl : lv_has ls 3 [(0, .ref h0), (1, .int 0), (2, .int 3)] := hl
  refine lv_aload_n hx hb dX3_number_0 rfl (lv_at hl 0 rfl) ?_
  have hPc := hP.sub (ws' := [(h0, .inr (3, [.ref h1, .ref h2, .ref h3, .int 0])), (h1, .inr (2, [.ref h4, .int 0, .int 0]))]) [0, 1] rfl
  refine lz_sw (As := []) (rest := []) ⟨hx, hb, hml, hown, hts⟩ (c_X3_notice_0 l D cI cS h0 h1 h2 h3 h4) hKK hPc (ci := 3) rfl rfl (cwV 0 hts gX3_number_X3_notice rfl rfl rfl (by decide +kernel) ⟨Nat.le_of_ble_eq_true rfl, Nat.le_of_ble_eq_true rfl⟩) rfl hl.1 rfl (Nat.le_of_ble_eq_true rfl) dX3_number_1 ⟨Nat.le_of_ble_eq_true rfl, Nat.le_of_ble_eq_true rfl⟩ ?_
  refine lv_aload_n hx hb dX3_number_4 rfl (lv_at hl 0 rfl) ?_
  refine va_get (D := D) (ci := 3) (v := .ref h3) (C := RX3) (T := TX3) (N := 4) hx hb hts hin3 hown hK hP 0 rfl rfl 2 (by decide) (hts (.fieldLink RX3 20 "MissedPoints$Pairs" "numbers" "LMissedPoints$Memo;") (by decide +kernel)) (fun _ h9 => h9) rfl dX3_number_5 ?_
  have hPc := hP.sub (ws' := [(h3, .inr (1, [.ref h6, .int 1])), (h6, .inl (cI, 0, .inl (fun _ => 0)))]) [2, 3] rfl
  refine lz_sv (As := []) (rest := []) ⟨hx, hb, hml, hown, hts⟩ (c_X1_isBlank_0 l D cI cS h3 h6) hKK hPc (ci := 1) rfl rfl (cwV 0 hts gX3_number_X1_isBlank rfl rfl rfl (by decide +kernel) ⟨Nat.le_of_ble_eq_true rfl, Nat.le_of_ble_eq_true rfl⟩) rfl hl.1 rfl (Nat.le_of_ble_eq_true rfl) dX3_number_8 ⟨Nat.le_of_ble_eq_true rfl, Nat.le_of_ble_eq_true rfl⟩ (fun r2737 hw => ?_)
  subst hw
  refine lv_if_eq (tgt := 28) hx hb dX3_number_11 (by decide) (fun c2738 => ?_) (fun c2738 => ?_)
  · exact absurd c2738 (by decide)
  · refine lv_aload_n hx hb dX3_number_14 rfl (lv_at hl 0 rfl) ?_
    refine va_new (ci := 1) (fs := [.null, .int 0]) (C := RX1) (T := TX1) (N := 2) hx hb hts hin1 tyX1 tyX1_ok hown (hts (.classLink RX3 9 RX1) (by decide +kernel)) (hts (.instantiable RX1 2) (by decide +kernel)) (hts (.initialized RX1) (by decide +kernel)) hK hP hD hS hA rfl (fun j hj => by rcases (show j = 0 ∨ j = 1 by omega) with rfl | rfl <;> rfl) (Nat.le_of_ble_eq_true rfl) (Nat.le_of_ble_eq_true rfl) dX3_number_15 (fun q2739 H hP hD hS => ?_)
    have hP : va_P D cls [(h0, .inr (3, [.ref h1, .ref h2, .ref h3, .int 0])), (h1, .inr (2, [.ref h4, .int 0, .int 0])), (h3, .inr (1, [.ref h6, .int 1])), (h6, .inl (cI, 0, .inl (fun _ => 0))), (q2739, .inr (1, [.null, .int 0]))] H := hP
    have hD : va_D A [(h0, .inr (3, [.ref h1, .ref h2, .ref h3, .int 0])), (h1, .inr (2, [.ref h4, .int 0, .int 0])), (h3, .inr (1, [.ref h6, .int 1])), (h6, .inl (cI, 0, .inl (fun _ => 0))), (q2739, .inr (1, [.null, .int 0]))] := hD
    refine W.widen (k := 1) (n := 2) (Nat.le_of_ble_eq_true rfl) (Nat.le_of_ble_eq_true rfl) ?_
    refine lv_dup hx hb dX3_number_18 rfl ?_
    refine lv_sipush (v := 24576) hx hb dX3_number_19 (by decide) ?_
    have hPc := hP.sub (ws' := [(q2739, .inr (1, [.null, .int 0]))]) [4] rfl
    have hDc := hD.sub (ws' := [(q2739, .inr (1, [.null, .int 0]))]) [4] (by decide) rfl
    refine lz_qc (wr := [(h0, .inr (3, [.ref h1, .ref h2, .ref h3, .int 0])), (h1, .inr (2, [.ref h4, .int 0, .int 0])), (h3, .inr (1, [.ref h6, .int 1])), (h6, .inl (cI, 0, .inl (fun _ => 0)))]) (w1 := []) (As := [.int 24576]) (rest := [.ref q2739, .ref h0]) ⟨hx, hb, hml, hown, hts⟩ (c_X1_init_0 l D cI cS _ q2739) hKK hP hD hS hA [4] [0, 1, 2, 3] (by decide) rfl rfl (by decide) (by decide) hPc hDc (cwI 1 hts gX3_number_X1_init rfl rfl rfl (hts (.initialized RX1) (by decide +kernel)) (hts (.methodLink RX3 11 yX1_init) (by decide +kernel)) (hts (.instanceMethod yX1_init) (by decide +kernel)) rfl (by decide +kernel) ⟨Nat.le_of_ble_eq_true rfl, Nat.le_of_ble_eq_true rfl⟩) rfl hl.1 rfl (Nat.le_of_ble_eq_true rfl) dX3_number_22 ⟨Nat.le_of_ble_eq_true rfl, Nat.le_of_ble_eq_true rfl⟩ (fun H locs hP hD hS => ?_)
    have hP : va_P D cls [(h0, .inr (3, [.ref h1, .ref h2, .ref h3, .int 0])), (h1, .inr (2, [.ref h4, .int 0, .int 0])), (h3, .inr (1, [.ref h6, .int 1])), (h6, .inl (cI, 0, .inl (fun _ => 0)))] H := hP
    have hD : va_D A [(h0, .inr (3, [.ref h1, .ref h2, .ref h3, .int 0])), (h1, .inr (2, [.ref h4, .int 0, .int 0])), (h3, .inr (1, [.ref h6, .int 1])), (h6, .inl (cI, 0, .inl (fun _ => 0)))] := hD
    refine W.widen (k := 2) (n := 24578) (Nat.le_of_ble_eq_true rfl) (Nat.le_of_ble_eq_true rfl) ?_
    refine va_put (D := D) (ci := 3) (v := .ref q2739) (ty := (.object "MissedPoints$Memo")) (C := RX3) (T := TX3) (N := 4) hx hb hts hin3 tyX3 tyX3_ok nmX3 hown hK hP hD hS 0 rfl rfl 2 (by decide) (hts (.fieldLink RX3 20 "MissedPoints$Pairs" "numbers" "LMissedPoints$Memo;") (by decide +kernel)) (fun _ h9 => h9) rfl (by decide +kernel) rfl rfl (Nat.le_of_ble_eq_true rfl) dX3_number_25 (fun H locs hP hD hS => ?_)
    have hP : va_P D cls [(h0, .inr (3, [.ref h1, .ref h2, .ref q2739, .int 0])), (h1, .inr (2, [.ref h4, .int 0, .int 0])), (h3, .inr (1, [.ref h6, .int 1])), (h6, .inl (cI, 0, .inl (fun _ => 0)))] H := hP
    have hD : va_D A [(h0, .inr (3, [.ref h1, .ref h2, .ref q2739, .int 0])), (h1, .inr (2, [.ref h4, .int 0, .int 0])), (h3, .inr (1, [.ref h6, .int 1])), (h6, .inl (cI, 0, .inl (fun _ => 0)))] := hD
    refine lv_aload_n hx hb dX3_number_28 rfl (lv_at hl 0 rfl) ?_
    refine lv_iload_n hx hb dX3_number_29 rfl (lv_at hl 1 rfl) ?_
    refine lv_iload_n hx hb dX3_number_30 rfl (lv_at hl 2 rfl) ?_
    refine lv_iconst (v := 0) hx hb dX3_number_31 (by decide) ?_
    have hPc := hP.sub (ws' := [(h0, .inr (3, [.ref h1, .ref h2, .ref q2739, .int 0]))]) [0] rfl
    refine lz_sv (As := [.int 0, .int 3, .int 0]) (rest := []) ⟨hx, hb, hml, hown, hts⟩ (c_X3_numberOf_3 l D cI cS h0 h1 h2 q2739) hKK hPc (ci := 3) rfl rfl (cwV 3 hts gX3_number_X3_numberOf rfl rfl rfl (by decide +kernel) ⟨Nat.le_of_ble_eq_true rfl, Nat.le_of_ble_eq_true rfl⟩) rfl hl.1 rfl (Nat.le_of_ble_eq_true rfl) dX3_number_32 ⟨Nat.le_of_ble_eq_true rfl, Nat.le_of_ble_eq_true rfl⟩ (fun r2741 hw => ?_)
    subst hw
    have hP9 := hP.sub (ws' := []) [] rfl
    have hD9 := hD.sub (ws' := []) [] (by decide) rfl
    refine W.widen (k := 2) (n := 24578) (Nat.le_of_ble_eq_true rfl) (Nat.le_of_ble_eq_true rfl) ?_
    subst hAe
    exact W.iret (v := 0) hx hb hr (fun t ht hW => ⟨⟨_, (), rfl, rfl, by rw [ht]; exact hP9, hD9⟩, hS.F ht⟩) hS.2.2 dX3_number_35
set_option maxHeartbeats 4000000 in
set_option maxRecDepth 100000 in
theorem c_X3_numberOf_4 (l : Launch) (D : va_G) (cI cS : ClassId) (h0 h1 h2 h3 : Nat) : Met l yX3_numberOf wsX3_numberOf ({ frames := 1, cells := 0, slots := 0, locals := 40 }) (PS D cI cS [(h0, .inr (3, [.ref h1, .ref h2, .ref h3, .int 0]))] [.ref h0, .int 0, .int 4, .int 0]) (vp_Si (fun r => r = (0 : Int32))) 0 0 (fun _ => False) := by
  refine Met.ofW (cc := cX3_numberOf) (maxL := 11) (ret := (some .int)) (by decide) rfl ?_
  intro p e s m args below meth c s₁ B hml hv
  obtain ⟨rfl, hP, hKK⟩ := hv
  have hx := B.exec
  have hb := B.bytes
  have hr := B.returns
  have hts := atoms_spec (ws := wsX3_numberOf) B.pre
  have hown : s.vm.findClass RX3 = some m.cls := findClass_of_methodNamed B.named
  have hlocks := B.notSynchronized
  have hK := hKK.1
  have hN := hKK.2
  have hl := lv_entry ([.ref h0, .int 0, .int 4, .int 0]) (n := 11) (Nat.le_of_ble_eq_true rfl)
  rw [lg_entry_eq]
  generalize (lg_sl ([.ref h0, .int 0, .int 4, .int 0]) ++ List.replicate (11 - (lg_sl ([.ref h0, .int 0, .int 4, .int 0])).length) Slot.unset).toArray = ls at hl ⊢
  have hl : lv_has ls 11 [(0, .ref h0), (1, .int 0), (2, .int 4), (3, .int 0)] := hl
  refine lv_iload_n hx hb dX3_numberOf_0 rfl (lv_at hl 2 rfl) ?_
  refine lv_if_ne (tgt := 6) hx hb dX3_numberOf_1 (by decide) (fun c2755 => ?_) (fun c2755 => ?_)
  · refine lv_bipush (v := 31) hx hb dX3_numberOf_6 (by decide) ?_
    refine lv_iload_n hx hb dX3_numberOf_8 rfl (lv_at hl 1 rfl) ?_
    have hPc := hP.sub (ws' := []) [] rfl
    refine lz_ss (As := [.int 0]) (rest := [.int 31]) ⟨hx, hb, hml, hown, hts⟩ (c_J6_numberOfLeadingZeros_0f7a4_0 l D cI cS) hKK hPc (va_cwS 1 hts gX3_numberOf_J6_numberOfLeadingZeros_0f7a4 rfl rfl rfl (by decide +kernel) ⟨Nat.le_of_ble_eq_true rfl, Nat.le_of_ble_eq_true rfl⟩) rfl hl.1 rfl (Nat.le_of_ble_eq_true rfl) dX3_numberOf_9 ⟨Nat.le_of_ble_eq_true rfl, Nat.le_of_ble_eq_true rfl⟩ (fun r2756 hw => ?_)
    subst hw
    refine lv_isub hx hb dX3_numberOf_12 ?_
    refine lz_top (y := (-1)) (by decide) ?_
    refine lv_istore (lv' := [(4, .int (-1)), (0, .ref h0), (1, .int 0), (2, .int 4), (3, .int 0)]) hx hb dX3_numberOf_13 hl (by decide) rfl (fun ls hl => ?_)
    refine lv_iload_n hx hb dX3_numberOf_15 rfl (lv_at hl 3 rfl) ?_
    refine lv_if_lt (tgt := 42) hx hb dX3_numberOf_16 (by decide) (fun c2757 => ?_) (fun c2757 => ?_)
    · exact absurd c2757 (by decide)
    · refine lv_iconst (v := 2) hx hb dX3_numberOf_19 (by decide) ?_
      refine lv_iload_n hx hb dX3_numberOf_20 rfl (lv_at hl 3 rfl) ?_
      refine lv_imul hx hb dX3_numberOf_21 ?_
      refine lz_top (y := 8) (by decide) ?_
      refine lv_iload_n hx hb dX3_numberOf_22 rfl (lv_at hl 2 rfl) ?_
      have hPc := hP.sub (ws' := []) [] rfl
      refine lz_ss (As := [.int 0]) (rest := [.int 8]) ⟨hx, hb, hml, hown, hts⟩ (c_J6_bitCount_0f7a4_0 l D cI cS) hKK hPc (va_cwS 1 hts gX3_numberOf_J6_bitCount_0f7a4 rfl rfl rfl (by decide +kernel) ⟨Nat.le_of_ble_eq_true rfl, Nat.le_of_ble_eq_true rfl⟩) rfl hl.1 rfl (Nat.le_of_ble_eq_true rfl) dX3_numberOf_23 ⟨Nat.le_of_ble_eq_true rfl, Nat.le_of_ble_eq_true rfl⟩ (fun r2758 hw => ?_)
      subst hw
      refine lv_icmp_gt (tgt := 42) hx hb dX3_numberOf_26 (by decide) (fun c2759 => ?_) (fun c2759 => ?_)
      · refine lv_iconst (v := 0) hx hb dX3_numberOf_42 (by decide) ?_
        exact W.iret (v := 0) hx hb hr (fun t ht hW => ⟨_, rfl, rfl, ht⟩) (fun q hq => absurd hq List.not_mem_nil) dX3_numberOf_43
      · exact absurd c2759 (by decide)
  · exact absurd c2755 (by decide)
set_option maxHeartbeats 4000000 in
set_option maxRecDepth 100000 in
theorem c_X3_number_4 (l : Launch) (D : va_G) (cI cS : ClassId) (sz : Nat) (h0 h1 h2 h3 h4 h6 : Nat) : Met l yX3_number wsX3_number ({ frames := 2, cells := 2, slots := 24578, locals := 80 }) (PQ D cI cS [(h0, .inr (3, [.ref h1, .ref h2, .ref h3, .int 0])), (h1, .inr (2, [.ref h4, .int 0, .int 0])), (h3, .inr (1, [.ref h6, .int 1])), (h6, .inl (cI, 0, .inl (fun _ => 0)))] sz [.ref h0, .int 0, .int 4]) (QI D [(h0, .inr (3, [.ref h1, .ref h2, .ref h3, .int 0])), (h1, .inr (2, [.ref h4, .int 0, .int 0])), (h3, .inr (1, [.ref h6, .int 1])), (h6, .inl (cI, 0, .inl (fun _ => 0)))] [] sz (fun r => r = (0 : Int32))) 2 24578 (va_A [(h0, .inr (3, [.ref h1, .ref h2, .ref h3, .int 0])), (h1, .inr (2, [.ref h4, .int 0, .int 0])), (h3, .inr (1, [.ref h6, .int 1])), (h6, .inl (cI, 0, .inl (fun _ => 0)))] sz) := by
  refine Met.ofW (cc := cX3_number) (maxL := 3) (ret := (some .int)) (by decide) rfl ?_
  intro p e s m args below meth c s₁ B hml hv
  obtain ⟨rfl, hsz, hP, hKK, hD0⟩ := hv
  have hx := B.exec
  have hb := B.bytes
  have hr := B.returns
  have hts := atoms_spec (ws := wsX3_number) B.pre
  have hown : s.vm.findClass RX3 = some m.cls := findClass_of_methodNamed B.named
  have hlocks := B.notSynchronized
  have hK := hKK.1
  have hN := hKK.2
  have hin1 : ∀ w ∈ wsX10, w ∈ wsX3_number := by decide +kernel
  have hin3 : ∀ w ∈ wsX30, w ∈ wsX3_number := by decide +kernel
  subst hsz
  have hD := hD0.self (sz := s.heap.size)
  obtain ⟨A, hAe⟩ : ∃ A, A = va_A [(h0, .inr (3, [.ref h1, .ref h2, .ref h3, .int 0])), (h1, .inr (2, [.ref h4, .int 0, .int 0])), (h3, .inr (1, [.ref h6, .int 1])), (h6, .inl (cI, 0, .inl (fun _ => 0)))] s.heap.size := ⟨_, rfl⟩
  rw [← hAe] at hD
  have hA : ∀ q : Nat, s.heap.size ≤ q → A q := fun q h => by rw [hAe]; exact Or.inr h
  have hS : va_S A s.heap s.heap [] := va_S.rf
  have hl := lv_entry ([.ref h0, .int 0, .int 4]) (n := 3) (Nat.le_of_ble_eq_true rfl)
  rw [lg_entry_eq]
  generalize (lg_sl ([.ref h0, .int 0, .int 4]) ++ List.replicate (3 - (lg_sl ([.ref h0, .int 0, .int 4])).length) Slot.unset).toArray = ls at hl ⊢
  have hl : lv_has ls 3 [(0, .ref h0), (1, .int 0), (2, .int 4)] := hl
  refine lv_aload_n hx hb dX3_number_0 rfl (lv_at hl 0 rfl) ?_
  have hPc := hP.sub (ws' := [(h0, .inr (3, [.ref h1, .ref h2, .ref h3, .int 0])), (h1, .inr (2, [.ref h4, .int 0, .int 0]))]) [0, 1] rfl
  refine lz_sw (As := []) (rest := []) ⟨hx, hb, hml, hown, hts⟩ (c_X3_notice_0 l D cI cS h0 h1 h2 h3 h4) hKK hPc (ci := 3) rfl rfl (cwV 0 hts gX3_number_X3_notice rfl rfl rfl (by decide +kernel) ⟨Nat.le_of_ble_eq_true rfl, Nat.le_of_ble_eq_true rfl⟩) rfl hl.1 rfl (Nat.le_of_ble_eq_true rfl) dX3_number_1 ⟨Nat.le_of_ble_eq_true rfl, Nat.le_of_ble_eq_true rfl⟩ ?_
  refine lv_aload_n hx hb dX3_number_4 rfl (lv_at hl 0 rfl) ?_
  refine va_get (D := D) (ci := 3) (v := .ref h3) (C := RX3) (T := TX3) (N := 4) hx hb hts hin3 hown hK hP 0 rfl rfl 2 (by decide) (hts (.fieldLink RX3 20 "MissedPoints$Pairs" "numbers" "LMissedPoints$Memo;") (by decide +kernel)) (fun _ h9 => h9) rfl dX3_number_5 ?_
  have hPc := hP.sub (ws' := [(h3, .inr (1, [.ref h6, .int 1])), (h6, .inl (cI, 0, .inl (fun _ => 0)))]) [2, 3] rfl
  refine lz_sv (As := []) (rest := []) ⟨hx, hb, hml, hown, hts⟩ (c_X1_isBlank_0 l D cI cS h3 h6) hKK hPc (ci := 1) rfl rfl (cwV 0 hts gX3_number_X1_isBlank rfl rfl rfl (by decide +kernel) ⟨Nat.le_of_ble_eq_true rfl, Nat.le_of_ble_eq_true rfl⟩) rfl hl.1 rfl (Nat.le_of_ble_eq_true rfl) dX3_number_8 ⟨Nat.le_of_ble_eq_true rfl, Nat.le_of_ble_eq_true rfl⟩ (fun r2762 hw => ?_)
  subst hw
  refine lv_if_eq (tgt := 28) hx hb dX3_number_11 (by decide) (fun c2763 => ?_) (fun c2763 => ?_)
  · exact absurd c2763 (by decide)
  · refine lv_aload_n hx hb dX3_number_14 rfl (lv_at hl 0 rfl) ?_
    refine va_new (ci := 1) (fs := [.null, .int 0]) (C := RX1) (T := TX1) (N := 2) hx hb hts hin1 tyX1 tyX1_ok hown (hts (.classLink RX3 9 RX1) (by decide +kernel)) (hts (.instantiable RX1 2) (by decide +kernel)) (hts (.initialized RX1) (by decide +kernel)) hK hP hD hS hA rfl (fun j hj => by rcases (show j = 0 ∨ j = 1 by omega) with rfl | rfl <;> rfl) (Nat.le_of_ble_eq_true rfl) (Nat.le_of_ble_eq_true rfl) dX3_number_15 (fun q2764 H hP hD hS => ?_)
    have hP : va_P D cls [(h0, .inr (3, [.ref h1, .ref h2, .ref h3, .int 0])), (h1, .inr (2, [.ref h4, .int 0, .int 0])), (h3, .inr (1, [.ref h6, .int 1])), (h6, .inl (cI, 0, .inl (fun _ => 0))), (q2764, .inr (1, [.null, .int 0]))] H := hP
    have hD : va_D A [(h0, .inr (3, [.ref h1, .ref h2, .ref h3, .int 0])), (h1, .inr (2, [.ref h4, .int 0, .int 0])), (h3, .inr (1, [.ref h6, .int 1])), (h6, .inl (cI, 0, .inl (fun _ => 0))), (q2764, .inr (1, [.null, .int 0]))] := hD
    refine W.widen (k := 1) (n := 2) (Nat.le_of_ble_eq_true rfl) (Nat.le_of_ble_eq_true rfl) ?_
    refine lv_dup hx hb dX3_number_18 rfl ?_
    refine lv_sipush (v := 24576) hx hb dX3_number_19 (by decide) ?_
    have hPc := hP.sub (ws' := [(q2764, .inr (1, [.null, .int 0]))]) [4] rfl
    have hDc := hD.sub (ws' := [(q2764, .inr (1, [.null, .int 0]))]) [4] (by decide) rfl
    refine lz_qc (wr := [(h0, .inr (3, [.ref h1, .ref h2, .ref h3, .int 0])), (h1, .inr (2, [.ref h4, .int 0, .int 0])), (h3, .inr (1, [.ref h6, .int 1])), (h6, .inl (cI, 0, .inl (fun _ => 0)))]) (w1 := []) (As := [.int 24576]) (rest := [.ref q2764, .ref h0]) ⟨hx, hb, hml, hown, hts⟩ (c_X1_init_0 l D cI cS _ q2764) hKK hP hD hS hA [4] [0, 1, 2, 3] (by decide) rfl rfl (by decide) (by decide) hPc hDc (cwI 1 hts gX3_number_X1_init rfl rfl rfl (hts (.initialized RX1) (by decide +kernel)) (hts (.methodLink RX3 11 yX1_init) (by decide +kernel)) (hts (.instanceMethod yX1_init) (by decide +kernel)) rfl (by decide +kernel) ⟨Nat.le_of_ble_eq_true rfl, Nat.le_of_ble_eq_true rfl⟩) rfl hl.1 rfl (Nat.le_of_ble_eq_true rfl) dX3_number_22 ⟨Nat.le_of_ble_eq_true rfl, Nat.le_of_ble_eq_true rfl⟩ (fun H locs hP hD hS => ?_)
    have hP : va_P D cls [(h0, .inr (3, [.ref h1, .ref h2, .ref h3, .int 0])), (h1, .inr (2, [.ref h4, .int 0, .int 0])), (h3, .inr (1, [.ref h6, .int 1])), (h6, .inl (cI, 0, .inl (fun _ => 0)))] H := hP
    have hD : va_D A [(h0, .inr (3, [.ref h1, .ref h2, .ref h3, .int 0])), (h1, .inr (2, [.ref h4, .int 0, .int 0])), (h3, .inr (1, [.ref h6, .int 1])), (h6, .inl (cI, 0, .inl (fun _ => 0)))] := hD
    refine W.widen (k := 2) (n := 24578) (Nat.le_of_ble_eq_true rfl) (Nat.le_of_ble_eq_true rfl) ?_
    refine va_put (D := D) (ci := 3) (v := .ref q2764) (ty := (.object "MissedPoints$Memo")) (C := RX3) (T := TX3) (N := 4) hx hb hts hin3 tyX3 tyX3_ok nmX3 hown hK hP hD hS 0 rfl rfl 2 (by decide) (hts (.fieldLink RX3 20 "MissedPoints$Pairs" "numbers" "LMissedPoints$Memo;") (by decide +kernel)) (fun _ h9 => h9) rfl (by decide +kernel) rfl rfl (Nat.le_of_ble_eq_true rfl) dX3_number_25 (fun H locs hP hD hS => ?_)
    have hP : va_P D cls [(h0, .inr (3, [.ref h1, .ref h2, .ref q2764, .int 0])), (h1, .inr (2, [.ref h4, .int 0, .int 0])), (h3, .inr (1, [.ref h6, .int 1])), (h6, .inl (cI, 0, .inl (fun _ => 0)))] H := hP
    have hD : va_D A [(h0, .inr (3, [.ref h1, .ref h2, .ref q2764, .int 0])), (h1, .inr (2, [.ref h4, .int 0, .int 0])), (h3, .inr (1, [.ref h6, .int 1])), (h6, .inl (cI, 0, .inl (fun _ => 0)))] := hD
    refine lv_aload_n hx hb dX3_number_28 rfl (lv_at hl 0 rfl) ?_
    refine lv_iload_n hx hb dX3_number_29 rfl (lv_at hl 1 rfl) ?_
    refine lv_iload_n hx hb dX3_number_30 rfl (lv_at hl 2 rfl) ?_
    refine lv_iconst (v := 0) hx hb dX3_number_31 (by decide) ?_
    have hPc := hP.sub (ws' := [(h0, .inr (3, [.ref h1, .ref h2, .ref q2764, .int 0]))]) [0] rfl
    refine lz_sv (As := [.int 0, .int 4, .int 0]) (rest := []) ⟨hx, hb, hml, hown, hts⟩ (c_X3_numberOf_4 l D cI cS h0 h1 h2 q2764) hKK hPc (ci := 3) rfl rfl (cwV 3 hts gX3_number_X3_numberOf rfl rfl rfl (by decide +kernel) ⟨Nat.le_of_ble_eq_true rfl, Nat.le_of_ble_eq_true rfl⟩) rfl hl.1 rfl (Nat.le_of_ble_eq_true rfl) dX3_number_32 ⟨Nat.le_of_ble_eq_true rfl, Nat.le_of_ble_eq_true rfl⟩ (fun r2766 hw => ?_)
    subst hw
    have hP9 := hP.sub (ws' := []) [] rfl
    have hD9 := hD.sub (ws' := []) [] (by decide) rfl
    refine W.widen (k := 2) (n := 24578) (Nat.le_of_ble_eq_true rfl) (Nat.le_of_ble_eq_true rfl) ?_
    subst hAe
    exact W.iret (v := 0) hx hb hr (fun t ht hW => ⟨⟨_, (), rfl, rfl, by rw [ht]; exact hP9, hD9⟩, hS.F ht⟩) hS.2.2 dX3_number_35
set_option maxHeartbeats 4000000 in
set_option maxRecDepth 100000 in
theorem c_X3_numberOf_5 (l : Launch) (D : va_G) (cI cS : ClassId) (h0 h1 h2 h3 : Nat) : Met l yX3_numberOf wsX3_numberOf ({ frames := 1, cells := 0, slots := 0, locals := 40 }) (PS D cI cS [(h0, .inr (3, [.ref h1, .ref h2, .ref h3, .int 0]))] [.ref h0, .int 0, .int 5, .int 0]) (vp_Si (fun r => r = (0 : Int32))) 0 0 (fun _ => False) := by
  refine Met.ofW (cc := cX3_numberOf) (maxL := 11) (ret := (some .int)) (by decide) rfl ?_
  intro p e s m args below meth c s₁ B hml hv
  obtain ⟨rfl, hP, hKK⟩ := hv
  have hx := B.exec
  have hb := B.bytes
  have hr := B.returns
  have hts := atoms_spec (ws := wsX3_numberOf) B.pre
  have hown : s.vm.findClass RX3 = some m.cls := findClass_of_methodNamed B.named
  have hlocks := B.notSynchronized
  have hK := hKK.1
  have hN := hKK.2
  have hl := lv_entry ([.ref h0, .int 0, .int 5, .int 0]) (n := 11) (Nat.le_of_ble_eq_true rfl)
  rw [lg_entry_eq]
  generalize (lg_sl ([.ref h0, .int 0, .int 5, .int 0]) ++ List.replicate (11 - (lg_sl ([.ref h0, .int 0, .int 5, .int 0])).length) Slot.unset).toArray = ls at hl ⊢
  have hl : lv_has ls 11 [(0, .ref h0), (1, .int 0), (2, .int 5), (3, .int 0)] := hl
  refine lv_iload_n hx hb dX3_numberOf_0 rfl (lv_at hl 2 rfl) ?_
  refine lv_if_ne (tgt := 6) hx hb dX3_numberOf_1 (by decide) (fun c2780 => ?_) (fun c2780 => ?_)
  · refine lv_bipush (v := 31) hx hb dX3_numberOf_6 (by decide) ?_
    refine lv_iload_n hx hb dX3_numberOf_8 rfl (lv_at hl 1 rfl) ?_
    have hPc := hP.sub (ws' := []) [] rfl
    refine lz_ss (As := [.int 0]) (rest := [.int 31]) ⟨hx, hb, hml, hown, hts⟩ (c_J6_numberOfLeadingZeros_0f7a4_0 l D cI cS) hKK hPc (va_cwS 1 hts gX3_numberOf_J6_numberOfLeadingZeros_0f7a4 rfl rfl rfl (by decide +kernel) ⟨Nat.le_of_ble_eq_true rfl, Nat.le_of_ble_eq_true rfl⟩) rfl hl.1 rfl (Nat.le_of_ble_eq_true rfl) dX3_numberOf_9 ⟨Nat.le_of_ble_eq_true rfl, Nat.le_of_ble_eq_true rfl⟩ (fun r2781 hw => ?_)
    subst hw
    refine lv_isub hx hb dX3_numberOf_12 ?_
    refine lz_top (y := (-1)) (by decide) ?_
    refine lv_istore (lv' := [(4, .int (-1)), (0, .ref h0), (1, .int 0), (2, .int 5), (3, .int 0)]) hx hb dX3_numberOf_13 hl (by decide) rfl (fun ls hl => ?_)
    refine lv_iload_n hx hb dX3_numberOf_15 rfl (lv_at hl 3 rfl) ?_
    refine lv_if_lt (tgt := 42) hx hb dX3_numberOf_16 (by decide) (fun c2782 => ?_) (fun c2782 => ?_)
    · exact absurd c2782 (by decide)
    · refine lv_iconst (v := 2) hx hb dX3_numberOf_19 (by decide) ?_
      refine lv_iload_n hx hb dX3_numberOf_20 rfl (lv_at hl 3 rfl) ?_
      refine lv_imul hx hb dX3_numberOf_21 ?_
      refine lz_top (y := 10) (by decide) ?_
      refine lv_iload_n hx hb dX3_numberOf_22 rfl (lv_at hl 2 rfl) ?_
      have hPc := hP.sub (ws' := []) [] rfl
      refine lz_ss (As := [.int 0]) (rest := [.int 10]) ⟨hx, hb, hml, hown, hts⟩ (c_J6_bitCount_0f7a4_0 l D cI cS) hKK hPc (va_cwS 1 hts gX3_numberOf_J6_bitCount_0f7a4 rfl rfl rfl (by decide +kernel) ⟨Nat.le_of_ble_eq_true rfl, Nat.le_of_ble_eq_true rfl⟩) rfl hl.1 rfl (Nat.le_of_ble_eq_true rfl) dX3_numberOf_23 ⟨Nat.le_of_ble_eq_true rfl, Nat.le_of_ble_eq_true rfl⟩ (fun r2783 hw => ?_)
      subst hw
      refine lv_icmp_gt (tgt := 42) hx hb dX3_numberOf_26 (by decide) (fun c2784 => ?_) (fun c2784 => ?_)
      · refine lv_iconst (v := 0) hx hb dX3_numberOf_42 (by decide) ?_
        exact W.iret (v := 0) hx hb hr (fun t ht hW => ⟨_, rfl, rfl, ht⟩) (fun q hq => absurd hq List.not_mem_nil) dX3_numberOf_43
      · exact absurd c2784 (by decide)
  · exact absurd c2780 (by decide)
set_option maxHeartbeats 4000000 in
set_option maxRecDepth 100000 in
theorem c_X3_number_5 (l : Launch) (D : va_G) (cI cS : ClassId) (sz : Nat) (h0 h1 h2 h3 h4 h6 : Nat) : Met l yX3_number wsX3_number ({ frames := 2, cells := 2, slots := 24578, locals := 80 }) (PQ D cI cS [(h0, .inr (3, [.ref h1, .ref h2, .ref h3, .int 0])), (h1, .inr (2, [.ref h4, .int 0, .int 0])), (h3, .inr (1, [.ref h6, .int 1])), (h6, .inl (cI, 0, .inl (fun _ => 0)))] sz [.ref h0, .int 0, .int 5]) (QI D [(h0, .inr (3, [.ref h1, .ref h2, .ref h3, .int 0])), (h1, .inr (2, [.ref h4, .int 0, .int 0])), (h3, .inr (1, [.ref h6, .int 1])), (h6, .inl (cI, 0, .inl (fun _ => 0)))] [] sz (fun r => r = (0 : Int32))) 2 24578 (va_A [(h0, .inr (3, [.ref h1, .ref h2, .ref h3, .int 0])), (h1, .inr (2, [.ref h4, .int 0, .int 0])), (h3, .inr (1, [.ref h6, .int 1])), (h6, .inl (cI, 0, .inl (fun _ => 0)))] sz) := by
  refine Met.ofW (cc := cX3_number) (maxL := 3) (ret := (some .int)) (by decide) rfl ?_
  intro p e s m args below meth c s₁ B hml hv
  obtain ⟨rfl, hsz, hP, hKK, hD0⟩ := hv
  have hx := B.exec
  have hb := B.bytes
  have hr := B.returns
  have hts := atoms_spec (ws := wsX3_number) B.pre
  have hown : s.vm.findClass RX3 = some m.cls := findClass_of_methodNamed B.named
  have hlocks := B.notSynchronized
  have hK := hKK.1
  have hN := hKK.2
  have hin1 : ∀ w ∈ wsX10, w ∈ wsX3_number := by decide +kernel
  have hin3 : ∀ w ∈ wsX30, w ∈ wsX3_number := by decide +kernel
  subst hsz
  have hD := hD0.self (sz := s.heap.size)
  obtain ⟨A, hAe⟩ : ∃ A, A = va_A [(h0, .inr (3, [.ref h1, .ref h2, .ref h3, .int 0])), (h1, .inr (2, [.ref h4, .int 0, .int 0])), (h3, .inr (1, [.ref h6, .int 1])), (h6, .inl (cI, 0, .inl (fun _ => 0)))] s.heap.size := ⟨_, rfl⟩
  rw [← hAe] at hD
  have hA : ∀ q : Nat, s.heap.size ≤ q → A q := fun q h => by rw [hAe]; exact Or.inr h
  have hS : va_S A s.heap s.heap [] := va_S.rf
  have hl := lv_entry ([.ref h0, .int 0, .int 5]) (n := 3) (Nat.le_of_ble_eq_true rfl)
  rw [lg_entry_eq]
  generalize (lg_sl ([.ref h0, .int 0, .int 5]) ++ List.replicate (3 - (lg_sl ([.ref h0, .int 0, .int 5])).length) Slot.unset).toArray = ls at hl ⊢
  have hl : lv_has ls 3 [(0, .ref h0), (1, .int 0), (2, .int 5)] := hl
  refine lv_aload_n hx hb dX3_number_0 rfl (lv_at hl 0 rfl) ?_
  have hPc := hP.sub (ws' := [(h0, .inr (3, [.ref h1, .ref h2, .ref h3, .int 0])), (h1, .inr (2, [.ref h4, .int 0, .int 0]))]) [0, 1] rfl
  refine lz_sw (As := []) (rest := []) ⟨hx, hb, hml, hown, hts⟩ (c_X3_notice_0 l D cI cS h0 h1 h2 h3 h4) hKK hPc (ci := 3) rfl rfl (cwV 0 hts gX3_number_X3_notice rfl rfl rfl (by decide +kernel) ⟨Nat.le_of_ble_eq_true rfl, Nat.le_of_ble_eq_true rfl⟩) rfl hl.1 rfl (Nat.le_of_ble_eq_true rfl) dX3_number_1 ⟨Nat.le_of_ble_eq_true rfl, Nat.le_of_ble_eq_true rfl⟩ ?_
  refine lv_aload_n hx hb dX3_number_4 rfl (lv_at hl 0 rfl) ?_
  refine va_get (D := D) (ci := 3) (v := .ref h3) (C := RX3) (T := TX3) (N := 4) hx hb hts hin3 hown hK hP 0 rfl rfl 2 (by decide) (hts (.fieldLink RX3 20 "MissedPoints$Pairs" "numbers" "LMissedPoints$Memo;") (by decide +kernel)) (fun _ h9 => h9) rfl dX3_number_5 ?_
  have hPc := hP.sub (ws' := [(h3, .inr (1, [.ref h6, .int 1])), (h6, .inl (cI, 0, .inl (fun _ => 0)))]) [2, 3] rfl
  refine lz_sv (As := []) (rest := []) ⟨hx, hb, hml, hown, hts⟩ (c_X1_isBlank_0 l D cI cS h3 h6) hKK hPc (ci := 1) rfl rfl (cwV 0 hts gX3_number_X1_isBlank rfl rfl rfl (by decide +kernel) ⟨Nat.le_of_ble_eq_true rfl, Nat.le_of_ble_eq_true rfl⟩) rfl hl.1 rfl (Nat.le_of_ble_eq_true rfl) dX3_number_8 ⟨Nat.le_of_ble_eq_true rfl, Nat.le_of_ble_eq_true rfl⟩ (fun r2787 hw => ?_)
  subst hw
  refine lv_if_eq (tgt := 28) hx hb dX3_number_11 (by decide) (fun c2788 => ?_) (fun c2788 => ?_)
  · exact absurd c2788 (by decide)
  · refine lv_aload_n hx hb dX3_number_14 rfl (lv_at hl 0 rfl) ?_
    refine va_new (ci := 1) (fs := [.null, .int 0]) (C := RX1) (T := TX1) (N := 2) hx hb hts hin1 tyX1 tyX1_ok hown (hts (.classLink RX3 9 RX1) (by decide +kernel)) (hts (.instantiable RX1 2) (by decide +kernel)) (hts (.initialized RX1) (by decide +kernel)) hK hP hD hS hA rfl (fun j hj => by rcases (show j = 0 ∨ j = 1 by omega) with rfl | rfl <;> rfl) (Nat.le_of_ble_eq_true rfl) (Nat.le_of_ble_eq_true rfl) dX3_number_15 (fun q2789 H hP hD hS => ?_)
    have hP : va_P D cls [(h0, .inr (3, [.ref h1, .ref h2, .ref h3, .int 0])), (h1, .inr (2, [.ref h4, .int 0, .int 0])), (h3, .inr (1, [.ref h6, .int 1])), (h6, .inl (cI, 0, .inl (fun _ => 0))), (q2789, .inr (1, [.null, .int 0]))] H := hP
    have hD : va_D A [(h0, .inr (3, [.ref h1, .ref h2, .ref h3, .int 0])), (h1, .inr (2, [.ref h4, .int 0, .int 0])), (h3, .inr (1, [.ref h6, .int 1])), (h6, .inl (cI, 0, .inl (fun _ => 0))), (q2789, .inr (1, [.null, .int 0]))] := hD
    refine W.widen (k := 1) (n := 2) (Nat.le_of_ble_eq_true rfl) (Nat.le_of_ble_eq_true rfl) ?_
    refine lv_dup hx hb dX3_number_18 rfl ?_
    refine lv_sipush (v := 24576) hx hb dX3_number_19 (by decide) ?_
    have hPc := hP.sub (ws' := [(q2789, .inr (1, [.null, .int 0]))]) [4] rfl
    have hDc := hD.sub (ws' := [(q2789, .inr (1, [.null, .int 0]))]) [4] (by decide) rfl
    refine lz_qc (wr := [(h0, .inr (3, [.ref h1, .ref h2, .ref h3, .int 0])), (h1, .inr (2, [.ref h4, .int 0, .int 0])), (h3, .inr (1, [.ref h6, .int 1])), (h6, .inl (cI, 0, .inl (fun _ => 0)))]) (w1 := []) (As := [.int 24576]) (rest := [.ref q2789, .ref h0]) ⟨hx, hb, hml, hown, hts⟩ (c_X1_init_0 l D cI cS _ q2789) hKK hP hD hS hA [4] [0, 1, 2, 3] (by decide) rfl rfl (by decide) (by decide) hPc hDc (cwI 1 hts gX3_number_X1_init rfl rfl rfl (hts (.initialized RX1) (by decide +kernel)) (hts (.methodLink RX3 11 yX1_init) (by decide +kernel)) (hts (.instanceMethod yX1_init) (by decide +kernel)) rfl (by decide +kernel) ⟨Nat.le_of_ble_eq_true rfl, Nat.le_of_ble_eq_true rfl⟩) rfl hl.1 rfl (Nat.le_of_ble_eq_true rfl) dX3_number_22 ⟨Nat.le_of_ble_eq_true rfl, Nat.le_of_ble_eq_true rfl⟩ (fun H locs hP hD hS => ?_)
    have hP : va_P D cls [(h0, .inr (3, [.ref h1, .ref h2, .ref h3, .int 0])), (h1, .inr (2, [.ref h4, .int 0, .int 0])), (h3, .inr (1, [.ref h6, .int 1])), (h6, .inl (cI, 0, .inl (fun _ => 0)))] H := hP
    have hD : va_D A [(h0, .inr (3, [.ref h1, .ref h2, .ref h3, .int 0])), (h1, .inr (2, [.ref h4, .int 0, .int 0])), (h3, .inr (1, [.ref h6, .int 1])), (h6, .inl (cI, 0, .inl (fun _ => 0)))] := hD
    refine W.widen (k := 2) (n := 24578) (Nat.le_of_ble_eq_true rfl) (Nat.le_of_ble_eq_true rfl) ?_
    refine va_put (D := D) (ci := 3) (v := .ref q2789) (ty := (.object "MissedPoints$Memo")) (C := RX3) (T := TX3) (N := 4) hx hb hts hin3 tyX3 tyX3_ok nmX3 hown hK hP hD hS 0 rfl rfl 2 (by decide) (hts (.fieldLink RX3 20 "MissedPoints$Pairs" "numbers" "LMissedPoints$Memo;") (by decide +kernel)) (fun _ h9 => h9) rfl (by decide +kernel) rfl rfl (Nat.le_of_ble_eq_true rfl) dX3_number_25 (fun H locs hP hD hS => ?_)
    have hP : va_P D cls [(h0, .inr (3, [.ref h1, .ref h2, .ref q2789, .int 0])), (h1, .inr (2, [.ref h4, .int 0, .int 0])), (h3, .inr (1, [.ref h6, .int 1])), (h6, .inl (cI, 0, .inl (fun _ => 0)))] H := hP
    have hD : va_D A [(h0, .inr (3, [.ref h1, .ref h2, .ref q2789, .int 0])), (h1, .inr (2, [.ref h4, .int 0, .int 0])), (h3, .inr (1, [.ref h6, .int 1])), (h6, .inl (cI, 0, .inl (fun _ => 0)))] := hD
    refine lv_aload_n hx hb dX3_number_28 rfl (lv_at hl 0 rfl) ?_
    refine lv_iload_n hx hb dX3_number_29 rfl (lv_at hl 1 rfl) ?_
    refine lv_iload_n hx hb dX3_number_30 rfl (lv_at hl 2 rfl) ?_
    refine lv_iconst (v := 0) hx hb dX3_number_31 (by decide) ?_
    have hPc := hP.sub (ws' := [(h0, .inr (3, [.ref h1, .ref h2, .ref q2789, .int 0]))]) [0] rfl
    refine lz_sv (As := [.int 0, .int 5, .int 0]) (rest := []) ⟨hx, hb, hml, hown, hts⟩ (c_X3_numberOf_5 l D cI cS h0 h1 h2 q2789) hKK hPc (ci := 3) rfl rfl (cwV 3 hts gX3_number_X3_numberOf rfl rfl rfl (by decide +kernel) ⟨Nat.le_of_ble_eq_true rfl, Nat.le_of_ble_eq_true rfl⟩) rfl hl.1 rfl (Nat.le_of_ble_eq_true rfl) dX3_number_32 ⟨Nat.le_of_ble_eq_true rfl, Nat.le_of_ble_eq_true rfl⟩ (fun r2791 hw => ?_)
    subst hw
    have hP9 := hP.sub (ws' := []) [] rfl
    have hD9 := hD.sub (ws' := []) [] (by decide) rfl
    refine W.widen (k := 2) (n := 24578) (Nat.le_of_ble_eq_true rfl) (Nat.le_of_ble_eq_true rfl) ?_
    subst hAe
    exact W.iret (v := 0) hx hb hr (fun t ht hW => ⟨⟨_, (), rfl, rfl, by rw [ht]; exact hP9, hD9⟩, hS.F ht⟩) hS.2.2 dX3_number_35
set_option maxHeartbeats 4000000 in
set_option maxRecDepth 100000 in
theorem c_X3_numberOf_6 (l : Launch) (D : va_G) (cI cS : ClassId) (h0 h1 h2 h3 : Nat) : Met l yX3_numberOf wsX3_numberOf ({ frames := 1, cells := 0, slots := 0, locals := 40 }) (PS D cI cS [(h0, .inr (3, [.ref h1, .ref h2, .ref h3, .int 0]))] [.ref h0, .int 0, .int 6, .int 0]) (vp_Si (fun r => r = (0 : Int32))) 0 0 (fun _ => False) := by
  refine Met.ofW (cc := cX3_numberOf) (maxL := 11) (ret := (some .int)) (by decide) rfl ?_
  intro p e s m args below meth c s₁ B hml hv
  obtain ⟨rfl, hP, hKK⟩ := hv
  have hx := B.exec
  have hb := B.bytes
  have hr := B.returns
  have hts := atoms_spec (ws := wsX3_numberOf) B.pre
  have hown : s.vm.findClass RX3 = some m.cls := findClass_of_methodNamed B.named
  have hlocks := B.notSynchronized
  have hK := hKK.1
  have hN := hKK.2
  have hl := lv_entry ([.ref h0, .int 0, .int 6, .int 0]) (n := 11) (Nat.le_of_ble_eq_true rfl)
  rw [lg_entry_eq]
  generalize (lg_sl ([.ref h0, .int 0, .int 6, .int 0]) ++ List.replicate (11 - (lg_sl ([.ref h0, .int 0, .int 6, .int 0])).length) Slot.unset).toArray = ls at hl ⊢
  have hl : lv_has ls 11 [(0, .ref h0), (1, .int 0), (2, .int 6), (3, .int 0)] := hl
  refine lv_iload_n hx hb dX3_numberOf_0 rfl (lv_at hl 2 rfl) ?_
  refine lv_if_ne (tgt := 6) hx hb dX3_numberOf_1 (by decide) (fun c2804 => ?_) (fun c2804 => ?_)
  · refine lv_bipush (v := 31) hx hb dX3_numberOf_6 (by decide) ?_
    refine lv_iload_n hx hb dX3_numberOf_8 rfl (lv_at hl 1 rfl) ?_
    have hPc := hP.sub (ws' := []) [] rfl
    refine lz_ss (As := [.int 0]) (rest := [.int 31]) ⟨hx, hb, hml, hown, hts⟩ (c_J6_numberOfLeadingZeros_0f7a4_0 l D cI cS) hKK hPc (va_cwS 1 hts gX3_numberOf_J6_numberOfLeadingZeros_0f7a4 rfl rfl rfl (by decide +kernel) ⟨Nat.le_of_ble_eq_true rfl, Nat.le_of_ble_eq_true rfl⟩) rfl hl.1 rfl (Nat.le_of_ble_eq_true rfl) dX3_numberOf_9 ⟨Nat.le_of_ble_eq_true rfl, Nat.le_of_ble_eq_true rfl⟩ (fun r2805 hw => ?_)
    subst hw
    refine lv_isub hx hb dX3_numberOf_12 ?_
    refine lz_top (y := (-1)) (by decide) ?_
    refine lv_istore (lv' := [(4, .int (-1)), (0, .ref h0), (1, .int 0), (2, .int 6), (3, .int 0)]) hx hb dX3_numberOf_13 hl (by decide) rfl (fun ls hl => ?_)
    refine lv_iload_n hx hb dX3_numberOf_15 rfl (lv_at hl 3 rfl) ?_
    refine lv_if_lt (tgt := 42) hx hb dX3_numberOf_16 (by decide) (fun c2806 => ?_) (fun c2806 => ?_)
    · exact absurd c2806 (by decide)
    · refine lv_iconst (v := 2) hx hb dX3_numberOf_19 (by decide) ?_
      refine lv_iload_n hx hb dX3_numberOf_20 rfl (lv_at hl 3 rfl) ?_
      refine lv_imul hx hb dX3_numberOf_21 ?_
      refine lz_top (y := 12) (by decide) ?_
      refine lv_iload_n hx hb dX3_numberOf_22 rfl (lv_at hl 2 rfl) ?_
      have hPc := hP.sub (ws' := []) [] rfl
      refine lz_ss (As := [.int 0]) (rest := [.int 12]) ⟨hx, hb, hml, hown, hts⟩ (c_J6_bitCount_0f7a4_0 l D cI cS) hKK hPc (va_cwS 1 hts gX3_numberOf_J6_bitCount_0f7a4 rfl rfl rfl (by decide +kernel) ⟨Nat.le_of_ble_eq_true rfl, Nat.le_of_ble_eq_true rfl⟩) rfl hl.1 rfl (Nat.le_of_ble_eq_true rfl) dX3_numberOf_23 ⟨Nat.le_of_ble_eq_true rfl, Nat.le_of_ble_eq_true rfl⟩ (fun r2807 hw => ?_)
      subst hw
      refine lv_icmp_gt (tgt := 42) hx hb dX3_numberOf_26 (by decide) (fun c2808 => ?_) (fun c2808 => ?_)
      · refine lv_iconst (v := 0) hx hb dX3_numberOf_42 (by decide) ?_
        exact W.iret (v := 0) hx hb hr (fun t ht hW => ⟨_, rfl, rfl, ht⟩) (fun q hq => absurd hq List.not_mem_nil) dX3_numberOf_43
      · exact absurd c2808 (by decide)
  · exact absurd c2804 (by decide)
set_option maxHeartbeats 4000000 in
set_option maxRecDepth 100000 in
theorem c_X3_number_6 (l : Launch) (D : va_G) (cI cS : ClassId) (sz : Nat) (h0 h1 h2 h3 h4 h6 : Nat) : Met l yX3_number wsX3_number ({ frames := 2, cells := 2, slots := 24578, locals := 80 }) (PQ D cI cS [(h0, .inr (3, [.ref h1, .ref h2, .ref h3, .int 0])), (h1, .inr (2, [.ref h4, .int 0, .int 0])), (h3, .inr (1, [.ref h6, .int 1])), (h6, .inl (cI, 0, .inl (fun _ => 0)))] sz [.ref h0, .int 0, .int 6]) (QI D [(h0, .inr (3, [.ref h1, .ref h2, .ref h3, .int 0])), (h1, .inr (2, [.ref h4, .int 0, .int 0])), (h3, .inr (1, [.ref h6, .int 1])), (h6, .inl (cI, 0, .inl (fun _ => 0)))] [] sz (fun r => r = (0 : Int32))) 2 24578 (va_A [(h0, .inr (3, [.ref h1, .ref h2, .ref h3, .int 0])), (h1, .inr (2, [.ref h4, .int 0, .int 0])), (h3, .inr (1, [.ref h6, .int 1])), (h6, .inl (cI, 0, .inl (fun _ => 0)))] sz) := by
  refine Met.ofW (cc := cX3_number) (maxL := 3) (ret := (some .int)) (by decide) rfl ?_
  intro p e s m args below meth c s₁ B hml hv
  obtain ⟨rfl, hsz, hP, hKK, hD0⟩ := hv
  have hx := B.exec
  have hb := B.bytes
  have hr := B.returns
  have hts := atoms_spec (ws := wsX3_number) B.pre
  have hown : s.vm.findClass RX3 = some m.cls := findClass_of_methodNamed B.named
  have hlocks := B.notSynchronized
  have hK := hKK.1
  have hN := hKK.2
  have hin1 : ∀ w ∈ wsX10, w ∈ wsX3_number := by decide +kernel
  have hin3 : ∀ w ∈ wsX30, w ∈ wsX3_number := by decide +kernel
  subst hsz
  have hD := hD0.self (sz := s.heap.size)
  obtain ⟨A, hAe⟩ : ∃ A, A = va_A [(h0, .inr (3, [.ref h1, .ref h2, .ref h3, .int 0])), (h1, .inr (2, [.ref h4, .int 0, .int 0])), (h3, .inr (1, [.ref h6, .int 1])), (h6, .inl (cI, 0, .inl (fun _ => 0)))] s.heap.size := ⟨_, rfl⟩
  rw [← hAe] at hD
  have hA : ∀ q : Nat, s.heap.size ≤ q → A q := fun q h => by rw [hAe]; exact Or.inr h
  have hS : va_S A s.heap s.heap [] := va_S.rf
  have hl := lv_entry ([.ref h0, .int 0, .int 6]) (n := 3) (Nat.le_of_ble_eq_true rfl)
  rw [lg_entry_eq]
  generalize (lg_sl ([.ref h0, .int 0, .int 6]) ++ List.replicate (3 - (lg_sl ([.ref h0, .int 0, .int 6])).length) Slot.unset).toArray = ls at hl ⊢
  have hl : lv_has ls 3 [(0, .ref h0), (1, .int 0), (2, .int 6)] := hl
  refine lv_aload_n hx hb dX3_number_0 rfl (lv_at hl 0 rfl) ?_
  have hPc := hP.sub (ws' := [(h0, .inr (3, [.ref h1, .ref h2, .ref h3, .int 0])), (h1, .inr (2, [.ref h4, .int 0, .int 0]))]) [0, 1] rfl
  refine lz_sw (As := []) (rest := []) ⟨hx, hb, hml, hown, hts⟩ (c_X3_notice_0 l D cI cS h0 h1 h2 h3 h4) hKK hPc (ci := 3) rfl rfl (cwV 0 hts gX3_number_X3_notice rfl rfl rfl (by decide +kernel) ⟨Nat.le_of_ble_eq_true rfl, Nat.le_of_ble_eq_true rfl⟩) rfl hl.1 rfl (Nat.le_of_ble_eq_true rfl) dX3_number_1 ⟨Nat.le_of_ble_eq_true rfl, Nat.le_of_ble_eq_true rfl⟩ ?_
  refine lv_aload_n hx hb dX3_number_4 rfl (lv_at hl 0 rfl) ?_
  refine va_get (D := D) (ci := 3) (v := .ref h3) (C := RX3) (T := TX3) (N := 4) hx hb hts hin3 hown hK hP 0 rfl rfl 2 (by decide) (hts (.fieldLink RX3 20 "MissedPoints$Pairs" "numbers" "LMissedPoints$Memo;") (by decide +kernel)) (fun _ h9 => h9) rfl dX3_number_5 ?_
  have hPc := hP.sub (ws' := [(h3, .inr (1, [.ref h6, .int 1])), (h6, .inl (cI, 0, .inl (fun _ => 0)))]) [2, 3] rfl
  refine lz_sv (As := []) (rest := []) ⟨hx, hb, hml, hown, hts⟩ (c_X1_isBlank_0 l D cI cS h3 h6) hKK hPc (ci := 1) rfl rfl (cwV 0 hts gX3_number_X1_isBlank rfl rfl rfl (by decide +kernel) ⟨Nat.le_of_ble_eq_true rfl, Nat.le_of_ble_eq_true rfl⟩) rfl hl.1 rfl (Nat.le_of_ble_eq_true rfl) dX3_number_8 ⟨Nat.le_of_ble_eq_true rfl, Nat.le_of_ble_eq_true rfl⟩ (fun r2811 hw => ?_)
  subst hw
  refine lv_if_eq (tgt := 28) hx hb dX3_number_11 (by decide) (fun c2812 => ?_) (fun c2812 => ?_)
  · exact absurd c2812 (by decide)
  · refine lv_aload_n hx hb dX3_number_14 rfl (lv_at hl 0 rfl) ?_
    refine va_new (ci := 1) (fs := [.null, .int 0]) (C := RX1) (T := TX1) (N := 2) hx hb hts hin1 tyX1 tyX1_ok hown (hts (.classLink RX3 9 RX1) (by decide +kernel)) (hts (.instantiable RX1 2) (by decide +kernel)) (hts (.initialized RX1) (by decide +kernel)) hK hP hD hS hA rfl (fun j hj => by rcases (show j = 0 ∨ j = 1 by omega) with rfl | rfl <;> rfl) (Nat.le_of_ble_eq_true rfl) (Nat.le_of_ble_eq_true rfl) dX3_number_15 (fun q2813 H hP hD hS => ?_)
    have hP : va_P D cls [(h0, .inr (3, [.ref h1, .ref h2, .ref h3, .int 0])), (h1, .inr (2, [.ref h4, .int 0, .int 0])), (h3, .inr (1, [.ref h6, .int 1])), (h6, .inl (cI, 0, .inl (fun _ => 0))), (q2813, .inr (1, [.null, .int 0]))] H := hP
    have hD : va_D A [(h0, .inr (3, [.ref h1, .ref h2, .ref h3, .int 0])), (h1, .inr (2, [.ref h4, .int 0, .int 0])), (h3, .inr (1, [.ref h6, .int 1])), (h6, .inl (cI, 0, .inl (fun _ => 0))), (q2813, .inr (1, [.null, .int 0]))] := hD
    refine W.widen (k := 1) (n := 2) (Nat.le_of_ble_eq_true rfl) (Nat.le_of_ble_eq_true rfl) ?_
    refine lv_dup hx hb dX3_number_18 rfl ?_
    refine lv_sipush (v := 24576) hx hb dX3_number_19 (by decide) ?_
    have hPc := hP.sub (ws' := [(q2813, .inr (1, [.null, .int 0]))]) [4] rfl
    have hDc := hD.sub (ws' := [(q2813, .inr (1, [.null, .int 0]))]) [4] (by decide) rfl
    refine lz_qc (wr := [(h0, .inr (3, [.ref h1, .ref h2, .ref h3, .int 0])), (h1, .inr (2, [.ref h4, .int 0, .int 0])), (h3, .inr (1, [.ref h6, .int 1])), (h6, .inl (cI, 0, .inl (fun _ => 0)))]) (w1 := []) (As := [.int 24576]) (rest := [.ref q2813, .ref h0]) ⟨hx, hb, hml, hown, hts⟩ (c_X1_init_0 l D cI cS _ q2813) hKK hP hD hS hA [4] [0, 1, 2, 3] (by decide) rfl rfl (by decide) (by decide) hPc hDc (cwI 1 hts gX3_number_X1_init rfl rfl rfl (hts (.initialized RX1) (by decide +kernel)) (hts (.methodLink RX3 11 yX1_init) (by decide +kernel)) (hts (.instanceMethod yX1_init) (by decide +kernel)) rfl (by decide +kernel) ⟨Nat.le_of_ble_eq_true rfl, Nat.le_of_ble_eq_true rfl⟩) rfl hl.1 rfl (Nat.le_of_ble_eq_true rfl) dX3_number_22 ⟨Nat.le_of_ble_eq_true rfl, Nat.le_of_ble_eq_true rfl⟩ (fun H locs hP hD hS => ?_)
    have hP : va_P D cls [(h0, .inr (3, [.ref h1, .ref h2, .ref h3, .int 0])), (h1, .inr (2, [.ref h4, .int 0, .int 0])), (h3, .inr (1, [.ref h6, .int 1])), (h6, .inl (cI, 0, .inl (fun _ => 0)))] H := hP
    have hD : va_D A [(h0, .inr (3, [.ref h1, .ref h2, .ref h3, .int 0])), (h1, .inr (2, [.ref h4, .int 0, .int 0])), (h3, .inr (1, [.ref h6, .int 1])), (h6, .inl (cI, 0, .inl (fun _ => 0)))] := hD
    refine W.widen (k := 2) (n := 24578) (Nat.le_of_ble_eq_true rfl) (Nat.le_of_ble_eq_true rfl) ?_
    refine va_put (D := D) (ci := 3) (v := .ref q2813) (ty := (.object "MissedPoints$Memo")) (C := RX3) (T := TX3) (N := 4) hx hb hts hin3 tyX3 tyX3_ok nmX3 hown hK hP hD hS 0 rfl rfl 2 (by decide) (hts (.fieldLink RX3 20 "MissedPoints$Pairs" "numbers" "LMissedPoints$Memo;") (by decide +kernel)) (fun _ h9 => h9) rfl (by decide +kernel) rfl rfl (Nat.le_of_ble_eq_true rfl) dX3_number_25 (fun H locs hP hD hS => ?_)
    have hP : va_P D cls [(h0, .inr (3, [.ref h1, .ref h2, .ref q2813, .int 0])), (h1, .inr (2, [.ref h4, .int 0, .int 0])), (h3, .inr (1, [.ref h6, .int 1])), (h6, .inl (cI, 0, .inl (fun _ => 0)))] H := hP
    have hD : va_D A [(h0, .inr (3, [.ref h1, .ref h2, .ref q2813, .int 0])), (h1, .inr (2, [.ref h4, .int 0, .int 0])), (h3, .inr (1, [.ref h6, .int 1])), (h6, .inl (cI, 0, .inl (fun _ => 0)))] := hD
    refine lv_aload_n hx hb dX3_number_28 rfl (lv_at hl 0 rfl) ?_
    refine lv_iload_n hx hb dX3_number_29 rfl (lv_at hl 1 rfl) ?_
    refine lv_iload_n hx hb dX3_number_30 rfl (lv_at hl 2 rfl) ?_
    refine lv_iconst (v := 0) hx hb dX3_number_31 (by decide) ?_
    have hPc := hP.sub (ws' := [(h0, .inr (3, [.ref h1, .ref h2, .ref q2813, .int 0]))]) [0] rfl
    refine lz_sv (As := [.int 0, .int 6, .int 0]) (rest := []) ⟨hx, hb, hml, hown, hts⟩ (c_X3_numberOf_6 l D cI cS h0 h1 h2 q2813) hKK hPc (ci := 3) rfl rfl (cwV 3 hts gX3_number_X3_numberOf rfl rfl rfl (by decide +kernel) ⟨Nat.le_of_ble_eq_true rfl, Nat.le_of_ble_eq_true rfl⟩) rfl hl.1 rfl (Nat.le_of_ble_eq_true rfl) dX3_number_32 ⟨Nat.le_of_ble_eq_true rfl, Nat.le_of_ble_eq_true rfl⟩ (fun r2815 hw => ?_)
    subst hw
    have hP9 := hP.sub (ws' := []) [] rfl
    have hD9 := hD.sub (ws' := []) [] (by decide) rfl
    refine W.widen (k := 2) (n := 24578) (Nat.le_of_ble_eq_true rfl) (Nat.le_of_ble_eq_true rfl) ?_
    subst hAe
    exact W.iret (v := 0) hx hb hr (fun t ht hW => ⟨⟨_, (), rfl, rfl, by rw [ht]; exact hP9, hD9⟩, hS.F ht⟩) hS.2.2 dX3_number_35
set_option maxHeartbeats 4000000 in
set_option maxRecDepth 100000 in
theorem c_X11_ways_0 (l : Launch) (D : va_G) (cI cS : ClassId) (sz : Nat) (h0 h1 h2 h3 h4 h5 h6 h7 h8 h9 h10 h11 h12 h13 h14 h15 h16 h17 h38 : Nat) (x0 : Int32) : Met l yX11_ways wsX11_ways ({ frames := 3, cells := 2, slots := 24578, locals := 120 }) (PQ D cI cS [(h0, .inr (11, [.ref h1, .ref h2, .ref h3, .ref h4, .ref h5, .ref h6, .ref h7, .int 0, .int 0, .ref h8, .ref h9, .ref h10, .ref h11, .ref h12, .ref h13, .ref h14])), (h1, .inr (2, [.ref h15, .int 0, .int 0])), (h2, .inr (3, [.ref h1, .ref h16, .ref h17, .int 0])), (h17, .inr (1, [.ref h38, .int 1])), (h38, .inl (cI, 0, .inl (fun _ => 0)))] sz [.ref h0, .int x0]) (QI D [(h0, .inr (11, [.ref h1, .ref h2, .ref h3, .ref h4, .ref h5, .ref h6, .ref h7, .int 0, .int 0, .ref h8, .ref h9, .ref h10, .ref h11, .ref h12, .ref h13, .ref h14])), (h1, .inr (2, [.ref h15, .int 0, .int 0])), (h2, .inr (3, [.ref h1, .ref h16, .ref h17, .int 0])), (h17, .inr (1, [.ref h38, .int 1])), (h38, .inl (cI, 0, .inl (fun _ => 0)))] [] sz (fun r => r = if x0 < 0 then ((-2) : Int32) else (if x0 ≤ 6 then (if x0 = 0 then (1 : Int32) else (0 : Int32)) else ((-2) : Int32)))) 2 24578 (va_A [(h0, .inr (11, [.ref h1, .ref h2, .ref h3, .ref h4, .ref h5, .ref h6, .ref h7, .int 0, .int 0, .ref h8, .ref h9, .ref h10, .ref h11, .ref h12, .ref h13, .ref h14])), (h1, .inr (2, [.ref h15, .int 0, .int 0])), (h2, .inr (3, [.ref h1, .ref h16, .ref h17, .int 0])), (h17, .inr (1, [.ref h38, .int 1])), (h38, .inl (cI, 0, .inl (fun _ => 0)))] sz) := by
  refine Met.ofW (cc := cX11_ways) (maxL := 2) (ret := (some .int)) (by decide) rfl ?_
  intro p e s m args below meth c s₁ B hml hv
  obtain ⟨rfl, hsz, hP, hKK, hD0⟩ := hv
  have hx := B.exec
  have hb := B.bytes
  have hr := B.returns
  have hts := atoms_spec (ws := wsX11_ways) B.pre
  have hown : s.vm.findClass RX11 = some m.cls := findClass_of_methodNamed B.named
  have hlocks := B.notSynchronized
  have hK := hKK.1
  have hN := hKK.2
  have hin11 : ∀ w ∈ wsX110, w ∈ wsX11_ways := by decide +kernel
  subst hsz
  have hD := hD0.self (sz := s.heap.size)
  obtain ⟨A, hAe⟩ : ∃ A, A = va_A [(h0, .inr (11, [.ref h1, .ref h2, .ref h3, .ref h4, .ref h5, .ref h6, .ref h7, .int 0, .int 0, .ref h8, .ref h9, .ref h10, .ref h11, .ref h12, .ref h13, .ref h14])), (h1, .inr (2, [.ref h15, .int 0, .int 0])), (h2, .inr (3, [.ref h1, .ref h16, .ref h17, .int 0])), (h17, .inr (1, [.ref h38, .int 1])), (h38, .inl (cI, 0, .inl (fun _ => 0)))] s.heap.size := ⟨_, rfl⟩
  rw [← hAe] at hD
  have hA : ∀ q : Nat, s.heap.size ≤ q → A q := fun q h => by rw [hAe]; exact Or.inr h
  have hS : va_S A s.heap s.heap [] := va_S.rf
  have hl := lv_entry ([.ref h0, .int x0]) (n := 2) (Nat.le_of_ble_eq_true rfl)
  rw [lg_entry_eq]
  generalize (lg_sl ([.ref h0, .int x0]) ++ List.replicate (2 - (lg_sl ([.ref h0, .int x0])).length) Slot.unset).toArray = ls at hl ⊢
  have hl : lv_has ls 2 [(0, .ref h0), (1, .int x0)] := hl
  refine lv_iload_n hx hb dX11_ways_0 rfl (lv_at hl 1 rfl) ?_
  refine lv_if_lt (tgt := 10) hx hb dX11_ways_1 (by decide) (fun c2817 => ?_) (fun c2817 => ?_)
  · refine lv_bipush (v := (-2)) hx hb dX11_ways_10 (by decide) ?_
    have hP9 := hP.sub (ws' := []) [] rfl
    have hD9 := hD.sub (ws' := []) [] (by decide) rfl
    refine W.widen (k := 2) (n := 24578) (Nat.le_of_ble_eq_true rfl) (Nat.le_of_ble_eq_true rfl) ?_
    subst hAe
    exact W.iret (v := (-2)) hx hb hr (fun t ht hW => ⟨⟨_, (), rfl, by rw [if_pos c2817], by rw [ht]; exact hP9, hD9⟩, hS.F ht⟩) hS.2.2 dX11_ways_12
  · refine lv_iload_n hx hb dX11_ways_4 rfl (lv_at hl 1 rfl) ?_
    refine lv_bipush (v := 6) hx hb dX11_ways_5 (by decide) ?_
    refine lv_icmp_le (tgt := 13) hx hb dX11_ways_7 (by decide) (fun c2818 => ?_) (fun c2818 => ?_)
    · by_cases k2819 : x0 = 0
      · subst k2819
        refine lv_aload_n hx hb dX11_ways_13 rfl (lv_at hl 0 rfl) ?_
        refine va_get (D := D) (ci := 11) (v := .ref h2) (C := RX11) (T := TX11) (N := 16) hx hb hts hin11 hown hK hP 0 rfl rfl 1 (by decide) (hts (.fieldLink RX11 21 "MissedPoints" "pairs" "LMissedPoints$Pairs;") (by decide +kernel)) (fun _ h9 => h9) rfl dX11_ways_14 ?_
        refine lv_aload_n hx hb dX11_ways_17 rfl (lv_at hl 0 rfl) ?_
        refine va_get (D := D) (ci := 11) (v := .ref h1) (C := RX11) (T := TX11) (N := 16) hx hb hts hin11 hown hK hP 0 rfl rfl 0 (by decide) (hts (.fieldLink RX11 12 "MissedPoints" "net" "LMissedPoints$Net;") (by decide +kernel)) (fun _ h9 => h9) rfl dX11_ways_18 ?_
        have hPc := hP.sub (ws' := [(h1, .inr (2, [.ref h15, .int 0, .int 0]))]) [1] rfl
        refine lz_sv (As := []) (rest := [.ref h2]) ⟨hx, hb, hml, hown, hts⟩ (c_X2_all_0 l D cI cS h1 h15) hKK hPc (ci := 2) rfl rfl (cwV 0 hts gX11_ways_X2_all rfl rfl rfl (by decide +kernel) ⟨Nat.le_of_ble_eq_true rfl, Nat.le_of_ble_eq_true rfl⟩) rfl hl.1 rfl (Nat.le_of_ble_eq_true rfl) dX11_ways_21 ⟨Nat.le_of_ble_eq_true rfl, Nat.le_of_ble_eq_true rfl⟩ (fun r2820 hw => ?_)
        subst hw
        refine lv_iload_n hx hb dX11_ways_24 rfl (lv_at hl 1 rfl) ?_
        have hPc := hP.sub (ws' := [(h2, .inr (3, [.ref h1, .ref h16, .ref h17, .int 0])), (h1, .inr (2, [.ref h15, .int 0, .int 0])), (h17, .inr (1, [.ref h38, .int 1])), (h38, .inl (cI, 0, .inl (fun _ => 0)))]) [2, 1, 3, 4] rfl
        have hDc := hD.sub (ws' := [(h2, .inr (3, [.ref h1, .ref h16, .ref h17, .int 0])), (h1, .inr (2, [.ref h15, .int 0, .int 0])), (h17, .inr (1, [.ref h38, .int 1])), (h38, .inl (cI, 0, .inl (fun _ => 0)))]) [2, 1, 3, 4] (by decide) rfl
        refine lz_qi (wr := [(h0, .inr (11, [.ref h1, .ref h2, .ref h3, .ref h4, .ref h5, .ref h6, .ref h7, .int 0, .int 0, .ref h8, .ref h9, .ref h10, .ref h11, .ref h12, .ref h13, .ref h14]))]) (w1 := []) (As := [.int 0, .int 0]) (rest := []) ⟨hx, hb, hml, hown, hts⟩ (c_X3_number_0 l D cI cS _ h2 h1 h16 h17 h15 h38) hKK hP hD hS hA [2, 1, 3, 4] [0] (by decide) rfl rfl (by decide) (by decide) hPc hDc (ci := 3) rfl rfl (cwV 2 hts gX11_ways_X3_number rfl rfl rfl (by decide +kernel) ⟨Nat.le_of_ble_eq_true rfl, Nat.le_of_ble_eq_true rfl⟩) rfl hl.1 rfl (Nat.le_of_ble_eq_true rfl) dX11_ways_25 ⟨Nat.le_of_ble_eq_true rfl, Nat.le_of_ble_eq_true rfl⟩ (fun r2821 H locs hw hP hD hS => ?_)
        have hP : va_P D cls [(h0, .inr (11, [.ref h1, .ref h2, .ref h3, .ref h4, .ref h5, .ref h6, .ref h7, .int 0, .int 0, .ref h8, .ref h9, .ref h10, .ref h11, .ref h12, .ref h13, .ref h14]))] H := hP
        have hD : va_D A [(h0, .inr (11, [.ref h1, .ref h2, .ref h3, .ref h4, .ref h5, .ref h6, .ref h7, .int 0, .int 0, .ref h8, .ref h9, .ref h10, .ref h11, .ref h12, .ref h13, .ref h14]))] := hD
        refine W.widen (k := 2) (n := 24578) (Nat.le_of_ble_eq_true rfl) (Nat.le_of_ble_eq_true rfl) ?_
        subst hw
        have hP9 := hP.sub (ws' := []) [] rfl
        have hD9 := hD.sub (ws' := []) [] (by decide) rfl
        refine W.widen (k := 2) (n := 24578) (Nat.le_of_ble_eq_true rfl) (Nat.le_of_ble_eq_true rfl) ?_
        subst hAe
        exact W.iret (v := 1) hx hb hr (fun t ht hW => ⟨⟨_, (), rfl, by rw [if_neg c2817, if_pos c2818, if_pos rfl], by rw [ht]; exact hP9, hD9⟩, hS.F ht⟩) hS.2.2 dX11_ways_28
      · by_cases k2822 : x0 = 1
        · subst k2822
          refine lv_aload_n hx hb dX11_ways_13 rfl (lv_at hl 0 rfl) ?_
          refine va_get (D := D) (ci := 11) (v := .ref h2) (C := RX11) (T := TX11) (N := 16) hx hb hts hin11 hown hK hP 0 rfl rfl 1 (by decide) (hts (.fieldLink RX11 21 "MissedPoints" "pairs" "LMissedPoints$Pairs;") (by decide +kernel)) (fun _ h9 => h9) rfl dX11_ways_14 ?_
          refine lv_aload_n hx hb dX11_ways_17 rfl (lv_at hl 0 rfl) ?_
          refine va_get (D := D) (ci := 11) (v := .ref h1) (C := RX11) (T := TX11) (N := 16) hx hb hts hin11 hown hK hP 0 rfl rfl 0 (by decide) (hts (.fieldLink RX11 12 "MissedPoints" "net" "LMissedPoints$Net;") (by decide +kernel)) (fun _ h9 => h9) rfl dX11_ways_18 ?_
          have hPc := hP.sub (ws' := [(h1, .inr (2, [.ref h15, .int 0, .int 0]))]) [1] rfl
          refine lz_sv (As := []) (rest := [.ref h2]) ⟨hx, hb, hml, hown, hts⟩ (c_X2_all_0 l D cI cS h1 h15) hKK hPc (ci := 2) rfl rfl (cwV 0 hts gX11_ways_X2_all rfl rfl rfl (by decide +kernel) ⟨Nat.le_of_ble_eq_true rfl, Nat.le_of_ble_eq_true rfl⟩) rfl hl.1 rfl (Nat.le_of_ble_eq_true rfl) dX11_ways_21 ⟨Nat.le_of_ble_eq_true rfl, Nat.le_of_ble_eq_true rfl⟩ (fun r2823 hw => ?_)
          subst hw
          refine lv_iload_n hx hb dX11_ways_24 rfl (lv_at hl 1 rfl) ?_
          have hPc := hP.sub (ws' := [(h2, .inr (3, [.ref h1, .ref h16, .ref h17, .int 0])), (h1, .inr (2, [.ref h15, .int 0, .int 0])), (h17, .inr (1, [.ref h38, .int 1])), (h38, .inl (cI, 0, .inl (fun _ => 0)))]) [2, 1, 3, 4] rfl
          have hDc := hD.sub (ws' := [(h2, .inr (3, [.ref h1, .ref h16, .ref h17, .int 0])), (h1, .inr (2, [.ref h15, .int 0, .int 0])), (h17, .inr (1, [.ref h38, .int 1])), (h38, .inl (cI, 0, .inl (fun _ => 0)))]) [2, 1, 3, 4] (by decide) rfl
          refine lz_qi (wr := [(h0, .inr (11, [.ref h1, .ref h2, .ref h3, .ref h4, .ref h5, .ref h6, .ref h7, .int 0, .int 0, .ref h8, .ref h9, .ref h10, .ref h11, .ref h12, .ref h13, .ref h14]))]) (w1 := []) (As := [.int 0, .int 1]) (rest := []) ⟨hx, hb, hml, hown, hts⟩ (c_X3_number_1 l D cI cS _ h2 h1 h16 h17 h15 h38) hKK hP hD hS hA [2, 1, 3, 4] [0] (by decide) rfl rfl (by decide) (by decide) hPc hDc (ci := 3) rfl rfl (cwV 2 hts gX11_ways_X3_number rfl rfl rfl (by decide +kernel) ⟨Nat.le_of_ble_eq_true rfl, Nat.le_of_ble_eq_true rfl⟩) rfl hl.1 rfl (Nat.le_of_ble_eq_true rfl) dX11_ways_25 ⟨Nat.le_of_ble_eq_true rfl, Nat.le_of_ble_eq_true rfl⟩ (fun r2824 H locs hw hP hD hS => ?_)
          have hP : va_P D cls [(h0, .inr (11, [.ref h1, .ref h2, .ref h3, .ref h4, .ref h5, .ref h6, .ref h7, .int 0, .int 0, .ref h8, .ref h9, .ref h10, .ref h11, .ref h12, .ref h13, .ref h14]))] H := hP
          have hD : va_D A [(h0, .inr (11, [.ref h1, .ref h2, .ref h3, .ref h4, .ref h5, .ref h6, .ref h7, .int 0, .int 0, .ref h8, .ref h9, .ref h10, .ref h11, .ref h12, .ref h13, .ref h14]))] := hD
          refine W.widen (k := 2) (n := 24578) (Nat.le_of_ble_eq_true rfl) (Nat.le_of_ble_eq_true rfl) ?_
          subst hw
          have hP9 := hP.sub (ws' := []) [] rfl
          have hD9 := hD.sub (ws' := []) [] (by decide) rfl
          refine W.widen (k := 2) (n := 24578) (Nat.le_of_ble_eq_true rfl) (Nat.le_of_ble_eq_true rfl) ?_
          subst hAe
          exact W.iret (v := 0) hx hb hr (fun t ht hW => ⟨⟨_, (), rfl, by rw [if_neg c2817, if_pos c2818, if_neg k2819], by rw [ht]; exact hP9, hD9⟩, hS.F ht⟩) hS.2.2 dX11_ways_28
        · by_cases k2825 : x0 = 2
          · subst k2825
            refine lv_aload_n hx hb dX11_ways_13 rfl (lv_at hl 0 rfl) ?_
            refine va_get (D := D) (ci := 11) (v := .ref h2) (C := RX11) (T := TX11) (N := 16) hx hb hts hin11 hown hK hP 0 rfl rfl 1 (by decide) (hts (.fieldLink RX11 21 "MissedPoints" "pairs" "LMissedPoints$Pairs;") (by decide +kernel)) (fun _ h9 => h9) rfl dX11_ways_14 ?_
            refine lv_aload_n hx hb dX11_ways_17 rfl (lv_at hl 0 rfl) ?_
            refine va_get (D := D) (ci := 11) (v := .ref h1) (C := RX11) (T := TX11) (N := 16) hx hb hts hin11 hown hK hP 0 rfl rfl 0 (by decide) (hts (.fieldLink RX11 12 "MissedPoints" "net" "LMissedPoints$Net;") (by decide +kernel)) (fun _ h9 => h9) rfl dX11_ways_18 ?_
            have hPc := hP.sub (ws' := [(h1, .inr (2, [.ref h15, .int 0, .int 0]))]) [1] rfl
            refine lz_sv (As := []) (rest := [.ref h2]) ⟨hx, hb, hml, hown, hts⟩ (c_X2_all_0 l D cI cS h1 h15) hKK hPc (ci := 2) rfl rfl (cwV 0 hts gX11_ways_X2_all rfl rfl rfl (by decide +kernel) ⟨Nat.le_of_ble_eq_true rfl, Nat.le_of_ble_eq_true rfl⟩) rfl hl.1 rfl (Nat.le_of_ble_eq_true rfl) dX11_ways_21 ⟨Nat.le_of_ble_eq_true rfl, Nat.le_of_ble_eq_true rfl⟩ (fun r2826 hw => ?_)
            subst hw
            refine lv_iload_n hx hb dX11_ways_24 rfl (lv_at hl 1 rfl) ?_
            have hPc := hP.sub (ws' := [(h2, .inr (3, [.ref h1, .ref h16, .ref h17, .int 0])), (h1, .inr (2, [.ref h15, .int 0, .int 0])), (h17, .inr (1, [.ref h38, .int 1])), (h38, .inl (cI, 0, .inl (fun _ => 0)))]) [2, 1, 3, 4] rfl
            have hDc := hD.sub (ws' := [(h2, .inr (3, [.ref h1, .ref h16, .ref h17, .int 0])), (h1, .inr (2, [.ref h15, .int 0, .int 0])), (h17, .inr (1, [.ref h38, .int 1])), (h38, .inl (cI, 0, .inl (fun _ => 0)))]) [2, 1, 3, 4] (by decide) rfl
            refine lz_qi (wr := [(h0, .inr (11, [.ref h1, .ref h2, .ref h3, .ref h4, .ref h5, .ref h6, .ref h7, .int 0, .int 0, .ref h8, .ref h9, .ref h10, .ref h11, .ref h12, .ref h13, .ref h14]))]) (w1 := []) (As := [.int 0, .int 2]) (rest := []) ⟨hx, hb, hml, hown, hts⟩ (c_X3_number_2 l D cI cS _ h2 h1 h16 h17 h15 h38) hKK hP hD hS hA [2, 1, 3, 4] [0] (by decide) rfl rfl (by decide) (by decide) hPc hDc (ci := 3) rfl rfl (cwV 2 hts gX11_ways_X3_number rfl rfl rfl (by decide +kernel) ⟨Nat.le_of_ble_eq_true rfl, Nat.le_of_ble_eq_true rfl⟩) rfl hl.1 rfl (Nat.le_of_ble_eq_true rfl) dX11_ways_25 ⟨Nat.le_of_ble_eq_true rfl, Nat.le_of_ble_eq_true rfl⟩ (fun r2827 H locs hw hP hD hS => ?_)
            have hP : va_P D cls [(h0, .inr (11, [.ref h1, .ref h2, .ref h3, .ref h4, .ref h5, .ref h6, .ref h7, .int 0, .int 0, .ref h8, .ref h9, .ref h10, .ref h11, .ref h12, .ref h13, .ref h14]))] H := hP
            have hD : va_D A [(h0, .inr (11, [.ref h1, .ref h2, .ref h3, .ref h4, .ref h5, .ref h6, .ref h7, .int 0, .int 0, .ref h8, .ref h9, .ref h10, .ref h11, .ref h12, .ref h13, .ref h14]))] := hD
            refine W.widen (k := 2) (n := 24578) (Nat.le_of_ble_eq_true rfl) (Nat.le_of_ble_eq_true rfl) ?_
            subst hw
            have hP9 := hP.sub (ws' := []) [] rfl
            have hD9 := hD.sub (ws' := []) [] (by decide) rfl
            refine W.widen (k := 2) (n := 24578) (Nat.le_of_ble_eq_true rfl) (Nat.le_of_ble_eq_true rfl) ?_
            subst hAe
            exact W.iret (v := 0) hx hb hr (fun t ht hW => ⟨⟨_, (), rfl, by rw [if_neg c2817, if_pos c2818, if_neg k2819], by rw [ht]; exact hP9, hD9⟩, hS.F ht⟩) hS.2.2 dX11_ways_28
          · by_cases k2828 : x0 = 3
            · subst k2828
              refine lv_aload_n hx hb dX11_ways_13 rfl (lv_at hl 0 rfl) ?_
              refine va_get (D := D) (ci := 11) (v := .ref h2) (C := RX11) (T := TX11) (N := 16) hx hb hts hin11 hown hK hP 0 rfl rfl 1 (by decide) (hts (.fieldLink RX11 21 "MissedPoints" "pairs" "LMissedPoints$Pairs;") (by decide +kernel)) (fun _ h9 => h9) rfl dX11_ways_14 ?_
              refine lv_aload_n hx hb dX11_ways_17 rfl (lv_at hl 0 rfl) ?_
              refine va_get (D := D) (ci := 11) (v := .ref h1) (C := RX11) (T := TX11) (N := 16) hx hb hts hin11 hown hK hP 0 rfl rfl 0 (by decide) (hts (.fieldLink RX11 12 "MissedPoints" "net" "LMissedPoints$Net;") (by decide +kernel)) (fun _ h9 => h9) rfl dX11_ways_18 ?_
              have hPc := hP.sub (ws' := [(h1, .inr (2, [.ref h15, .int 0, .int 0]))]) [1] rfl
              refine lz_sv (As := []) (rest := [.ref h2]) ⟨hx, hb, hml, hown, hts⟩ (c_X2_all_0 l D cI cS h1 h15) hKK hPc (ci := 2) rfl rfl (cwV 0 hts gX11_ways_X2_all rfl rfl rfl (by decide +kernel) ⟨Nat.le_of_ble_eq_true rfl, Nat.le_of_ble_eq_true rfl⟩) rfl hl.1 rfl (Nat.le_of_ble_eq_true rfl) dX11_ways_21 ⟨Nat.le_of_ble_eq_true rfl, Nat.le_of_ble_eq_true rfl⟩ (fun r2829 hw => ?_)
              subst hw
              refine lv_iload_n hx hb dX11_ways_24 rfl (lv_at hl 1 rfl) ?_
              have hPc := hP.sub (ws' := [(h2, .inr (3, [.ref h1, .ref h16, .ref h17, .int 0])), (h1, .inr (2, [.ref h15, .int 0, .int 0])), (h17, .inr (1, [.ref h38, .int 1])), (h38, .inl (cI, 0, .inl (fun _ => 0)))]) [2, 1, 3, 4] rfl
              have hDc := hD.sub (ws' := [(h2, .inr (3, [.ref h1, .ref h16, .ref h17, .int 0])), (h1, .inr (2, [.ref h15, .int 0, .int 0])), (h17, .inr (1, [.ref h38, .int 1])), (h38, .inl (cI, 0, .inl (fun _ => 0)))]) [2, 1, 3, 4] (by decide) rfl
              refine lz_qi (wr := [(h0, .inr (11, [.ref h1, .ref h2, .ref h3, .ref h4, .ref h5, .ref h6, .ref h7, .int 0, .int 0, .ref h8, .ref h9, .ref h10, .ref h11, .ref h12, .ref h13, .ref h14]))]) (w1 := []) (As := [.int 0, .int 3]) (rest := []) ⟨hx, hb, hml, hown, hts⟩ (c_X3_number_3 l D cI cS _ h2 h1 h16 h17 h15 h38) hKK hP hD hS hA [2, 1, 3, 4] [0] (by decide) rfl rfl (by decide) (by decide) hPc hDc (ci := 3) rfl rfl (cwV 2 hts gX11_ways_X3_number rfl rfl rfl (by decide +kernel) ⟨Nat.le_of_ble_eq_true rfl, Nat.le_of_ble_eq_true rfl⟩) rfl hl.1 rfl (Nat.le_of_ble_eq_true rfl) dX11_ways_25 ⟨Nat.le_of_ble_eq_true rfl, Nat.le_of_ble_eq_true rfl⟩ (fun r2830 H locs hw hP hD hS => ?_)
              have hP : va_P D cls [(h0, .inr (11, [.ref h1, .ref h2, .ref h3, .ref h4, .ref h5, .ref h6, .ref h7, .int 0, .int 0, .ref h8, .ref h9, .ref h10, .ref h11, .ref h12, .ref h13, .ref h14]))] H := hP
              have hD : va_D A [(h0, .inr (11, [.ref h1, .ref h2, .ref h3, .ref h4, .ref h5, .ref h6, .ref h7, .int 0, .int 0, .ref h8, .ref h9, .ref h10, .ref h11, .ref h12, .ref h13, .ref h14]))] := hD
              refine W.widen (k := 2) (n := 24578) (Nat.le_of_ble_eq_true rfl) (Nat.le_of_ble_eq_true rfl) ?_
              subst hw
              have hP9 := hP.sub (ws' := []) [] rfl
              have hD9 := hD.sub (ws' := []) [] (by decide) rfl
              refine W.widen (k := 2) (n := 24578) (Nat.le_of_ble_eq_true rfl) (Nat.le_of_ble_eq_true rfl) ?_
              subst hAe
              exact W.iret (v := 0) hx hb hr (fun t ht hW => ⟨⟨_, (), rfl, by rw [if_neg c2817, if_pos c2818, if_neg k2819], by rw [ht]; exact hP9, hD9⟩, hS.F ht⟩) hS.2.2 dX11_ways_28
            · by_cases k2831 : x0 = 4
              · subst k2831
                refine lv_aload_n hx hb dX11_ways_13 rfl (lv_at hl 0 rfl) ?_
                refine va_get (D := D) (ci := 11) (v := .ref h2) (C := RX11) (T := TX11) (N := 16) hx hb hts hin11 hown hK hP 0 rfl rfl 1 (by decide) (hts (.fieldLink RX11 21 "MissedPoints" "pairs" "LMissedPoints$Pairs;") (by decide +kernel)) (fun _ h9 => h9) rfl dX11_ways_14 ?_
                refine lv_aload_n hx hb dX11_ways_17 rfl (lv_at hl 0 rfl) ?_
                refine va_get (D := D) (ci := 11) (v := .ref h1) (C := RX11) (T := TX11) (N := 16) hx hb hts hin11 hown hK hP 0 rfl rfl 0 (by decide) (hts (.fieldLink RX11 12 "MissedPoints" "net" "LMissedPoints$Net;") (by decide +kernel)) (fun _ h9 => h9) rfl dX11_ways_18 ?_
                have hPc := hP.sub (ws' := [(h1, .inr (2, [.ref h15, .int 0, .int 0]))]) [1] rfl
                refine lz_sv (As := []) (rest := [.ref h2]) ⟨hx, hb, hml, hown, hts⟩ (c_X2_all_0 l D cI cS h1 h15) hKK hPc (ci := 2) rfl rfl (cwV 0 hts gX11_ways_X2_all rfl rfl rfl (by decide +kernel) ⟨Nat.le_of_ble_eq_true rfl, Nat.le_of_ble_eq_true rfl⟩) rfl hl.1 rfl (Nat.le_of_ble_eq_true rfl) dX11_ways_21 ⟨Nat.le_of_ble_eq_true rfl, Nat.le_of_ble_eq_true rfl⟩ (fun r2832 hw => ?_)
                subst hw
                refine lv_iload_n hx hb dX11_ways_24 rfl (lv_at hl 1 rfl) ?_
                have hPc := hP.sub (ws' := [(h2, .inr (3, [.ref h1, .ref h16, .ref h17, .int 0])), (h1, .inr (2, [.ref h15, .int 0, .int 0])), (h17, .inr (1, [.ref h38, .int 1])), (h38, .inl (cI, 0, .inl (fun _ => 0)))]) [2, 1, 3, 4] rfl
                have hDc := hD.sub (ws' := [(h2, .inr (3, [.ref h1, .ref h16, .ref h17, .int 0])), (h1, .inr (2, [.ref h15, .int 0, .int 0])), (h17, .inr (1, [.ref h38, .int 1])), (h38, .inl (cI, 0, .inl (fun _ => 0)))]) [2, 1, 3, 4] (by decide) rfl
                refine lz_qi (wr := [(h0, .inr (11, [.ref h1, .ref h2, .ref h3, .ref h4, .ref h5, .ref h6, .ref h7, .int 0, .int 0, .ref h8, .ref h9, .ref h10, .ref h11, .ref h12, .ref h13, .ref h14]))]) (w1 := []) (As := [.int 0, .int 4]) (rest := []) ⟨hx, hb, hml, hown, hts⟩ (c_X3_number_4 l D cI cS _ h2 h1 h16 h17 h15 h38) hKK hP hD hS hA [2, 1, 3, 4] [0] (by decide) rfl rfl (by decide) (by decide) hPc hDc (ci := 3) rfl rfl (cwV 2 hts gX11_ways_X3_number rfl rfl rfl (by decide +kernel) ⟨Nat.le_of_ble_eq_true rfl, Nat.le_of_ble_eq_true rfl⟩) rfl hl.1 rfl (Nat.le_of_ble_eq_true rfl) dX11_ways_25 ⟨Nat.le_of_ble_eq_true rfl, Nat.le_of_ble_eq_true rfl⟩ (fun r2833 H locs hw hP hD hS => ?_)
                have hP : va_P D cls [(h0, .inr (11, [.ref h1, .ref h2, .ref h3, .ref h4, .ref h5, .ref h6, .ref h7, .int 0, .int 0, .ref h8, .ref h9, .ref h10, .ref h11, .ref h12, .ref h13, .ref h14]))] H := hP
                have hD : va_D A [(h0, .inr (11, [.ref h1, .ref h2, .ref h3, .ref h4, .ref h5, .ref h6, .ref h7, .int 0, .int 0, .ref h8, .ref h9, .ref h10, .ref h11, .ref h12, .ref h13, .ref h14]))] := hD
                refine W.widen (k := 2) (n := 24578) (Nat.le_of_ble_eq_true rfl) (Nat.le_of_ble_eq_true rfl) ?_
                subst hw
                have hP9 := hP.sub (ws' := []) [] rfl
                have hD9 := hD.sub (ws' := []) [] (by decide) rfl
                refine W.widen (k := 2) (n := 24578) (Nat.le_of_ble_eq_true rfl) (Nat.le_of_ble_eq_true rfl) ?_
                subst hAe
                exact W.iret (v := 0) hx hb hr (fun t ht hW => ⟨⟨_, (), rfl, by rw [if_neg c2817, if_pos c2818, if_neg k2819], by rw [ht]; exact hP9, hD9⟩, hS.F ht⟩) hS.2.2 dX11_ways_28
              · by_cases k2834 : x0 = 5
                · subst k2834
                  refine lv_aload_n hx hb dX11_ways_13 rfl (lv_at hl 0 rfl) ?_
                  refine va_get (D := D) (ci := 11) (v := .ref h2) (C := RX11) (T := TX11) (N := 16) hx hb hts hin11 hown hK hP 0 rfl rfl 1 (by decide) (hts (.fieldLink RX11 21 "MissedPoints" "pairs" "LMissedPoints$Pairs;") (by decide +kernel)) (fun _ h9 => h9) rfl dX11_ways_14 ?_
                  refine lv_aload_n hx hb dX11_ways_17 rfl (lv_at hl 0 rfl) ?_
                  refine va_get (D := D) (ci := 11) (v := .ref h1) (C := RX11) (T := TX11) (N := 16) hx hb hts hin11 hown hK hP 0 rfl rfl 0 (by decide) (hts (.fieldLink RX11 12 "MissedPoints" "net" "LMissedPoints$Net;") (by decide +kernel)) (fun _ h9 => h9) rfl dX11_ways_18 ?_
                  have hPc := hP.sub (ws' := [(h1, .inr (2, [.ref h15, .int 0, .int 0]))]) [1] rfl
                  refine lz_sv (As := []) (rest := [.ref h2]) ⟨hx, hb, hml, hown, hts⟩ (c_X2_all_0 l D cI cS h1 h15) hKK hPc (ci := 2) rfl rfl (cwV 0 hts gX11_ways_X2_all rfl rfl rfl (by decide +kernel) ⟨Nat.le_of_ble_eq_true rfl, Nat.le_of_ble_eq_true rfl⟩) rfl hl.1 rfl (Nat.le_of_ble_eq_true rfl) dX11_ways_21 ⟨Nat.le_of_ble_eq_true rfl, Nat.le_of_ble_eq_true rfl⟩ (fun r2835 hw => ?_)
                  subst hw
                  refine lv_iload_n hx hb dX11_ways_24 rfl (lv_at hl 1 rfl) ?_
                  have hPc := hP.sub (ws' := [(h2, .inr (3, [.ref h1, .ref h16, .ref h17, .int 0])), (h1, .inr (2, [.ref h15, .int 0, .int 0])), (h17, .inr (1, [.ref h38, .int 1])), (h38, .inl (cI, 0, .inl (fun _ => 0)))]) [2, 1, 3, 4] rfl
                  have hDc := hD.sub (ws' := [(h2, .inr (3, [.ref h1, .ref h16, .ref h17, .int 0])), (h1, .inr (2, [.ref h15, .int 0, .int 0])), (h17, .inr (1, [.ref h38, .int 1])), (h38, .inl (cI, 0, .inl (fun _ => 0)))]) [2, 1, 3, 4] (by decide) rfl
                  refine lz_qi (wr := [(h0, .inr (11, [.ref h1, .ref h2, .ref h3, .ref h4, .ref h5, .ref h6, .ref h7, .int 0, .int 0, .ref h8, .ref h9, .ref h10, .ref h11, .ref h12, .ref h13, .ref h14]))]) (w1 := []) (As := [.int 0, .int 5]) (rest := []) ⟨hx, hb, hml, hown, hts⟩ (c_X3_number_5 l D cI cS _ h2 h1 h16 h17 h15 h38) hKK hP hD hS hA [2, 1, 3, 4] [0] (by decide) rfl rfl (by decide) (by decide) hPc hDc (ci := 3) rfl rfl (cwV 2 hts gX11_ways_X3_number rfl rfl rfl (by decide +kernel) ⟨Nat.le_of_ble_eq_true rfl, Nat.le_of_ble_eq_true rfl⟩) rfl hl.1 rfl (Nat.le_of_ble_eq_true rfl) dX11_ways_25 ⟨Nat.le_of_ble_eq_true rfl, Nat.le_of_ble_eq_true rfl⟩ (fun r2836 H locs hw hP hD hS => ?_)
                  have hP : va_P D cls [(h0, .inr (11, [.ref h1, .ref h2, .ref h3, .ref h4, .ref h5, .ref h6, .ref h7, .int 0, .int 0, .ref h8, .ref h9, .ref h10, .ref h11, .ref h12, .ref h13, .ref h14]))] H := hP
                  have hD : va_D A [(h0, .inr (11, [.ref h1, .ref h2, .ref h3, .ref h4, .ref h5, .ref h6, .ref h7, .int 0, .int 0, .ref h8, .ref h9, .ref h10, .ref h11, .ref h12, .ref h13, .ref h14]))] := hD
                  refine W.widen (k := 2) (n := 24578) (Nat.le_of_ble_eq_true rfl) (Nat.le_of_ble_eq_true rfl) ?_
                  subst hw
                  have hP9 := hP.sub (ws' := []) [] rfl
                  have hD9 := hD.sub (ws' := []) [] (by decide) rfl
                  refine W.widen (k := 2) (n := 24578) (Nat.le_of_ble_eq_true rfl) (Nat.le_of_ble_eq_true rfl) ?_
                  subst hAe
                  exact W.iret (v := 0) hx hb hr (fun t ht hW => ⟨⟨_, (), rfl, by rw [if_neg c2817, if_pos c2818, if_neg k2819], by rw [ht]; exact hP9, hD9⟩, hS.F ht⟩) hS.2.2 dX11_ways_28
                · obtain rfl : x0 = 6 := by have zf1 := mt (lz_lt x0 (0 : Int32)).mpr c2817; have zf2 := (lz_le x0 (6 : Int32)).mp c2818; have zf3 := mt (lz_eq x0 (0 : Int32)).mpr k2819; have zf4 := mt (lz_eq x0 (1 : Int32)).mpr k2822; have zf5 := mt (lz_eq x0 (2 : Int32)).mpr k2825; have zf6 := mt (lz_eq x0 (3 : Int32)).mpr k2828; have zf7 := mt (lz_eq x0 (4 : Int32)).mpr k2831; have zf8 := mt (lz_eq x0 (5 : Int32)).mpr k2834; have zn0 : (0 : Int32).toInt = 0 := (by decide); have zn1 : (1 : Int32).toInt = 1 := (by decide); have zn2 : (2 : Int32).toInt = 2 := (by decide); have zn3 : (3 : Int32).toInt = 3 := (by decide); have zn4 : (4 : Int32).toInt = 4 := (by decide); have zn5 : (5 : Int32).toInt = 5 := (by decide); have zn6 : (6 : Int32).toInt = 6 := (by decide); rw [lz_eq]; omega
                  refine lv_aload_n hx hb dX11_ways_13 rfl (lv_at hl 0 rfl) ?_
                  refine va_get (D := D) (ci := 11) (v := .ref h2) (C := RX11) (T := TX11) (N := 16) hx hb hts hin11 hown hK hP 0 rfl rfl 1 (by decide) (hts (.fieldLink RX11 21 "MissedPoints" "pairs" "LMissedPoints$Pairs;") (by decide +kernel)) (fun _ h9 => h9) rfl dX11_ways_14 ?_
                  refine lv_aload_n hx hb dX11_ways_17 rfl (lv_at hl 0 rfl) ?_
                  refine va_get (D := D) (ci := 11) (v := .ref h1) (C := RX11) (T := TX11) (N := 16) hx hb hts hin11 hown hK hP 0 rfl rfl 0 (by decide) (hts (.fieldLink RX11 12 "MissedPoints" "net" "LMissedPoints$Net;") (by decide +kernel)) (fun _ h9 => h9) rfl dX11_ways_18 ?_
                  have hPc := hP.sub (ws' := [(h1, .inr (2, [.ref h15, .int 0, .int 0]))]) [1] rfl
                  refine lz_sv (As := []) (rest := [.ref h2]) ⟨hx, hb, hml, hown, hts⟩ (c_X2_all_0 l D cI cS h1 h15) hKK hPc (ci := 2) rfl rfl (cwV 0 hts gX11_ways_X2_all rfl rfl rfl (by decide +kernel) ⟨Nat.le_of_ble_eq_true rfl, Nat.le_of_ble_eq_true rfl⟩) rfl hl.1 rfl (Nat.le_of_ble_eq_true rfl) dX11_ways_21 ⟨Nat.le_of_ble_eq_true rfl, Nat.le_of_ble_eq_true rfl⟩ (fun r2837 hw => ?_)
                  subst hw
                  refine lv_iload_n hx hb dX11_ways_24 rfl (lv_at hl 1 rfl) ?_
                  have hPc := hP.sub (ws' := [(h2, .inr (3, [.ref h1, .ref h16, .ref h17, .int 0])), (h1, .inr (2, [.ref h15, .int 0, .int 0])), (h17, .inr (1, [.ref h38, .int 1])), (h38, .inl (cI, 0, .inl (fun _ => 0)))]) [2, 1, 3, 4] rfl
                  have hDc := hD.sub (ws' := [(h2, .inr (3, [.ref h1, .ref h16, .ref h17, .int 0])), (h1, .inr (2, [.ref h15, .int 0, .int 0])), (h17, .inr (1, [.ref h38, .int 1])), (h38, .inl (cI, 0, .inl (fun _ => 0)))]) [2, 1, 3, 4] (by decide) rfl
                  refine lz_qi (wr := [(h0, .inr (11, [.ref h1, .ref h2, .ref h3, .ref h4, .ref h5, .ref h6, .ref h7, .int 0, .int 0, .ref h8, .ref h9, .ref h10, .ref h11, .ref h12, .ref h13, .ref h14]))]) (w1 := []) (As := [.int 0, .int 6]) (rest := []) ⟨hx, hb, hml, hown, hts⟩ (c_X3_number_6 l D cI cS _ h2 h1 h16 h17 h15 h38) hKK hP hD hS hA [2, 1, 3, 4] [0] (by decide) rfl rfl (by decide) (by decide) hPc hDc (ci := 3) rfl rfl (cwV 2 hts gX11_ways_X3_number rfl rfl rfl (by decide +kernel) ⟨Nat.le_of_ble_eq_true rfl, Nat.le_of_ble_eq_true rfl⟩) rfl hl.1 rfl (Nat.le_of_ble_eq_true rfl) dX11_ways_25 ⟨Nat.le_of_ble_eq_true rfl, Nat.le_of_ble_eq_true rfl⟩ (fun r2838 H locs hw hP hD hS => ?_)
                  have hP : va_P D cls [(h0, .inr (11, [.ref h1, .ref h2, .ref h3, .ref h4, .ref h5, .ref h6, .ref h7, .int 0, .int 0, .ref h8, .ref h9, .ref h10, .ref h11, .ref h12, .ref h13, .ref h14]))] H := hP
                  have hD : va_D A [(h0, .inr (11, [.ref h1, .ref h2, .ref h3, .ref h4, .ref h5, .ref h6, .ref h7, .int 0, .int 0, .ref h8, .ref h9, .ref h10, .ref h11, .ref h12, .ref h13, .ref h14]))] := hD
                  refine W.widen (k := 2) (n := 24578) (Nat.le_of_ble_eq_true rfl) (Nat.le_of_ble_eq_true rfl) ?_
                  subst hw
                  have hP9 := hP.sub (ws' := []) [] rfl
                  have hD9 := hD.sub (ws' := []) [] (by decide) rfl
                  refine W.widen (k := 2) (n := 24578) (Nat.le_of_ble_eq_true rfl) (Nat.le_of_ble_eq_true rfl) ?_
                  subst hAe
                  exact W.iret (v := 0) hx hb hr (fun t ht hW => ⟨⟨_, (), rfl, by rw [if_neg c2817, if_pos c2818, if_neg k2819], by rw [ht]; exact hP9, hD9⟩, hS.F ht⟩) hS.2.2 dX11_ways_28
    · refine lv_bipush (v := (-2)) hx hb dX11_ways_10 (by decide) ?_
      have hP9 := hP.sub (ws' := []) [] rfl
      have hD9 := hD.sub (ws' := []) [] (by decide) rfl
      refine W.widen (k := 2) (n := 24578) (Nat.le_of_ble_eq_true rfl) (Nat.le_of_ble_eq_true rfl) ?_
      subst hAe
      exact W.iret (v := (-2)) hx hb hr (fun t ht hW => ⟨⟨_, (), rfl, by rw [if_neg c2817, if_neg c2818], by rw [ht]; exact hP9, hD9⟩, hS.F ht⟩) hS.2.2 dX11_ways_12
set_option maxHeartbeats 4000000 in
set_option maxRecDepth 100000 in
theorem c_X11_alone_0 (l : Launch) (D : va_G) (cI cS : ClassId) (h0 h1 h2 h3 h4 h5 h6 h7 h8 h9 h10 h11 h12 h13 h14 h15 : Nat) (x0 x1 : Int32) : Met l yX11_alone wsX11_alone ({ frames := 1, cells := 0, slots := 0, locals := 40 }) (PS D cI cS [(h0, .inr (11, [.ref h1, .ref h2, .ref h3, .ref h4, .ref h5, .ref h6, .ref h7, .int 0, .int 0, .ref h8, .ref h9, .ref h10, .ref h11, .ref h12, .ref h13, .ref h14])), (h1, .inr (2, [.ref h15, .int 0, .int 0]))] [.ref h0, .int x0, .int x1]) (vp_Si (fun r => r = ((-2) : Int32))) 0 0 (fun _ => False) := by
  refine Met.ofW (cc := cX11_alone) (maxL := 7) (ret := (some .int)) (by decide) rfl ?_
  intro p e s m args below meth c s₁ B hml hv
  obtain ⟨rfl, hP, hKK⟩ := hv
  have hx := B.exec
  have hb := B.bytes
  have hr := B.returns
  have hts := atoms_spec (ws := wsX11_alone) B.pre
  have hown : s.vm.findClass RX11 = some m.cls := findClass_of_methodNamed B.named
  have hlocks := B.notSynchronized
  have hK := hKK.1
  have hN := hKK.2
  have hin11 : ∀ w ∈ wsX110, w ∈ wsX11_alone := by decide +kernel
  have hl := lv_entry ([.ref h0, .int x0, .int x1]) (n := 7) (Nat.le_of_ble_eq_true rfl)
  rw [lg_entry_eq]
  generalize (lg_sl ([.ref h0, .int x0, .int x1]) ++ List.replicate (7 - (lg_sl ([.ref h0, .int x0, .int x1])).length) Slot.unset).toArray = ls at hl ⊢
  have hl : lv_has ls 7 [(0, .ref h0), (1, .int x0), (2, .int x1)] := hl
  refine lv_aload_n hx hb dX11_alone_0 rfl (lv_at hl 0 rfl) ?_
  refine va_get (D := D) (ci := 11) (v := .ref h1) (C := RX11) (T := TX11) (N := 16) hx hb hts hin11 hown hK hP 0 rfl rfl 0 (by decide) (hts (.fieldLink RX11 12 "MissedPoints" "net" "LMissedPoints$Net;") (by decide +kernel)) (fun _ h9 => h9) rfl dX11_alone_1 ?_
  refine lv_iload_n hx hb dX11_alone_4 rfl (lv_at hl 1 rfl) ?_
  have hPc := hP.sub (ws' := [(h1, .inr (2, [.ref h15, .int 0, .int 0]))]) [1] rfl
  refine lz_sv (As := [.int x0]) (rest := []) ⟨hx, hb, hml, hown, hts⟩ (c_X2_hasPoint_0 l D cI cS h1 h15 x0) hKK hPc (ci := 2) rfl rfl (cwV 1 hts gX11_alone_X2_hasPoint rfl rfl rfl (by decide +kernel) ⟨Nat.le_of_ble_eq_true rfl, Nat.le_of_ble_eq_true rfl⟩) rfl hl.1 rfl (Nat.le_of_ble_eq_true rfl) dX11_alone_5 ⟨Nat.le_of_ble_eq_true rfl, Nat.le_of_ble_eq_true rfl⟩ (fun r2841 hw => ?_)
  subst hw
  refine lv_if_eq (tgt := 20) hx hb dX11_alone_8 (by decide) (fun c2842 => ?_) (fun c2842 => ?_)
  · refine lv_bipush (v := (-2)) hx hb dX11_alone_20 (by decide) ?_
    exact W.iret (v := (-2)) hx hb hr (fun t ht hW => ⟨_, rfl, rfl, ht⟩) (fun q hq => absurd hq List.not_mem_nil) dX11_alone_22
  · exact absurd c2842 (by decide)
set_option maxHeartbeats 4000000 in
set_option maxRecDepth 100000 in
theorem c_X11_mark_0 (l : Launch) (D : va_G) (cI cS : ClassId) (h0 h1 h2 h3 h4 h5 h6 h7 h8 h9 h10 h11 h12 h13 h14 h15 : Nat) (x0 : Int32) : Met l yX11_mark wsX11_mark ({ frames := 1, cells := 0, slots := 0, locals := 40 }) (PS D cI cS [(h0, .inr (11, [.ref h1, .ref h2, .ref h3, .ref h4, .ref h5, .ref h6, .ref h7, .int 0, .int 0, .ref h8, .ref h9, .ref h10, .ref h11, .ref h12, .ref h13, .ref h14])), (h1, .inr (2, [.ref h15, .int 0, .int 0]))] [.ref h0, .int x0]) (vp_Si (fun r => r = ((-2) : Int32))) 0 0 (fun _ => False) := by
  refine Met.ofW (cc := cX11_mark) (maxL := 2) (ret := (some .int)) (by decide) rfl ?_
  intro p e s m args below meth c s₁ B hml hv
  obtain ⟨rfl, hP, hKK⟩ := hv
  have hx := B.exec
  have hb := B.bytes
  have hr := B.returns
  have hts := atoms_spec (ws := wsX11_mark) B.pre
  have hown : s.vm.findClass RX11 = some m.cls := findClass_of_methodNamed B.named
  have hlocks := B.notSynchronized
  have hK := hKK.1
  have hN := hKK.2
  have hin11 : ∀ w ∈ wsX110, w ∈ wsX11_mark := by decide +kernel
  have hl := lv_entry ([.ref h0, .int x0]) (n := 2) (Nat.le_of_ble_eq_true rfl)
  rw [lg_entry_eq]
  generalize (lg_sl ([.ref h0, .int x0]) ++ List.replicate (2 - (lg_sl ([.ref h0, .int x0])).length) Slot.unset).toArray = ls at hl ⊢
  have hl : lv_has ls 2 [(0, .ref h0), (1, .int x0)] := hl
  refine lv_aload_n hx hb dX11_mark_0 rfl (lv_at hl 0 rfl) ?_
  refine va_get (D := D) (ci := 11) (v := .ref h1) (C := RX11) (T := TX11) (N := 16) hx hb hts hin11 hown hK hP 0 rfl rfl 0 (by decide) (hts (.fieldLink RX11 12 "MissedPoints" "net" "LMissedPoints$Net;") (by decide +kernel)) (fun _ h9 => h9) rfl dX11_mark_1 ?_
  refine lv_iload_n hx hb dX11_mark_4 rfl (lv_at hl 1 rfl) ?_
  have hPc := hP.sub (ws' := [(h1, .inr (2, [.ref h15, .int 0, .int 0]))]) [1] rfl
  refine lz_sv (As := [.int x0]) (rest := []) ⟨hx, hb, hml, hown, hts⟩ (c_X2_hasPoint_0 l D cI cS h1 h15 x0) hKK hPc (ci := 2) rfl rfl (cwV 1 hts gX11_mark_X2_hasPoint rfl rfl rfl (by decide +kernel) ⟨Nat.le_of_ble_eq_true rfl, Nat.le_of_ble_eq_true rfl⟩) rfl hl.1 rfl (Nat.le_of_ble_eq_true rfl) dX11_mark_5 ⟨Nat.le_of_ble_eq_true rfl, Nat.le_of_ble_eq_true rfl⟩ (fun r2845 hw => ?_)
  subst hw
  refine lv_if_eq (tgt := 22) hx hb dX11_mark_8 (by decide) (fun c2846 => ?_) (fun c2846 => ?_)
  · refine lv_bipush (v := (-2)) hx hb dX11_mark_22 (by decide) ?_
    exact W.iret (v := (-2)) hx hb hr (fun t ht hW => ⟨_, rfl, rfl, ht⟩) (fun q hq => absurd hq List.not_mem_nil) dX11_mark_24
  · exact absurd c2846 (by decide)
set_option maxHeartbeats 4000000 in
set_option maxRecDepth 100000 in
theorem c_X3_loosePoints_0 (l : Launch) (D : va_G) (cI cS : ClassId) (h0 h1 h2 h3 h4 : Nat) : Met l yX3_loosePoints wsX3_loosePoints ({ frames := 3, cells := 0, slots := 0, locals := 120 }) (PS D cI cS [(h0, .inr (3, [.ref h1, .ref h2, .ref h3, .int 0])), (h1, .inr (2, [.ref h4, .int 0, .int 0]))] [.ref h0]) (vp_Si (fun r => r = (0 : Int32))) 0 0 (fun _ => False) := by
  refine Met.ofW (cc := cX3_loosePoints) (maxL := 4) (ret := (some .int)) (by decide) rfl ?_
  intro p e s m args below meth c s₁ B hml hv
  obtain ⟨rfl, hP, hKK⟩ := hv
  have hx := B.exec
  have hb := B.bytes
  have hr := B.returns
  have hts := atoms_spec (ws := wsX3_loosePoints) B.pre
  have hown : s.vm.findClass RX3 = some m.cls := findClass_of_methodNamed B.named
  have hlocks := B.notSynchronized
  have hK := hKK.1
  have hN := hKK.2
  have hin2 : ∀ w ∈ wsX20, w ∈ wsX3_loosePoints := by decide +kernel
  have hin3 : ∀ w ∈ wsX30, w ∈ wsX3_loosePoints := by decide +kernel
  have hl := lv_entry ([.ref h0]) (n := 4) (Nat.le_of_ble_eq_true rfl)
  rw [lg_entry_eq]
  generalize (lg_sl ([.ref h0]) ++ List.replicate (4 - (lg_sl ([.ref h0])).length) Slot.unset).toArray = ls at hl ⊢
  have hl : lv_has ls 4 [(0, .ref h0)] := hl
  refine lv_aload_n hx hb dX3_loosePoints_0 rfl (lv_at hl 0 rfl) ?_
  refine lv_aload_n hx hb dX3_loosePoints_1 rfl (lv_at hl 0 rfl) ?_
  refine va_get (D := D) (ci := 3) (v := .ref h1) (C := RX3) (T := TX3) (N := 4) hx hb hts hin3 hown hK hP 0 rfl rfl 0 (by decide) (hts (.fieldLink RX3 23 "MissedPoints$Pairs" "net" "LMissedPoints$Net;") (by decide +kernel)) (fun _ h9 => h9) rfl dX3_loosePoints_2 ?_
  have hPc := hP.sub (ws' := [(h1, .inr (2, [.ref h4, .int 0, .int 0]))]) [1] rfl
  refine lz_sv (As := []) (rest := [.ref h0]) ⟨hx, hb, hml, hown, hts⟩ (c_X2_all_0 l D cI cS h1 h4) hKK hPc (ci := 2) rfl rfl (cwV 0 hts gX3_loosePoints_X2_all rfl rfl rfl (by decide +kernel) ⟨Nat.le_of_ble_eq_true rfl, Nat.le_of_ble_eq_true rfl⟩) rfl hl.1 rfl (Nat.le_of_ble_eq_true rfl) dX3_loosePoints_5 ⟨Nat.le_of_ble_eq_true rfl, Nat.le_of_ble_eq_true rfl⟩ (fun r2852 hw => ?_)
  subst hw
  have hPc := hP.sub (ws' := [(h0, .inr (3, [.ref h1, .ref h2, .ref h3, .int 0])), (h1, .inr (2, [.ref h4, .int 0, .int 0]))]) [0, 1] rfl
  refine lz_sv (As := [.int 0]) (rest := []) ⟨hx, hb, hml, hown, hts⟩ (c_X3_best_0 l D cI cS h0 h1 h2 h3 h4) hKK hPc (ci := 3) rfl rfl (cwV 1 hts gX3_loosePoints_X3_best rfl rfl rfl (by decide +kernel) ⟨Nat.le_of_ble_eq_true rfl, Nat.le_of_ble_eq_true rfl⟩) rfl hl.1 rfl (Nat.le_of_ble_eq_true rfl) dX3_loosePoints_8 ⟨Nat.le_of_ble_eq_true rfl, Nat.le_of_ble_eq_true rfl⟩ (fun r2853 hw => ?_)
  subst hw
  refine lv_istore_n (lv' := [(1, .int 0), (0, .ref h0)]) hx hb dX3_loosePoints_11 rfl hl (by decide) rfl (fun ls hl => ?_)
  refine lv_iconst (v := 0) hx hb dX3_loosePoints_12 (by decide) ?_
  refine lv_istore_n (lv' := [(2, .int 0), (1, .int 0), (0, .ref h0)]) hx hb dX3_loosePoints_13 rfl hl (by decide) rfl (fun ls hl => ?_)
  refine lv_iconst (v := 0) hx hb dX3_loosePoints_14 (by decide) ?_
  refine lv_istore_n (lv' := [(3, .int 0), (2, .int 0), (1, .int 0), (0, .ref h0)]) hx hb dX3_loosePoints_15 rfl hl (by decide) rfl (fun ls hl => ?_)
  refine lv_iload_n hx hb dX3_loosePoints_16 rfl (lv_at hl 0 rfl) ?_
  refine lv_aload_n hx hb dX3_loosePoints_17 rfl (lv_at hl 3 rfl) ?_
  refine va_get (D := D) (ci := 3) (v := .ref h1) (C := RX3) (T := TX3) (N := 4) hx hb hts hin3 hown hK hP 0 rfl rfl 0 (by decide) (hts (.fieldLink RX3 23 "MissedPoints$Pairs" "net" "LMissedPoints$Net;") (by decide +kernel)) (fun _ h9 => h9) rfl dX3_loosePoints_18 ?_
  refine va_getN (D := D) (ci := 2) (v := .int 0) (C := RX2) (T := TX2) (N := 3) hx hb hts hin2 hown hK hP 1 rfl rfl 1 (by decide) (va_Nw.use rfl hN.2.2.2.2.2.2.2.2.2.2.2.2.1) (fun _ h9 => h9) rfl dX3_loosePoints_21 ?_
  refine lv_icmp_ge (tgt := 60) hx hb dX3_loosePoints_24 (by decide) (fun c2854 => ?_) (fun c2854 => ?_)
  · refine lv_iload_n hx hb dX3_loosePoints_60 rfl (lv_at hl 1 rfl) ?_
    exact W.iret (v := 0) hx hb hr (fun t ht hW => ⟨_, rfl, rfl, ht⟩) (fun q hq => absurd hq List.not_mem_nil) dX3_loosePoints_61
  · exact absurd c2854 (by decide)
set_option maxHeartbeats 4000000 in
set_option maxRecDepth 100000 in
theorem c_X2_nearAny_0 (l : Launch) (D : va_G) (cI cS : ClassId) (h0 h1 : Nat) : Met l yX2_nearAny wsX2_nearAny ({ frames := 0, cells := 0, slots := 0, locals := 0 }) (PS D cI cS [(h0, .inr (2, [.ref h1, .int 0, .int 0]))] [.ref h0, .int 0]) (vp_Si (fun r => r = (0 : Int32))) 0 0 (fun _ => False) := by
  refine Met.ofW (cc := cX2_nearAny) (maxL := 4) (ret := (some .int)) (by decide) rfl ?_
  intro p e s m args below meth c s₁ B hml hv
  obtain ⟨rfl, hP, hKK⟩ := hv
  have hx := B.exec
  have hb := B.bytes
  have hr := B.returns
  have hts := atoms_spec (ws := wsX2_nearAny) B.pre
  have hown : s.vm.findClass RX2 = some m.cls := findClass_of_methodNamed B.named
  have hlocks := B.notSynchronized
  have hK := hKK.1
  have hN := hKK.2
  have hin2 : ∀ w ∈ wsX20, w ∈ wsX2_nearAny := by decide +kernel
  have hl := lv_entry ([.ref h0, .int 0]) (n := 4) (Nat.le_of_ble_eq_true rfl)
  rw [lg_entry_eq]
  generalize (lg_sl ([.ref h0, .int 0]) ++ List.replicate (4 - (lg_sl ([.ref h0, .int 0])).length) Slot.unset).toArray = ls at hl ⊢
  have hl : lv_has ls 4 [(0, .ref h0), (1, .int 0)] := hl
  refine lv_iconst (v := 0) hx hb dX2_nearAny_0 (by decide) ?_
  refine lv_istore_n (lv' := [(2, .int 0), (0, .ref h0), (1, .int 0)]) hx hb dX2_nearAny_1 rfl hl (by decide) rfl (fun ls hl => ?_)
  refine lv_iconst (v := 0) hx hb dX2_nearAny_2 (by decide) ?_
  refine lv_istore_n (lv' := [(3, .int 0), (2, .int 0), (0, .ref h0), (1, .int 0)]) hx hb dX2_nearAny_3 rfl hl (by decide) rfl (fun ls hl => ?_)
  refine lv_iload_n hx hb dX2_nearAny_4 rfl (lv_at hl 0 rfl) ?_
  refine lv_aload_n hx hb dX2_nearAny_5 rfl (lv_at hl 2 rfl) ?_
  refine va_get (D := D) (ci := 2) (v := .int 0) (C := RX2) (T := TX2) (N := 3) hx hb hts hin2 hown hK hP 0 rfl rfl 1 (by decide) (hts (.fieldLink RX2 15 "MissedPoints$Net" "size" "I") (by decide +kernel)) (fun _ h9 => h9) rfl dX2_nearAny_6 ?_
  refine lv_icmp_ge (tgt := 35) hx hb dX2_nearAny_9 (by decide) (fun c2857 => ?_) (fun c2857 => ?_)
  · refine lv_iload_n hx hb dX2_nearAny_35 rfl (lv_at hl 1 rfl) ?_
    exact W.iret (v := 0) hx hb hr (fun t ht hW => ⟨_, rfl, rfl, ht⟩) (fun q hq => absurd hq List.not_mem_nil) dX2_nearAny_36
  · exact absurd c2857 (by decide)
set_option maxHeartbeats 4000000 in
set_option maxRecDepth 100000 in
theorem c_X4_allOf_0 (l : Launch) (D : va_G) (cI cS : ClassId) (h0 h1 h2 h3 h4 h5 : Nat) (x0 : Int32) : Met l yX4_allOf wsX4_allOf ({ frames := 4, cells := 0, slots := 0, locals := 160 }) (PS D cI cS [(h0, .inr (4, [.ref h1, .ref h2])), (h1, .inr (2, [.ref h3, .int 0, .int 0])), (h2, .inr (3, [.ref h1, .ref h4, .ref h5, .int 0]))] [.ref h0, .int x0]) (vp_Si (fun r => r = (0 : Int32))) 0 0 (fun _ => False) := by
  refine Met.ofW (cc := cX4_allOf) (maxL := 4) (ret := (some .int)) (by decide) rfl ?_
  intro p e s m args below meth c s₁ B hml hv
  obtain ⟨rfl, hP, hKK⟩ := hv
  have hx := B.exec
  have hb := B.bytes
  have hr := B.returns
  have hts := atoms_spec (ws := wsX4_allOf) B.pre
  have hown : s.vm.findClass RX4 = some m.cls := findClass_of_methodNamed B.named
  have hlocks := B.notSynchronized
  have hK := hKK.1
  have hN := hKK.2
  have hin4 : ∀ w ∈ wsX40, w ∈ wsX4_allOf := by decide +kernel
  have hl := lv_entry ([.ref h0, .int x0]) (n := 4) (Nat.le_of_ble_eq_true rfl)
  rw [lg_entry_eq]
  generalize (lg_sl ([.ref h0, .int x0]) ++ List.replicate (4 - (lg_sl ([.ref h0, .int x0])).length) Slot.unset).toArray = ls at hl ⊢
  have hl : lv_has ls 4 [(0, .ref h0), (1, .int x0)] := hl
  refine lv_aload_n hx hb dX4_allOf_0 rfl (lv_at hl 0 rfl) ?_
  refine va_get (D := D) (ci := 4) (v := .ref h2) (C := RX4) (T := TX4) (N := 2) hx hb hts hin4 hown hK hP 0 rfl rfl 1 (by decide) (hts (.fieldLink RX4 15 "MissedPoints$Parting" "pairs" "LMissedPoints$Pairs;") (by decide +kernel)) (fun _ h9 => h9) rfl dX4_allOf_1 ?_
  have hPc := hP.sub (ws' := [(h2, .inr (3, [.ref h1, .ref h4, .ref h5, .int 0])), (h1, .inr (2, [.ref h3, .int 0, .int 0]))]) [2, 1] rfl
  refine lz_sv (As := []) (rest := []) ⟨hx, hb, hml, hown, hts⟩ (c_X3_loosePoints_0 l D cI cS h2 h1 h4 h5 h3) hKK hPc (ci := 3) rfl rfl (cwV 0 hts gX4_allOf_X3_loosePoints rfl rfl rfl (by decide +kernel) ⟨Nat.le_of_ble_eq_true rfl, Nat.le_of_ble_eq_true rfl⟩) rfl hl.1 rfl (Nat.le_of_ble_eq_true rfl) dX4_allOf_4 ⟨Nat.le_of_ble_eq_true rfl, Nat.le_of_ble_eq_true rfl⟩ (fun r2862 hw => ?_)
  subst hw
  refine lv_istore_n (lv' := [(2, .int 0), (0, .ref h0), (1, .int x0)]) hx hb dX4_allOf_7 rfl hl (by decide) rfl (fun ls hl => ?_)
  refine lv_aload_n hx hb dX4_allOf_8 rfl (lv_at hl 1 rfl) ?_
  refine va_get (D := D) (ci := 4) (v := .ref h1) (C := RX4) (T := TX4) (N := 2) hx hb hts hin4 hown hK hP 0 rfl rfl 0 (by decide) (hts (.fieldLink RX4 9 "MissedPoints$Parting" "net" "LMissedPoints$Net;") (by decide +kernel)) (fun _ h9 => h9) rfl dX4_allOf_9 ?_
  refine lv_iload_n hx hb dX4_allOf_12 rfl (lv_at hl 0 rfl) ?_
  have hPc := hP.sub (ws' := [(h1, .inr (2, [.ref h3, .int 0, .int 0]))]) [1] rfl
  refine lz_sv (As := [.int 0]) (rest := []) ⟨hx, hb, hml, hown, hts⟩ (c_X2_nearAny_0 l D cI cS h1 h3) hKK hPc (ci := 2) rfl rfl (cwV 1 hts gX4_allOf_X2_nearAny rfl rfl rfl (by decide +kernel) ⟨Nat.le_of_ble_eq_true rfl, Nat.le_of_ble_eq_true rfl⟩) rfl hl.1 rfl (Nat.le_of_ble_eq_true rfl) dX4_allOf_13 ⟨Nat.le_of_ble_eq_true rfl, Nat.le_of_ble_eq_true rfl⟩ (fun r2863 hw => ?_)
  subst hw
  refine lv_iload_n hx hb dX4_allOf_16 rfl (lv_at hl 0 rfl) ?_
  refine lv_iconst (v := (-1)) hx hb dX4_allOf_17 (by decide) ?_
  refine lv_ixor hx hb dX4_allOf_18 ?_
  refine lz_top (y := (-1)) (by decide) ?_
  refine lv_iand hx hb dX4_allOf_19 ?_
  refine lz_top (y := 0) (by decide) ?_
  refine lv_istore_n (lv' := [(3, .int 0), (2, .int 0), (0, .ref h0), (1, .int x0)]) hx hb dX4_allOf_20 rfl hl (by decide) rfl (fun ls hl => ?_)
  refine lv_iload_n hx hb dX4_allOf_21 rfl (lv_at hl 3 rfl) ?_
  refine lv_if_ne (tgt := 27) hx hb dX4_allOf_22 (by decide) (fun c2864 => ?_) (fun c2864 => ?_)
  · refine lv_iload_n hx hb dX4_allOf_27 rfl (lv_at hl 3 rfl) ?_
    refine lv_iconst (v := 1) hx hb dX4_allOf_28 (by decide) ?_
    refine lv_icmp_ne (tgt := 36) hx hb dX4_allOf_29 (by decide) (fun c2865 => ?_) (fun c2865 => ?_)
    · refine lv_aload_n hx hb dX4_allOf_36 rfl (lv_at hl 2 rfl) ?_
      refine va_get (D := D) (ci := 4) (v := .ref h1) (C := RX4) (T := TX4) (N := 2) hx hb hts hin4 hown hK hP 0 rfl rfl 0 (by decide) (hts (.fieldLink RX4 9 "MissedPoints$Parting" "net" "LMissedPoints$Net;") (by decide +kernel)) (fun _ h9 => h9) rfl dX4_allOf_37 ?_
      have hPc := hP.sub (ws' := [(h1, .inr (2, [.ref h3, .int 0, .int 0]))]) [1] rfl
      refine lz_sv (As := []) (rest := []) ⟨hx, hb, hml, hown, hts⟩ (c_X2_all_0 l D cI cS h1 h3) hKK hPc (ci := 2) rfl rfl (cwV 0 hts gX4_allOf_X2_all rfl rfl rfl (by decide +kernel) ⟨Nat.le_of_ble_eq_true rfl, Nat.le_of_ble_eq_true rfl⟩) rfl hl.1 rfl (Nat.le_of_ble_eq_true rfl) dX4_allOf_40 ⟨Nat.le_of_ble_eq_true rfl, Nat.le_of_ble_eq_true rfl⟩ (fun r2866 hw => ?_)
      subst hw
      refine lv_iload_n hx hb dX4_allOf_43 rfl (lv_at hl 1 rfl) ?_
      refine lv_iload_n hx hb dX4_allOf_44 rfl (lv_at hl 0 rfl) ?_
      refine lv_ior hx hb dX4_allOf_45 ?_
      refine lz_top (y := 0) (by decide) ?_
      refine lv_iconst (v := (-1)) hx hb dX4_allOf_46 (by decide) ?_
      refine lv_ixor hx hb dX4_allOf_47 ?_
      refine lz_top (y := (-1)) (by decide) ?_
      refine lv_iand hx hb dX4_allOf_48 ?_
      refine lz_top (y := 0) (by decide) ?_
      exact W.iret (v := 0) hx hb hr (fun t ht hW => ⟨_, rfl, rfl, ht⟩) (fun q hq => absurd hq List.not_mem_nil) dX4_allOf_49
    · subst c2865
      refine lv_iload_n hx hb dX4_allOf_32 rfl (lv_at hl 0 rfl) ?_
      refine lv_goto (tgt := 49) hx hb dX4_allOf_33 (by decide) ?_
      exact W.iret (v := 0) hx hb hr (fun t ht hW => ⟨_, rfl, rfl, ht⟩) (fun q hq => absurd hq List.not_mem_nil) dX4_allOf_49
  · subst c2864
    refine lv_iload_n hx hb dX4_allOf_25 rfl (lv_at hl 1 rfl) ?_
    exact W.iret (v := 0) hx hb hr (fun t ht hW => ⟨_, rfl, rfl, ht⟩) (fun q hq => absurd hq List.not_mem_nil) dX4_allOf_26
set_option maxHeartbeats 4000000 in
set_option maxRecDepth 100000 in
theorem c_X11_marked_0 (l : Launch) (D : va_G) (cI cS : ClassId) (h0 h1 h2 h3 h4 h5 h6 h7 h8 h9 h10 h11 h12 h13 h14 h15 h16 h17 : Nat) (x0 : Int32) : Met l yX11_marked wsX11_marked ({ frames := 5, cells := 0, slots := 0, locals := 200 }) (PS D cI cS [(h0, .inr (11, [.ref h1, .ref h2, .ref h3, .ref h4, .ref h5, .ref h6, .ref h7, .int 0, .int 0, .ref h8, .ref h9, .ref h10, .ref h11, .ref h12, .ref h13, .ref h14])), (h1, .inr (2, [.ref h15, .int 0, .int 0])), (h2, .inr (3, [.ref h1, .ref h16, .ref h17, .int 0])), (h3, .inr (4, [.ref h1, .ref h2]))] [.ref h0, .int x0]) (vp_Si (fun r => r = if x0 < 0 then ((-2) : Int32) else (if x0 ≤ 2 then (0 : Int32) else ((-2) : Int32)))) 0 0 (fun _ => False) := by
  refine Met.ofW (cc := cX11_marked) (maxL := 2) (ret := (some .int)) (by decide) rfl ?_
  intro p e s m args below meth c s₁ B hml hv
  obtain ⟨rfl, hP, hKK⟩ := hv
  have hx := B.exec
  have hb := B.bytes
  have hr := B.returns
  have hts := atoms_spec (ws := wsX11_marked) B.pre
  have hown : s.vm.findClass RX11 = some m.cls := findClass_of_methodNamed B.named
  have hlocks := B.notSynchronized
  have hK := hKK.1
  have hN := hKK.2
  have hin11 : ∀ w ∈ wsX110, w ∈ wsX11_marked := by decide +kernel
  have hl := lv_entry ([.ref h0, .int x0]) (n := 2) (Nat.le_of_ble_eq_true rfl)
  rw [lg_entry_eq]
  generalize (lg_sl ([.ref h0, .int x0]) ++ List.replicate (2 - (lg_sl ([.ref h0, .int x0])).length) Slot.unset).toArray = ls at hl ⊢
  have hl : lv_has ls 2 [(0, .ref h0), (1, .int x0)] := hl
  refine lv_iload_n hx hb dX11_marked_0 rfl (lv_at hl 1 rfl) ?_
  refine lv_if_lt (tgt := 9) hx hb dX11_marked_1 (by decide) (fun c2868 => ?_) (fun c2868 => ?_)
  · refine lv_bipush (v := (-2)) hx hb dX11_marked_9 (by decide) ?_
    refine lv_goto (tgt := 22) hx hb dX11_marked_11 (by decide) ?_
    exact W.iret (v := (-2)) hx hb hr (fun t ht hW => ⟨_, rfl, by rw [if_pos c2868], ht⟩) (fun q hq => absurd hq List.not_mem_nil) dX11_marked_22
  · refine lv_iload_n hx hb dX11_marked_4 rfl (lv_at hl 1 rfl) ?_
    refine lv_iconst (v := 2) hx hb dX11_marked_5 (by decide) ?_
    refine lv_icmp_le (tgt := 14) hx hb dX11_marked_6 (by decide) (fun c2869 => ?_) (fun c2869 => ?_)
    · refine lv_aload_n hx hb dX11_marked_14 rfl (lv_at hl 0 rfl) ?_
      refine va_get (D := D) (ci := 11) (v := .ref h3) (C := RX11) (T := TX11) (N := 16) hx hb hts hin11 hown hK hP 0 rfl rfl 2 (by decide) (hts (.fieldLink RX11 30 "MissedPoints" "parting" "LMissedPoints$Parting;") (by decide +kernel)) (fun _ h9 => h9) rfl dX11_marked_15 ?_
      refine lv_iload_n hx hb dX11_marked_18 rfl (lv_at hl 1 rfl) ?_
      have hPc := hP.sub (ws' := [(h3, .inr (4, [.ref h1, .ref h2])), (h1, .inr (2, [.ref h15, .int 0, .int 0])), (h2, .inr (3, [.ref h1, .ref h16, .ref h17, .int 0]))]) [3, 1, 2] rfl
      refine lz_sv (As := [.int x0]) (rest := []) ⟨hx, hb, hml, hown, hts⟩ (c_X4_allOf_0 l D cI cS h3 h1 h2 h15 h16 h17 x0) hKK hPc (ci := 4) rfl rfl (cwV 1 hts gX11_marked_X4_allOf rfl rfl rfl (by decide +kernel) ⟨Nat.le_of_ble_eq_true rfl, Nat.le_of_ble_eq_true rfl⟩) rfl hl.1 rfl (Nat.le_of_ble_eq_true rfl) dX11_marked_19 ⟨Nat.le_of_ble_eq_true rfl, Nat.le_of_ble_eq_true rfl⟩ (fun r2870 hw => ?_)
      subst hw
      exact W.iret (v := 0) hx hb hr (fun t ht hW => ⟨_, rfl, by rw [if_neg c2868, if_pos c2869], ht⟩) (fun q hq => absurd hq List.not_mem_nil) dX11_marked_22
    · refine lv_bipush (v := (-2)) hx hb dX11_marked_9 (by decide) ?_
      refine lv_goto (tgt := 22) hx hb dX11_marked_11 (by decide) ?_
      exact W.iret (v := (-2)) hx hb hr (fun t ht hW => ⟨_, rfl, by rw [if_neg c2868, if_neg c2869], ht⟩) (fun q hq => absurd hq List.not_mem_nil) dX11_marked_22
set_option maxHeartbeats 4000000 in
set_option maxRecDepth 100000 in
theorem c_X11_markOfPieces_0 (l : Launch) (D : va_G) (cI cS : ClassId) : Met l yX11_markOfPieces wsX11_markOfPieces ({ frames := 0, cells := 0, slots := 0, locals := 0 }) (PS D cI cS [] [.int 0]) (vp_Si (fun r => r = (0 : Int32))) 0 0 (fun _ => False) := by
  refine Met.ofW (cc := cX11_markOfPieces) (maxL := 1) (ret := (some .int)) (by decide) rfl ?_
  intro p e s m args below meth c s₁ B hml hv
  obtain ⟨rfl, hP, hKK⟩ := hv
  have hx := B.exec
  have hb := B.bytes
  have hr := B.returns
  have hts := atoms_spec (ws := wsX11_markOfPieces) B.pre
  have hown : s.vm.findClass RX11 = some m.cls := findClass_of_methodNamed B.named
  have hlocks := B.notSynchronized
  have hK := hKK.1
  have hN := hKK.2
  have hl := lv_entry ([.int 0]) (n := 1) (Nat.le_of_ble_eq_true rfl)
  rw [lg_entry_eq]
  generalize (lg_sl ([.int 0]) ++ List.replicate (1 - (lg_sl ([.int 0])).length) Slot.unset).toArray = ls at hl ⊢
  have hl : lv_has ls 1 [(0, .int 0)] := hl
  refine lv_iload_n hx hb dX11_markOfPieces_0 rfl (lv_at hl 0 rfl) ?_
  refine lv_if_ne (tgt := 8) hx hb dX11_markOfPieces_1 (by decide) (fun c2873 => ?_) (fun c2873 => ?_)
  · exact absurd c2873 (by decide)
  · refine lv_iconst (v := 0) hx hb dX11_markOfPieces_4 (by decide) ?_
    refine lv_goto (tgt := 9) hx hb dX11_markOfPieces_5 (by decide) ?_
    exact W.iret (v := 0) hx hb hr (fun t ht hW => ⟨_, rfl, rfl, ht⟩) (fun q hq => absurd hq List.not_mem_nil) dX11_markOfPieces_9
set_option maxHeartbeats 4000000 in
set_option maxRecDepth 100000 in
theorem c_X4_allOf_1 (l : Launch) (D : va_G) (cI cS : ClassId) (h0 h1 h2 h3 h4 h5 : Nat) : Met l yX4_allOf wsX4_allOf ({ frames := 4, cells := 0, slots := 0, locals := 160 }) (PS D cI cS [(h0, .inr (4, [.ref h1, .ref h2])), (h1, .inr (2, [.ref h3, .int 0, .int 0])), (h2, .inr (3, [.ref h1, .ref h4, .ref h5, .int 0]))] [.ref h0, .int 0]) (vp_Si (fun r => r = (0 : Int32))) 0 0 (fun _ => False) := by
  refine Met.ofW (cc := cX4_allOf) (maxL := 4) (ret := (some .int)) (by decide) rfl ?_
  intro p e s m args below meth c s₁ B hml hv
  obtain ⟨rfl, hP, hKK⟩ := hv
  have hx := B.exec
  have hb := B.bytes
  have hr := B.returns
  have hts := atoms_spec (ws := wsX4_allOf) B.pre
  have hown : s.vm.findClass RX4 = some m.cls := findClass_of_methodNamed B.named
  have hlocks := B.notSynchronized
  have hK := hKK.1
  have hN := hKK.2
  have hin4 : ∀ w ∈ wsX40, w ∈ wsX4_allOf := by decide +kernel
  have hl := lv_entry ([.ref h0, .int 0]) (n := 4) (Nat.le_of_ble_eq_true rfl)
  rw [lg_entry_eq]
  generalize (lg_sl ([.ref h0, .int 0]) ++ List.replicate (4 - (lg_sl ([.ref h0, .int 0])).length) Slot.unset).toArray = ls at hl ⊢
  have hl : lv_has ls 4 [(0, .ref h0), (1, .int 0)] := hl
  refine lv_aload_n hx hb dX4_allOf_0 rfl (lv_at hl 0 rfl) ?_
  refine va_get (D := D) (ci := 4) (v := .ref h2) (C := RX4) (T := TX4) (N := 2) hx hb hts hin4 hown hK hP 0 rfl rfl 1 (by decide) (hts (.fieldLink RX4 15 "MissedPoints$Parting" "pairs" "LMissedPoints$Pairs;") (by decide +kernel)) (fun _ h9 => h9) rfl dX4_allOf_1 ?_
  have hPc := hP.sub (ws' := [(h2, .inr (3, [.ref h1, .ref h4, .ref h5, .int 0])), (h1, .inr (2, [.ref h3, .int 0, .int 0]))]) [2, 1] rfl
  refine lz_sv (As := []) (rest := []) ⟨hx, hb, hml, hown, hts⟩ (c_X3_loosePoints_0 l D cI cS h2 h1 h4 h5 h3) hKK hPc (ci := 3) rfl rfl (cwV 0 hts gX4_allOf_X3_loosePoints rfl rfl rfl (by decide +kernel) ⟨Nat.le_of_ble_eq_true rfl, Nat.le_of_ble_eq_true rfl⟩) rfl hl.1 rfl (Nat.le_of_ble_eq_true rfl) dX4_allOf_4 ⟨Nat.le_of_ble_eq_true rfl, Nat.le_of_ble_eq_true rfl⟩ (fun r2878 hw => ?_)
  subst hw
  refine lv_istore_n (lv' := [(2, .int 0), (0, .ref h0), (1, .int 0)]) hx hb dX4_allOf_7 rfl hl (by decide) rfl (fun ls hl => ?_)
  refine lv_aload_n hx hb dX4_allOf_8 rfl (lv_at hl 1 rfl) ?_
  refine va_get (D := D) (ci := 4) (v := .ref h1) (C := RX4) (T := TX4) (N := 2) hx hb hts hin4 hown hK hP 0 rfl rfl 0 (by decide) (hts (.fieldLink RX4 9 "MissedPoints$Parting" "net" "LMissedPoints$Net;") (by decide +kernel)) (fun _ h9 => h9) rfl dX4_allOf_9 ?_
  refine lv_iload_n hx hb dX4_allOf_12 rfl (lv_at hl 0 rfl) ?_
  have hPc := hP.sub (ws' := [(h1, .inr (2, [.ref h3, .int 0, .int 0]))]) [1] rfl
  refine lz_sv (As := [.int 0]) (rest := []) ⟨hx, hb, hml, hown, hts⟩ (c_X2_nearAny_0 l D cI cS h1 h3) hKK hPc (ci := 2) rfl rfl (cwV 1 hts gX4_allOf_X2_nearAny rfl rfl rfl (by decide +kernel) ⟨Nat.le_of_ble_eq_true rfl, Nat.le_of_ble_eq_true rfl⟩) rfl hl.1 rfl (Nat.le_of_ble_eq_true rfl) dX4_allOf_13 ⟨Nat.le_of_ble_eq_true rfl, Nat.le_of_ble_eq_true rfl⟩ (fun r2879 hw => ?_)
  subst hw
  refine lv_iload_n hx hb dX4_allOf_16 rfl (lv_at hl 0 rfl) ?_
  refine lv_iconst (v := (-1)) hx hb dX4_allOf_17 (by decide) ?_
  refine lv_ixor hx hb dX4_allOf_18 ?_
  refine lz_top (y := (-1)) (by decide) ?_
  refine lv_iand hx hb dX4_allOf_19 ?_
  refine lz_top (y := 0) (by decide) ?_
  refine lv_istore_n (lv' := [(3, .int 0), (2, .int 0), (0, .ref h0), (1, .int 0)]) hx hb dX4_allOf_20 rfl hl (by decide) rfl (fun ls hl => ?_)
  refine lv_iload_n hx hb dX4_allOf_21 rfl (lv_at hl 3 rfl) ?_
  refine lv_if_ne (tgt := 27) hx hb dX4_allOf_22 (by decide) (fun c2880 => ?_) (fun c2880 => ?_)
  · exact absurd c2880 (by decide)
  · refine lv_iload_n hx hb dX4_allOf_25 rfl (lv_at hl 1 rfl) ?_
    exact W.iret (v := 0) hx hb hr (fun t ht hW => ⟨_, rfl, rfl, ht⟩) (fun q hq => absurd hq List.not_mem_nil) dX4_allOf_26
set_option maxHeartbeats 4000000 in
set_option maxRecDepth 100000 in
theorem c_X11_markOfPieces_1 (l : Launch) (D : va_G) (cI cS : ClassId) : Met l yX11_markOfPieces wsX11_markOfPieces ({ frames := 0, cells := 0, slots := 0, locals := 0 }) (PS D cI cS [] [.int 1]) (vp_Si (fun r => r = (2 : Int32))) 0 0 (fun _ => False) := by
  refine Met.ofW (cc := cX11_markOfPieces) (maxL := 1) (ret := (some .int)) (by decide) rfl ?_
  intro p e s m args below meth c s₁ B hml hv
  obtain ⟨rfl, hP, hKK⟩ := hv
  have hx := B.exec
  have hb := B.bytes
  have hr := B.returns
  have hts := atoms_spec (ws := wsX11_markOfPieces) B.pre
  have hown : s.vm.findClass RX11 = some m.cls := findClass_of_methodNamed B.named
  have hlocks := B.notSynchronized
  have hK := hKK.1
  have hN := hKK.2
  have hl := lv_entry ([.int 1]) (n := 1) (Nat.le_of_ble_eq_true rfl)
  rw [lg_entry_eq]
  generalize (lg_sl ([.int 1]) ++ List.replicate (1 - (lg_sl ([.int 1])).length) Slot.unset).toArray = ls at hl ⊢
  have hl : lv_has ls 1 [(0, .int 1)] := hl
  refine lv_iload_n hx hb dX11_markOfPieces_0 rfl (lv_at hl 0 rfl) ?_
  refine lv_if_ne (tgt := 8) hx hb dX11_markOfPieces_1 (by decide) (fun c2885 => ?_) (fun c2885 => ?_)
  · refine lv_iconst (v := 2) hx hb dX11_markOfPieces_8 (by decide) ?_
    exact W.iret (v := 2) hx hb hr (fun t ht hW => ⟨_, rfl, rfl, ht⟩) (fun q hq => absurd hq List.not_mem_nil) dX11_markOfPieces_9
  · exact absurd c2885 (by decide)
set_option maxHeartbeats 4000000 in
set_option maxRecDepth 100000 in
theorem c_X4_allOf_2 (l : Launch) (D : va_G) (cI cS : ClassId) (h0 h1 h2 h3 h4 h5 : Nat) : Met l yX4_allOf wsX4_allOf ({ frames := 4, cells := 0, slots := 0, locals := 160 }) (PS D cI cS [(h0, .inr (4, [.ref h1, .ref h2])), (h1, .inr (2, [.ref h3, .int 0, .int 0])), (h2, .inr (3, [.ref h1, .ref h4, .ref h5, .int 0]))] [.ref h0, .int 2]) (vp_Si (fun r => r = (0 : Int32))) 0 0 (fun _ => False) := by
  refine Met.ofW (cc := cX4_allOf) (maxL := 4) (ret := (some .int)) (by decide) rfl ?_
  intro p e s m args below meth c s₁ B hml hv
  obtain ⟨rfl, hP, hKK⟩ := hv
  have hx := B.exec
  have hb := B.bytes
  have hr := B.returns
  have hts := atoms_spec (ws := wsX4_allOf) B.pre
  have hown : s.vm.findClass RX4 = some m.cls := findClass_of_methodNamed B.named
  have hlocks := B.notSynchronized
  have hK := hKK.1
  have hN := hKK.2
  have hin4 : ∀ w ∈ wsX40, w ∈ wsX4_allOf := by decide +kernel
  have hl := lv_entry ([.ref h0, .int 2]) (n := 4) (Nat.le_of_ble_eq_true rfl)
  rw [lg_entry_eq]
  generalize (lg_sl ([.ref h0, .int 2]) ++ List.replicate (4 - (lg_sl ([.ref h0, .int 2])).length) Slot.unset).toArray = ls at hl ⊢
  have hl : lv_has ls 4 [(0, .ref h0), (1, .int 2)] := hl
  refine lv_aload_n hx hb dX4_allOf_0 rfl (lv_at hl 0 rfl) ?_
  refine va_get (D := D) (ci := 4) (v := .ref h2) (C := RX4) (T := TX4) (N := 2) hx hb hts hin4 hown hK hP 0 rfl rfl 1 (by decide) (hts (.fieldLink RX4 15 "MissedPoints$Parting" "pairs" "LMissedPoints$Pairs;") (by decide +kernel)) (fun _ h9 => h9) rfl dX4_allOf_1 ?_
  have hPc := hP.sub (ws' := [(h2, .inr (3, [.ref h1, .ref h4, .ref h5, .int 0])), (h1, .inr (2, [.ref h3, .int 0, .int 0]))]) [2, 1] rfl
  refine lz_sv (As := []) (rest := []) ⟨hx, hb, hml, hown, hts⟩ (c_X3_loosePoints_0 l D cI cS h2 h1 h4 h5 h3) hKK hPc (ci := 3) rfl rfl (cwV 0 hts gX4_allOf_X3_loosePoints rfl rfl rfl (by decide +kernel) ⟨Nat.le_of_ble_eq_true rfl, Nat.le_of_ble_eq_true rfl⟩) rfl hl.1 rfl (Nat.le_of_ble_eq_true rfl) dX4_allOf_4 ⟨Nat.le_of_ble_eq_true rfl, Nat.le_of_ble_eq_true rfl⟩ (fun r2892 hw => ?_)
  subst hw
  refine lv_istore_n (lv' := [(2, .int 0), (0, .ref h0), (1, .int 2)]) hx hb dX4_allOf_7 rfl hl (by decide) rfl (fun ls hl => ?_)
  refine lv_aload_n hx hb dX4_allOf_8 rfl (lv_at hl 1 rfl) ?_
  refine va_get (D := D) (ci := 4) (v := .ref h1) (C := RX4) (T := TX4) (N := 2) hx hb hts hin4 hown hK hP 0 rfl rfl 0 (by decide) (hts (.fieldLink RX4 9 "MissedPoints$Parting" "net" "LMissedPoints$Net;") (by decide +kernel)) (fun _ h9 => h9) rfl dX4_allOf_9 ?_
  refine lv_iload_n hx hb dX4_allOf_12 rfl (lv_at hl 0 rfl) ?_
  have hPc := hP.sub (ws' := [(h1, .inr (2, [.ref h3, .int 0, .int 0]))]) [1] rfl
  refine lz_sv (As := [.int 0]) (rest := []) ⟨hx, hb, hml, hown, hts⟩ (c_X2_nearAny_0 l D cI cS h1 h3) hKK hPc (ci := 2) rfl rfl (cwV 1 hts gX4_allOf_X2_nearAny rfl rfl rfl (by decide +kernel) ⟨Nat.le_of_ble_eq_true rfl, Nat.le_of_ble_eq_true rfl⟩) rfl hl.1 rfl (Nat.le_of_ble_eq_true rfl) dX4_allOf_13 ⟨Nat.le_of_ble_eq_true rfl, Nat.le_of_ble_eq_true rfl⟩ (fun r2893 hw => ?_)
  subst hw
  refine lv_iload_n hx hb dX4_allOf_16 rfl (lv_at hl 0 rfl) ?_
  refine lv_iconst (v := (-1)) hx hb dX4_allOf_17 (by decide) ?_
  refine lv_ixor hx hb dX4_allOf_18 ?_
  refine lz_top (y := (-1)) (by decide) ?_
  refine lv_iand hx hb dX4_allOf_19 ?_
  refine lz_top (y := 0) (by decide) ?_
  refine lv_istore_n (lv' := [(3, .int 0), (2, .int 0), (0, .ref h0), (1, .int 2)]) hx hb dX4_allOf_20 rfl hl (by decide) rfl (fun ls hl => ?_)
  refine lv_iload_n hx hb dX4_allOf_21 rfl (lv_at hl 3 rfl) ?_
  refine lv_if_ne (tgt := 27) hx hb dX4_allOf_22 (by decide) (fun c2894 => ?_) (fun c2894 => ?_)
  · refine lv_iload_n hx hb dX4_allOf_27 rfl (lv_at hl 3 rfl) ?_
    refine lv_iconst (v := 1) hx hb dX4_allOf_28 (by decide) ?_
    refine lv_icmp_ne (tgt := 36) hx hb dX4_allOf_29 (by decide) (fun c2895 => ?_) (fun c2895 => ?_)
    · refine lv_aload_n hx hb dX4_allOf_36 rfl (lv_at hl 2 rfl) ?_
      refine va_get (D := D) (ci := 4) (v := .ref h1) (C := RX4) (T := TX4) (N := 2) hx hb hts hin4 hown hK hP 0 rfl rfl 0 (by decide) (hts (.fieldLink RX4 9 "MissedPoints$Parting" "net" "LMissedPoints$Net;") (by decide +kernel)) (fun _ h9 => h9) rfl dX4_allOf_37 ?_
      have hPc := hP.sub (ws' := [(h1, .inr (2, [.ref h3, .int 0, .int 0]))]) [1] rfl
      refine lz_sv (As := []) (rest := []) ⟨hx, hb, hml, hown, hts⟩ (c_X2_all_0 l D cI cS h1 h3) hKK hPc (ci := 2) rfl rfl (cwV 0 hts gX4_allOf_X2_all rfl rfl rfl (by decide +kernel) ⟨Nat.le_of_ble_eq_true rfl, Nat.le_of_ble_eq_true rfl⟩) rfl hl.1 rfl (Nat.le_of_ble_eq_true rfl) dX4_allOf_40 ⟨Nat.le_of_ble_eq_true rfl, Nat.le_of_ble_eq_true rfl⟩ (fun r2896 hw => ?_)
      subst hw
      refine lv_iload_n hx hb dX4_allOf_43 rfl (lv_at hl 1 rfl) ?_
      refine lv_iload_n hx hb dX4_allOf_44 rfl (lv_at hl 0 rfl) ?_
      refine lv_ior hx hb dX4_allOf_45 ?_
      refine lz_top (y := 0) (by decide) ?_
      refine lv_iconst (v := (-1)) hx hb dX4_allOf_46 (by decide) ?_
      refine lv_ixor hx hb dX4_allOf_47 ?_
      refine lz_top (y := (-1)) (by decide) ?_
      refine lv_iand hx hb dX4_allOf_48 ?_
      refine lz_top (y := 0) (by decide) ?_
      exact W.iret (v := 0) hx hb hr (fun t ht hW => ⟨_, rfl, rfl, ht⟩) (fun q hq => absurd hq List.not_mem_nil) dX4_allOf_49
    · exact absurd c2895 (by decide)
  · exact absurd c2894 (by decide)
set_option maxHeartbeats 4000000 in
set_option maxRecDepth 100000 in
theorem c_X11_pieces_0 (l : Launch) (D : va_G) (cI cS : ClassId) (h0 h1 h2 h3 h4 h5 h6 h7 h8 h9 h10 h11 h12 h13 h14 h15 h16 h17 : Nat) (x0 : Int32) : Met l yX11_pieces wsX11_pieces ({ frames := 5, cells := 0, slots := 0, locals := 200 }) (PS D cI cS [(h0, .inr (11, [.ref h1, .ref h2, .ref h3, .ref h4, .ref h5, .ref h6, .ref h7, .int 0, .int 0, .ref h8, .ref h9, .ref h10, .ref h11, .ref h12, .ref h13, .ref h14])), (h1, .inr (2, [.ref h15, .int 0, .int 0])), (h2, .inr (3, [.ref h1, .ref h16, .ref h17, .int 0])), (h3, .inr (4, [.ref h1, .ref h2]))] [.ref h0, .int x0]) (vp_Si (fun r => r = if x0 = 0 then (0 : Int32) else (if x0 = 1 then (0 : Int32) else ((-2) : Int32)))) 0 0 (fun _ => False) := by
  refine Met.ofW (cc := cX11_pieces) (maxL := 2) (ret := (some .int)) (by decide) rfl ?_
  intro p e s m args below meth c s₁ B hml hv
  obtain ⟨rfl, hP, hKK⟩ := hv
  have hx := B.exec
  have hb := B.bytes
  have hr := B.returns
  have hts := atoms_spec (ws := wsX11_pieces) B.pre
  have hown : s.vm.findClass RX11 = some m.cls := findClass_of_methodNamed B.named
  have hlocks := B.notSynchronized
  have hK := hKK.1
  have hN := hKK.2
  have hin11 : ∀ w ∈ wsX110, w ∈ wsX11_pieces := by decide +kernel
  have hl := lv_entry ([.ref h0, .int x0]) (n := 2) (Nat.le_of_ble_eq_true rfl)
  rw [lg_entry_eq]
  generalize (lg_sl ([.ref h0, .int x0]) ++ List.replicate (2 - (lg_sl ([.ref h0, .int x0])).length) Slot.unset).toArray = ls at hl ⊢
  have hl : lv_has ls 2 [(0, .ref h0), (1, .int x0)] := hl
  refine lv_iload_n hx hb dX11_pieces_0 rfl (lv_at hl 1 rfl) ?_
  refine lv_if_eq (tgt := 12) hx hb dX11_pieces_1 (by decide) (fun c2899 => ?_) (fun c2899 => ?_)
  · subst c2899
    refine lv_aload_n hx hb dX11_pieces_12 rfl (lv_at hl 0 rfl) ?_
    refine va_get (D := D) (ci := 11) (v := .ref h1) (C := RX11) (T := TX11) (N := 16) hx hb hts hin11 hown hK hP 0 rfl rfl 0 (by decide) (hts (.fieldLink RX11 12 "MissedPoints" "net" "LMissedPoints$Net;") (by decide +kernel)) (fun _ h9 => h9) rfl dX11_pieces_13 ?_
    refine lv_aload_n hx hb dX11_pieces_16 rfl (lv_at hl 0 rfl) ?_
    refine va_get (D := D) (ci := 11) (v := .ref h3) (C := RX11) (T := TX11) (N := 16) hx hb hts hin11 hown hK hP 0 rfl rfl 2 (by decide) (hts (.fieldLink RX11 30 "MissedPoints" "parting" "LMissedPoints$Parting;") (by decide +kernel)) (fun _ h9 => h9) rfl dX11_pieces_17 ?_
    refine lv_iload_n hx hb dX11_pieces_20 rfl (lv_at hl 1 rfl) ?_
    have hPc := hP.sub (ws' := []) [] rfl
    refine lz_ss (As := [.int 0]) (rest := [.ref h3, .ref h1]) ⟨hx, hb, hml, hown, hts⟩ (c_X11_markOfPieces_0 l D cI cS) hKK hPc (va_cwS 1 hts gX11_pieces_X11_markOfPieces rfl rfl rfl (by decide +kernel) ⟨Nat.le_of_ble_eq_true rfl, Nat.le_of_ble_eq_true rfl⟩) rfl hl.1 rfl (Nat.le_of_ble_eq_true rfl) dX11_pieces_21 ⟨Nat.le_of_ble_eq_true rfl, Nat.le_of_ble_eq_true rfl⟩ (fun r2900 hw => ?_)
    subst hw
    have hPc := hP.sub (ws' := [(h3, .inr (4, [.ref h1, .ref h2])), (h1, .inr (2, [.ref h15, .int 0, .int 0])), (h2, .inr (3, [.ref h1, .ref h16, .ref h17, .int 0]))]) [3, 1, 2] rfl
    refine lz_sv (As := [.int 0]) (rest := [.ref h1]) ⟨hx, hb, hml, hown, hts⟩ (c_X4_allOf_1 l D cI cS h3 h1 h2 h15 h16 h17) hKK hPc (ci := 4) rfl rfl (cwV 1 hts gX11_pieces_X4_allOf rfl rfl rfl (by decide +kernel) ⟨Nat.le_of_ble_eq_true rfl, Nat.le_of_ble_eq_true rfl⟩) rfl hl.1 rfl (Nat.le_of_ble_eq_true rfl) dX11_pieces_24 ⟨Nat.le_of_ble_eq_true rfl, Nat.le_of_ble_eq_true rfl⟩ (fun r2901 hw => ?_)
    subst hw
    have hPc := hP.sub (ws' := [(h1, .inr (2, [.ref h15, .int 0, .int 0]))]) [1] rfl
    refine lz_sv (As := [.int 0]) (rest := []) ⟨hx, hb, hml, hown, hts⟩ (c_X2_pieceCount_0 l D cI cS h1 h15) hKK hPc (ci := 2) rfl rfl (cwV 1 hts gX11_pieces_X2_pieceCount rfl rfl rfl (by decide +kernel) ⟨Nat.le_of_ble_eq_true rfl, Nat.le_of_ble_eq_true rfl⟩) rfl hl.1 rfl (Nat.le_of_ble_eq_true rfl) dX11_pieces_27 ⟨Nat.le_of_ble_eq_true rfl, Nat.le_of_ble_eq_true rfl⟩ (fun r2902 hw => ?_)
    subst hw
    exact W.iret (v := 0) hx hb hr (fun t ht hW => ⟨_, rfl, by rw [if_pos rfl], ht⟩) (fun q hq => absurd hq List.not_mem_nil) dX11_pieces_30
  · refine lv_iload_n hx hb dX11_pieces_4 rfl (lv_at hl 1 rfl) ?_
    refine lv_iconst (v := 1) hx hb dX11_pieces_5 (by decide) ?_
    refine lv_icmp_eq (tgt := 12) hx hb dX11_pieces_6 (by decide) (fun c2903 => ?_) (fun c2903 => ?_)
    · subst c2903
      refine lv_aload_n hx hb dX11_pieces_12 rfl (lv_at hl 0 rfl) ?_
      refine va_get (D := D) (ci := 11) (v := .ref h1) (C := RX11) (T := TX11) (N := 16) hx hb hts hin11 hown hK hP 0 rfl rfl 0 (by decide) (hts (.fieldLink RX11 12 "MissedPoints" "net" "LMissedPoints$Net;") (by decide +kernel)) (fun _ h9 => h9) rfl dX11_pieces_13 ?_
      refine lv_aload_n hx hb dX11_pieces_16 rfl (lv_at hl 0 rfl) ?_
      refine va_get (D := D) (ci := 11) (v := .ref h3) (C := RX11) (T := TX11) (N := 16) hx hb hts hin11 hown hK hP 0 rfl rfl 2 (by decide) (hts (.fieldLink RX11 30 "MissedPoints" "parting" "LMissedPoints$Parting;") (by decide +kernel)) (fun _ h9 => h9) rfl dX11_pieces_17 ?_
      refine lv_iload_n hx hb dX11_pieces_20 rfl (lv_at hl 1 rfl) ?_
      have hPc := hP.sub (ws' := []) [] rfl
      refine lz_ss (As := [.int 1]) (rest := [.ref h3, .ref h1]) ⟨hx, hb, hml, hown, hts⟩ (c_X11_markOfPieces_1 l D cI cS) hKK hPc (va_cwS 1 hts gX11_pieces_X11_markOfPieces rfl rfl rfl (by decide +kernel) ⟨Nat.le_of_ble_eq_true rfl, Nat.le_of_ble_eq_true rfl⟩) rfl hl.1 rfl (Nat.le_of_ble_eq_true rfl) dX11_pieces_21 ⟨Nat.le_of_ble_eq_true rfl, Nat.le_of_ble_eq_true rfl⟩ (fun r2904 hw => ?_)
      subst hw
      have hPc := hP.sub (ws' := [(h3, .inr (4, [.ref h1, .ref h2])), (h1, .inr (2, [.ref h15, .int 0, .int 0])), (h2, .inr (3, [.ref h1, .ref h16, .ref h17, .int 0]))]) [3, 1, 2] rfl
      refine lz_sv (As := [.int 2]) (rest := [.ref h1]) ⟨hx, hb, hml, hown, hts⟩ (c_X4_allOf_2 l D cI cS h3 h1 h2 h15 h16 h17) hKK hPc (ci := 4) rfl rfl (cwV 1 hts gX11_pieces_X4_allOf rfl rfl rfl (by decide +kernel) ⟨Nat.le_of_ble_eq_true rfl, Nat.le_of_ble_eq_true rfl⟩) rfl hl.1 rfl (Nat.le_of_ble_eq_true rfl) dX11_pieces_24 ⟨Nat.le_of_ble_eq_true rfl, Nat.le_of_ble_eq_true rfl⟩ (fun r2905 hw => ?_)
      subst hw
      have hPc := hP.sub (ws' := [(h1, .inr (2, [.ref h15, .int 0, .int 0]))]) [1] rfl
      refine lz_sv (As := [.int 0]) (rest := []) ⟨hx, hb, hml, hown, hts⟩ (c_X2_pieceCount_0 l D cI cS h1 h15) hKK hPc (ci := 2) rfl rfl (cwV 1 hts gX11_pieces_X2_pieceCount rfl rfl rfl (by decide +kernel) ⟨Nat.le_of_ble_eq_true rfl, Nat.le_of_ble_eq_true rfl⟩) rfl hl.1 rfl (Nat.le_of_ble_eq_true rfl) dX11_pieces_27 ⟨Nat.le_of_ble_eq_true rfl, Nat.le_of_ble_eq_true rfl⟩ (fun r2906 hw => ?_)
      subst hw
      exact W.iret (v := 0) hx hb hr (fun t ht hW => ⟨_, rfl, by rw [if_neg c2899, if_pos rfl], ht⟩) (fun q hq => absurd hq List.not_mem_nil) dX11_pieces_30
    · refine lv_bipush (v := (-2)) hx hb dX11_pieces_9 (by decide) ?_
      exact W.iret (v := (-2)) hx hb hr (fun t ht hW => ⟨_, rfl, by rw [if_neg c2899, if_neg c2903], ht⟩) (fun q hq => absurd hq List.not_mem_nil) dX11_pieces_11
set_option maxHeartbeats 4000000 in
set_option maxRecDepth 100000 in
theorem c_X2_pieceAt_0 (l : Launch) (D : va_G) (cI cS : ClassId) (h0 h1 : Nat) (x0 : Int32) : Met l yX2_pieceAt wsX2_pieceAt ({ frames := 1, cells := 0, slots := 0, locals := 40 }) (PS D cI cS [(h0, .inr (2, [.ref h1, .int 0, .int 0]))] [.ref h0, .int 0, .int x0]) (vp_Si (fun r => r = (0 : Int32))) 0 0 (fun _ => False) := by
  refine Met.ofW (cc := cX2_pieceAt) (maxL := 6) (ret := (some .int)) (by decide) rfl ?_
  intro p e s m args below meth c s₁ B hml hv
  obtain ⟨rfl, hP, hKK⟩ := hv
  have hx := B.exec
  have hb := B.bytes
  have hr := B.returns
  have hts := atoms_spec (ws := wsX2_pieceAt) B.pre
  have hown : s.vm.findClass RX2 = some m.cls := findClass_of_methodNamed B.named
  have hlocks := B.notSynchronized
  have hK := hKK.1
  have hN := hKK.2
  have hl := lv_entry ([.ref h0, .int 0, .int x0]) (n := 6) (Nat.le_of_ble_eq_true rfl)
  rw [lg_entry_eq]
  generalize (lg_sl ([.ref h0, .int 0, .int x0]) ++ List.replicate (6 - (lg_sl ([.ref h0, .int 0, .int x0])).length) Slot.unset).toArray = ls at hl ⊢
  have hl : lv_has ls 6 [(0, .ref h0), (1, .int 0), (2, .int x0)] := hl
  refine lv_iload_n hx hb dX2_pieceAt_0 rfl (lv_at hl 1 rfl) ?_
  refine lv_aload_n hx hb dX2_pieceAt_1 rfl (lv_at hl 0 rfl) ?_
  have hPc := hP.sub (ws' := [(h0, .inr (2, [.ref h1, .int 0, .int 0]))]) [0] rfl
  refine lz_sv (As := []) (rest := [.int 0]) ⟨hx, hb, hml, hown, hts⟩ (c_X2_all_0 l D cI cS h0 h1) hKK hPc (ci := 2) rfl rfl (cwV 0 hts gX2_pieceAt_X2_all rfl rfl rfl (by decide +kernel) ⟨Nat.le_of_ble_eq_true rfl, Nat.le_of_ble_eq_true rfl⟩) rfl hl.1 rfl (Nat.le_of_ble_eq_true rfl) dX2_pieceAt_2 ⟨Nat.le_of_ble_eq_true rfl, Nat.le_of_ble_eq_true rfl⟩ (fun r2914 hw => ?_)
  subst hw
  refine lv_iand hx hb dX2_pieceAt_5 ?_
  refine lz_top (y := 0) (by decide) ?_
  refine lv_istore_n (lv' := [(3, .int 0), (0, .ref h0), (1, .int 0), (2, .int x0)]) hx hb dX2_pieceAt_6 rfl hl (by decide) rfl (fun ls hl => ?_)
  refine lv_iconst (v := 0) hx hb dX2_pieceAt_7 (by decide) ?_
  refine lv_istore (lv' := [(4, .int 0), (3, .int 0), (0, .ref h0), (1, .int 0), (2, .int x0)]) hx hb dX2_pieceAt_8 hl (by decide) rfl (fun ls hl => ?_)
  refine lv_iload hx hb dX2_pieceAt_10 (lv_at hl 0 rfl) ?_
  refine lv_bipush (v := 12) hx hb dX2_pieceAt_12 (by decide) ?_
  refine lv_icmp_ge (tgt := 53) hx hb dX2_pieceAt_14 (by decide) (fun c2915 => ?_) (fun c2915 => ?_)
  · exact absurd c2915 (by decide)
  · refine lv_iload_n hx hb dX2_pieceAt_17 rfl (lv_at hl 1 rfl) ?_
    refine lv_if_eq (tgt := 53) hx hb dX2_pieceAt_18 (by decide) (fun c2916 => ?_) (fun c2916 => ?_)
    · refine lv_iconst (v := 0) hx hb dX2_pieceAt_53 (by decide) ?_
      exact W.iret (v := 0) hx hb hr (fun t ht hW => ⟨_, rfl, rfl, ht⟩) (fun q hq => absurd hq List.not_mem_nil) dX2_pieceAt_54
    · exact absurd c2916 (by decide)
set_option maxHeartbeats 4000000 in
set_option maxRecDepth 100000 in
theorem c_X11_piece_0 (l : Launch) (D : va_G) (cI cS : ClassId) (h0 h1 h2 h3 h4 h5 h6 h7 h8 h9 h10 h11 h12 h13 h14 h15 h16 h17 : Nat) (x0 x1 x2 : Int32) : Met l yX11_piece wsX11_piece ({ frames := 5, cells := 0, slots := 0, locals := 200 }) (PS D cI cS [(h0, .inr (11, [.ref h1, .ref h2, .ref h3, .ref h4, .ref h5, .ref h6, .ref h7, .int 0, .int 0, .ref h8, .ref h9, .ref h10, .ref h11, .ref h12, .ref h13, .ref h14])), (h1, .inr (2, [.ref h15, .int 0, .int 0])), (h2, .inr (3, [.ref h1, .ref h16, .ref h17, .int 0])), (h3, .inr (4, [.ref h1, .ref h2]))] [.ref h0, .int x0, .int x1, .int x2]) (vp_Si (fun r => r = if x0 = 0 then (if x2 = 0 then ((-1) : Int32) else (if x2 = 1 then ((-1) : Int32) else ((-2) : Int32))) else (if x0 = 1 then (if x2 = 0 then ((-1) : Int32) else (if x2 = 1 then ((-1) : Int32) else ((-2) : Int32))) else ((-2) : Int32)))) 0 0 (fun _ => False) := by
  refine Met.ofW (cc := cX11_piece) (maxL := 5) (ret := (some .int)) (by decide) rfl ?_
  intro p e s m args below meth c s₁ B hml hv
  obtain ⟨rfl, hP, hKK⟩ := hv
  have hx := B.exec
  have hb := B.bytes
  have hr := B.returns
  have hts := atoms_spec (ws := wsX11_piece) B.pre
  have hown : s.vm.findClass RX11 = some m.cls := findClass_of_methodNamed B.named
  have hlocks := B.notSynchronized
  have hK := hKK.1
  have hN := hKK.2
  have hin11 : ∀ w ∈ wsX110, w ∈ wsX11_piece := by decide +kernel
  have hl := lv_entry ([.ref h0, .int x0, .int x1, .int x2]) (n := 5) (Nat.le_of_ble_eq_true rfl)
  rw [lg_entry_eq]
  generalize (lg_sl ([.ref h0, .int x0, .int x1, .int x2]) ++ List.replicate (5 - (lg_sl ([.ref h0, .int x0, .int x1, .int x2])).length) Slot.unset).toArray = ls at hl ⊢
  have hl : lv_has ls 5 [(0, .ref h0), (1, .int x0), (2, .int x1), (3, .int x2)] := hl
  refine lv_iload_n hx hb dX11_piece_0 rfl (lv_at hl 1 rfl) ?_
  refine lv_if_eq (tgt := 9) hx hb dX11_piece_1 (by decide) (fun c2935 => ?_) (fun c2935 => ?_)
  · subst c2935
    refine lv_iload_n hx hb dX11_piece_9 rfl (lv_at hl 3 rfl) ?_
    refine lv_if_eq (tgt := 21) hx hb dX11_piece_10 (by decide) (fun c2936 => ?_) (fun c2936 => ?_)
    · subst c2936
      refine lv_aload_n hx hb dX11_piece_21 rfl (lv_at hl 0 rfl) ?_
      refine va_get (D := D) (ci := 11) (v := .ref h1) (C := RX11) (T := TX11) (N := 16) hx hb hts hin11 hown hK hP 0 rfl rfl 0 (by decide) (hts (.fieldLink RX11 12 "MissedPoints" "net" "LMissedPoints$Net;") (by decide +kernel)) (fun _ h9 => h9) rfl dX11_piece_22 ?_
      refine lv_aload_n hx hb dX11_piece_25 rfl (lv_at hl 0 rfl) ?_
      refine va_get (D := D) (ci := 11) (v := .ref h3) (C := RX11) (T := TX11) (N := 16) hx hb hts hin11 hown hK hP 0 rfl rfl 2 (by decide) (hts (.fieldLink RX11 30 "MissedPoints" "parting" "LMissedPoints$Parting;") (by decide +kernel)) (fun _ h9 => h9) rfl dX11_piece_26 ?_
      refine lv_iload_n hx hb dX11_piece_29 rfl (lv_at hl 1 rfl) ?_
      have hPc := hP.sub (ws' := []) [] rfl
      refine lz_ss (As := [.int 0]) (rest := [.ref h3, .ref h1]) ⟨hx, hb, hml, hown, hts⟩ (c_X11_markOfPieces_0 l D cI cS) hKK hPc (va_cwS 1 hts gX11_piece_X11_markOfPieces rfl rfl rfl (by decide +kernel) ⟨Nat.le_of_ble_eq_true rfl, Nat.le_of_ble_eq_true rfl⟩) rfl hl.1 rfl (Nat.le_of_ble_eq_true rfl) dX11_piece_30 ⟨Nat.le_of_ble_eq_true rfl, Nat.le_of_ble_eq_true rfl⟩ (fun r2937 hw => ?_)
      subst hw
      have hPc := hP.sub (ws' := [(h3, .inr (4, [.ref h1, .ref h2])), (h1, .inr (2, [.ref h15, .int 0, .int 0])), (h2, .inr (3, [.ref h1, .ref h16, .ref h17, .int 0]))]) [3, 1, 2] rfl
      refine lz_sv (As := [.int 0]) (rest := [.ref h1]) ⟨hx, hb, hml, hown, hts⟩ (c_X4_allOf_1 l D cI cS h3 h1 h2 h15 h16 h17) hKK hPc (ci := 4) rfl rfl (cwV 1 hts gX11_piece_X4_allOf rfl rfl rfl (by decide +kernel) ⟨Nat.le_of_ble_eq_true rfl, Nat.le_of_ble_eq_true rfl⟩) rfl hl.1 rfl (Nat.le_of_ble_eq_true rfl) dX11_piece_33 ⟨Nat.le_of_ble_eq_true rfl, Nat.le_of_ble_eq_true rfl⟩ (fun r2938 hw => ?_)
      subst hw
      refine lv_iload_n hx hb dX11_piece_36 rfl (lv_at hl 2 rfl) ?_
      have hPc := hP.sub (ws' := [(h1, .inr (2, [.ref h15, .int 0, .int 0]))]) [1] rfl
      refine lz_sv (As := [.int 0, .int x1]) (rest := []) ⟨hx, hb, hml, hown, hts⟩ (c_X2_pieceAt_0 l D cI cS h1 h15 x1) hKK hPc (ci := 2) rfl rfl (cwV 2 hts gX11_piece_X2_pieceAt rfl rfl rfl (by decide +kernel) ⟨Nat.le_of_ble_eq_true rfl, Nat.le_of_ble_eq_true rfl⟩) rfl hl.1 rfl (Nat.le_of_ble_eq_true rfl) dX11_piece_37 ⟨Nat.le_of_ble_eq_true rfl, Nat.le_of_ble_eq_true rfl⟩ (fun r2939 hw => ?_)
      subst hw
      refine lv_istore (lv' := [(4, .int 0), (0, .ref h0), (1, .int 0), (2, .int x1), (3, .int 0)]) hx hb dX11_piece_40 hl (by decide) rfl (fun ls hl => ?_)
      refine lv_iload hx hb dX11_piece_42 (lv_at hl 0 rfl) ?_
      refine lv_if_ne (tgt := 49) hx hb dX11_piece_44 (by decide) (fun c2940 => ?_) (fun c2940 => ?_)
      · exact absurd c2940 (by decide)
      · refine lv_iconst (v := (-1)) hx hb dX11_piece_47 (by decide) ?_
        exact W.iret (v := (-1)) hx hb hr (fun t ht hW => ⟨_, rfl, by rw [if_pos rfl, if_pos rfl], ht⟩) (fun q hq => absurd hq List.not_mem_nil) dX11_piece_48
    · refine lv_iload_n hx hb dX11_piece_13 rfl (lv_at hl 3 rfl) ?_
      refine lv_iconst (v := 1) hx hb dX11_piece_14 (by decide) ?_
      refine lv_icmp_eq (tgt := 21) hx hb dX11_piece_15 (by decide) (fun c2941 => ?_) (fun c2941 => ?_)
      · subst c2941
        refine lv_aload_n hx hb dX11_piece_21 rfl (lv_at hl 0 rfl) ?_
        refine va_get (D := D) (ci := 11) (v := .ref h1) (C := RX11) (T := TX11) (N := 16) hx hb hts hin11 hown hK hP 0 rfl rfl 0 (by decide) (hts (.fieldLink RX11 12 "MissedPoints" "net" "LMissedPoints$Net;") (by decide +kernel)) (fun _ h9 => h9) rfl dX11_piece_22 ?_
        refine lv_aload_n hx hb dX11_piece_25 rfl (lv_at hl 0 rfl) ?_
        refine va_get (D := D) (ci := 11) (v := .ref h3) (C := RX11) (T := TX11) (N := 16) hx hb hts hin11 hown hK hP 0 rfl rfl 2 (by decide) (hts (.fieldLink RX11 30 "MissedPoints" "parting" "LMissedPoints$Parting;") (by decide +kernel)) (fun _ h9 => h9) rfl dX11_piece_26 ?_
        refine lv_iload_n hx hb dX11_piece_29 rfl (lv_at hl 1 rfl) ?_
        have hPc := hP.sub (ws' := []) [] rfl
        refine lz_ss (As := [.int 0]) (rest := [.ref h3, .ref h1]) ⟨hx, hb, hml, hown, hts⟩ (c_X11_markOfPieces_0 l D cI cS) hKK hPc (va_cwS 1 hts gX11_piece_X11_markOfPieces rfl rfl rfl (by decide +kernel) ⟨Nat.le_of_ble_eq_true rfl, Nat.le_of_ble_eq_true rfl⟩) rfl hl.1 rfl (Nat.le_of_ble_eq_true rfl) dX11_piece_30 ⟨Nat.le_of_ble_eq_true rfl, Nat.le_of_ble_eq_true rfl⟩ (fun r2942 hw => ?_)
        subst hw
        have hPc := hP.sub (ws' := [(h3, .inr (4, [.ref h1, .ref h2])), (h1, .inr (2, [.ref h15, .int 0, .int 0])), (h2, .inr (3, [.ref h1, .ref h16, .ref h17, .int 0]))]) [3, 1, 2] rfl
        refine lz_sv (As := [.int 0]) (rest := [.ref h1]) ⟨hx, hb, hml, hown, hts⟩ (c_X4_allOf_1 l D cI cS h3 h1 h2 h15 h16 h17) hKK hPc (ci := 4) rfl rfl (cwV 1 hts gX11_piece_X4_allOf rfl rfl rfl (by decide +kernel) ⟨Nat.le_of_ble_eq_true rfl, Nat.le_of_ble_eq_true rfl⟩) rfl hl.1 rfl (Nat.le_of_ble_eq_true rfl) dX11_piece_33 ⟨Nat.le_of_ble_eq_true rfl, Nat.le_of_ble_eq_true rfl⟩ (fun r2943 hw => ?_)
        subst hw
        refine lv_iload_n hx hb dX11_piece_36 rfl (lv_at hl 2 rfl) ?_
        have hPc := hP.sub (ws' := [(h1, .inr (2, [.ref h15, .int 0, .int 0]))]) [1] rfl
        refine lz_sv (As := [.int 0, .int x1]) (rest := []) ⟨hx, hb, hml, hown, hts⟩ (c_X2_pieceAt_0 l D cI cS h1 h15 x1) hKK hPc (ci := 2) rfl rfl (cwV 2 hts gX11_piece_X2_pieceAt rfl rfl rfl (by decide +kernel) ⟨Nat.le_of_ble_eq_true rfl, Nat.le_of_ble_eq_true rfl⟩) rfl hl.1 rfl (Nat.le_of_ble_eq_true rfl) dX11_piece_37 ⟨Nat.le_of_ble_eq_true rfl, Nat.le_of_ble_eq_true rfl⟩ (fun r2944 hw => ?_)
        subst hw
        refine lv_istore (lv' := [(4, .int 0), (0, .ref h0), (1, .int 0), (2, .int x1), (3, .int 1)]) hx hb dX11_piece_40 hl (by decide) rfl (fun ls hl => ?_)
        refine lv_iload hx hb dX11_piece_42 (lv_at hl 0 rfl) ?_
        refine lv_if_ne (tgt := 49) hx hb dX11_piece_44 (by decide) (fun c2945 => ?_) (fun c2945 => ?_)
        · exact absurd c2945 (by decide)
        · refine lv_iconst (v := (-1)) hx hb dX11_piece_47 (by decide) ?_
          exact W.iret (v := (-1)) hx hb hr (fun t ht hW => ⟨_, rfl, by rw [if_pos rfl, if_neg c2936, if_pos rfl], ht⟩) (fun q hq => absurd hq List.not_mem_nil) dX11_piece_48
      · refine lv_bipush (v := (-2)) hx hb dX11_piece_18 (by decide) ?_
        exact W.iret (v := (-2)) hx hb hr (fun t ht hW => ⟨_, rfl, by rw [if_pos rfl, if_neg c2936, if_neg c2941], ht⟩) (fun q hq => absurd hq List.not_mem_nil) dX11_piece_20
  · refine lv_iload_n hx hb dX11_piece_4 rfl (lv_at hl 1 rfl) ?_
    refine lv_iconst (v := 1) hx hb dX11_piece_5 (by decide) ?_
    refine lv_icmp_ne (tgt := 18) hx hb dX11_piece_6 (by decide) (fun c2946 => ?_) (fun c2946 => ?_)
    · refine lv_bipush (v := (-2)) hx hb dX11_piece_18 (by decide) ?_
      exact W.iret (v := (-2)) hx hb hr (fun t ht hW => ⟨_, rfl, by rw [if_neg c2935, if_neg c2946], ht⟩) (fun q hq => absurd hq List.not_mem_nil) dX11_piece_20
    · subst c2946
      refine lv_iload_n hx hb dX11_piece_9 rfl (lv_at hl 3 rfl) ?_
      refine lv_if_eq (tgt := 21) hx hb dX11_piece_10 (by decide) (fun c2947 => ?_) (fun c2947 => ?_)
      · subst c2947
        refine lv_aload_n hx hb dX11_piece_21 rfl (lv_at hl 0 rfl) ?_
        refine va_get (D := D) (ci := 11) (v := .ref h1) (C := RX11) (T := TX11) (N := 16) hx hb hts hin11 hown hK hP 0 rfl rfl 0 (by decide) (hts (.fieldLink RX11 12 "MissedPoints" "net" "LMissedPoints$Net;") (by decide +kernel)) (fun _ h9 => h9) rfl dX11_piece_22 ?_
        refine lv_aload_n hx hb dX11_piece_25 rfl (lv_at hl 0 rfl) ?_
        refine va_get (D := D) (ci := 11) (v := .ref h3) (C := RX11) (T := TX11) (N := 16) hx hb hts hin11 hown hK hP 0 rfl rfl 2 (by decide) (hts (.fieldLink RX11 30 "MissedPoints" "parting" "LMissedPoints$Parting;") (by decide +kernel)) (fun _ h9 => h9) rfl dX11_piece_26 ?_
        refine lv_iload_n hx hb dX11_piece_29 rfl (lv_at hl 1 rfl) ?_
        have hPc := hP.sub (ws' := []) [] rfl
        refine lz_ss (As := [.int 1]) (rest := [.ref h3, .ref h1]) ⟨hx, hb, hml, hown, hts⟩ (c_X11_markOfPieces_1 l D cI cS) hKK hPc (va_cwS 1 hts gX11_piece_X11_markOfPieces rfl rfl rfl (by decide +kernel) ⟨Nat.le_of_ble_eq_true rfl, Nat.le_of_ble_eq_true rfl⟩) rfl hl.1 rfl (Nat.le_of_ble_eq_true rfl) dX11_piece_30 ⟨Nat.le_of_ble_eq_true rfl, Nat.le_of_ble_eq_true rfl⟩ (fun r2948 hw => ?_)
        subst hw
        have hPc := hP.sub (ws' := [(h3, .inr (4, [.ref h1, .ref h2])), (h1, .inr (2, [.ref h15, .int 0, .int 0])), (h2, .inr (3, [.ref h1, .ref h16, .ref h17, .int 0]))]) [3, 1, 2] rfl
        refine lz_sv (As := [.int 2]) (rest := [.ref h1]) ⟨hx, hb, hml, hown, hts⟩ (c_X4_allOf_2 l D cI cS h3 h1 h2 h15 h16 h17) hKK hPc (ci := 4) rfl rfl (cwV 1 hts gX11_piece_X4_allOf rfl rfl rfl (by decide +kernel) ⟨Nat.le_of_ble_eq_true rfl, Nat.le_of_ble_eq_true rfl⟩) rfl hl.1 rfl (Nat.le_of_ble_eq_true rfl) dX11_piece_33 ⟨Nat.le_of_ble_eq_true rfl, Nat.le_of_ble_eq_true rfl⟩ (fun r2949 hw => ?_)
        subst hw
        refine lv_iload_n hx hb dX11_piece_36 rfl (lv_at hl 2 rfl) ?_
        have hPc := hP.sub (ws' := [(h1, .inr (2, [.ref h15, .int 0, .int 0]))]) [1] rfl
        refine lz_sv (As := [.int 0, .int x1]) (rest := []) ⟨hx, hb, hml, hown, hts⟩ (c_X2_pieceAt_0 l D cI cS h1 h15 x1) hKK hPc (ci := 2) rfl rfl (cwV 2 hts gX11_piece_X2_pieceAt rfl rfl rfl (by decide +kernel) ⟨Nat.le_of_ble_eq_true rfl, Nat.le_of_ble_eq_true rfl⟩) rfl hl.1 rfl (Nat.le_of_ble_eq_true rfl) dX11_piece_37 ⟨Nat.le_of_ble_eq_true rfl, Nat.le_of_ble_eq_true rfl⟩ (fun r2950 hw => ?_)
        subst hw
        refine lv_istore (lv' := [(4, .int 0), (0, .ref h0), (1, .int 1), (2, .int x1), (3, .int 0)]) hx hb dX11_piece_40 hl (by decide) rfl (fun ls hl => ?_)
        refine lv_iload hx hb dX11_piece_42 (lv_at hl 0 rfl) ?_
        refine lv_if_ne (tgt := 49) hx hb dX11_piece_44 (by decide) (fun c2951 => ?_) (fun c2951 => ?_)
        · exact absurd c2951 (by decide)
        · refine lv_iconst (v := (-1)) hx hb dX11_piece_47 (by decide) ?_
          exact W.iret (v := (-1)) hx hb hr (fun t ht hW => ⟨_, rfl, by rw [if_neg c2935, if_pos rfl, if_pos rfl], ht⟩) (fun q hq => absurd hq List.not_mem_nil) dX11_piece_48
      · refine lv_iload_n hx hb dX11_piece_13 rfl (lv_at hl 3 rfl) ?_
        refine lv_iconst (v := 1) hx hb dX11_piece_14 (by decide) ?_
        refine lv_icmp_eq (tgt := 21) hx hb dX11_piece_15 (by decide) (fun c2952 => ?_) (fun c2952 => ?_)
        · subst c2952
          refine lv_aload_n hx hb dX11_piece_21 rfl (lv_at hl 0 rfl) ?_
          refine va_get (D := D) (ci := 11) (v := .ref h1) (C := RX11) (T := TX11) (N := 16) hx hb hts hin11 hown hK hP 0 rfl rfl 0 (by decide) (hts (.fieldLink RX11 12 "MissedPoints" "net" "LMissedPoints$Net;") (by decide +kernel)) (fun _ h9 => h9) rfl dX11_piece_22 ?_
          refine lv_aload_n hx hb dX11_piece_25 rfl (lv_at hl 0 rfl) ?_
          refine va_get (D := D) (ci := 11) (v := .ref h3) (C := RX11) (T := TX11) (N := 16) hx hb hts hin11 hown hK hP 0 rfl rfl 2 (by decide) (hts (.fieldLink RX11 30 "MissedPoints" "parting" "LMissedPoints$Parting;") (by decide +kernel)) (fun _ h9 => h9) rfl dX11_piece_26 ?_
          refine lv_iload_n hx hb dX11_piece_29 rfl (lv_at hl 1 rfl) ?_
          have hPc := hP.sub (ws' := []) [] rfl
          refine lz_ss (As := [.int 1]) (rest := [.ref h3, .ref h1]) ⟨hx, hb, hml, hown, hts⟩ (c_X11_markOfPieces_1 l D cI cS) hKK hPc (va_cwS 1 hts gX11_piece_X11_markOfPieces rfl rfl rfl (by decide +kernel) ⟨Nat.le_of_ble_eq_true rfl, Nat.le_of_ble_eq_true rfl⟩) rfl hl.1 rfl (Nat.le_of_ble_eq_true rfl) dX11_piece_30 ⟨Nat.le_of_ble_eq_true rfl, Nat.le_of_ble_eq_true rfl⟩ (fun r2953 hw => ?_)
          subst hw
          have hPc := hP.sub (ws' := [(h3, .inr (4, [.ref h1, .ref h2])), (h1, .inr (2, [.ref h15, .int 0, .int 0])), (h2, .inr (3, [.ref h1, .ref h16, .ref h17, .int 0]))]) [3, 1, 2] rfl
          refine lz_sv (As := [.int 2]) (rest := [.ref h1]) ⟨hx, hb, hml, hown, hts⟩ (c_X4_allOf_2 l D cI cS h3 h1 h2 h15 h16 h17) hKK hPc (ci := 4) rfl rfl (cwV 1 hts gX11_piece_X4_allOf rfl rfl rfl (by decide +kernel) ⟨Nat.le_of_ble_eq_true rfl, Nat.le_of_ble_eq_true rfl⟩) rfl hl.1 rfl (Nat.le_of_ble_eq_true rfl) dX11_piece_33 ⟨Nat.le_of_ble_eq_true rfl, Nat.le_of_ble_eq_true rfl⟩ (fun r2954 hw => ?_)
          subst hw
          refine lv_iload_n hx hb dX11_piece_36 rfl (lv_at hl 2 rfl) ?_
          have hPc := hP.sub (ws' := [(h1, .inr (2, [.ref h15, .int 0, .int 0]))]) [1] rfl
          refine lz_sv (As := [.int 0, .int x1]) (rest := []) ⟨hx, hb, hml, hown, hts⟩ (c_X2_pieceAt_0 l D cI cS h1 h15 x1) hKK hPc (ci := 2) rfl rfl (cwV 2 hts gX11_piece_X2_pieceAt rfl rfl rfl (by decide +kernel) ⟨Nat.le_of_ble_eq_true rfl, Nat.le_of_ble_eq_true rfl⟩) rfl hl.1 rfl (Nat.le_of_ble_eq_true rfl) dX11_piece_37 ⟨Nat.le_of_ble_eq_true rfl, Nat.le_of_ble_eq_true rfl⟩ (fun r2955 hw => ?_)
          subst hw
          refine lv_istore (lv' := [(4, .int 0), (0, .ref h0), (1, .int 1), (2, .int x1), (3, .int 1)]) hx hb dX11_piece_40 hl (by decide) rfl (fun ls hl => ?_)
          refine lv_iload hx hb dX11_piece_42 (lv_at hl 0 rfl) ?_
          refine lv_if_ne (tgt := 49) hx hb dX11_piece_44 (by decide) (fun c2956 => ?_) (fun c2956 => ?_)
          · exact absurd c2956 (by decide)
          · refine lv_iconst (v := (-1)) hx hb dX11_piece_47 (by decide) ?_
            exact W.iret (v := (-1)) hx hb hr (fun t ht hW => ⟨_, rfl, by rw [if_neg c2935, if_pos rfl, if_neg c2947, if_pos rfl], ht⟩) (fun q hq => absurd hq List.not_mem_nil) dX11_piece_48
        · refine lv_bipush (v := (-2)) hx hb dX11_piece_18 (by decide) ?_
          exact W.iret (v := (-2)) hx hb hr (fun t ht hW => ⟨_, rfl, by rw [if_neg c2935, if_pos rfl, if_neg c2947, if_neg c2952], ht⟩) (fun q hq => absurd hq List.not_mem_nil) dX11_piece_20
set_option maxHeartbeats 4000000 in
set_option maxRecDepth 100000 in
theorem c_X4_allOf_3 (l : Launch) (D : va_G) (cI cS : ClassId) (h0 h1 h2 h3 h4 h5 : Nat) : Met l yX4_allOf wsX4_allOf ({ frames := 4, cells := 0, slots := 0, locals := 160 }) (PS D cI cS [(h0, .inr (4, [.ref h1, .ref h2])), (h1, .inr (2, [.ref h3, .int 0, .int 0])), (h2, .inr (3, [.ref h1, .ref h4, .ref h5, .int 0]))] [.ref h0, .int 1]) (vp_Si (fun r => r = (0 : Int32))) 0 0 (fun _ => False) := by
  refine Met.ofW (cc := cX4_allOf) (maxL := 4) (ret := (some .int)) (by decide) rfl ?_
  intro p e s m args below meth c s₁ B hml hv
  obtain ⟨rfl, hP, hKK⟩ := hv
  have hx := B.exec
  have hb := B.bytes
  have hr := B.returns
  have hts := atoms_spec (ws := wsX4_allOf) B.pre
  have hown : s.vm.findClass RX4 = some m.cls := findClass_of_methodNamed B.named
  have hlocks := B.notSynchronized
  have hK := hKK.1
  have hN := hKK.2
  have hin4 : ∀ w ∈ wsX40, w ∈ wsX4_allOf := by decide +kernel
  have hl := lv_entry ([.ref h0, .int 1]) (n := 4) (Nat.le_of_ble_eq_true rfl)
  rw [lg_entry_eq]
  generalize (lg_sl ([.ref h0, .int 1]) ++ List.replicate (4 - (lg_sl ([.ref h0, .int 1])).length) Slot.unset).toArray = ls at hl ⊢
  have hl : lv_has ls 4 [(0, .ref h0), (1, .int 1)] := hl
  refine lv_aload_n hx hb dX4_allOf_0 rfl (lv_at hl 0 rfl) ?_
  refine va_get (D := D) (ci := 4) (v := .ref h2) (C := RX4) (T := TX4) (N := 2) hx hb hts hin4 hown hK hP 0 rfl rfl 1 (by decide) (hts (.fieldLink RX4 15 "MissedPoints$Parting" "pairs" "LMissedPoints$Pairs;") (by decide +kernel)) (fun _ h9 => h9) rfl dX4_allOf_1 ?_
  have hPc := hP.sub (ws' := [(h2, .inr (3, [.ref h1, .ref h4, .ref h5, .int 0])), (h1, .inr (2, [.ref h3, .int 0, .int 0]))]) [2, 1] rfl
  refine lz_sv (As := []) (rest := []) ⟨hx, hb, hml, hown, hts⟩ (c_X3_loosePoints_0 l D cI cS h2 h1 h4 h5 h3) hKK hPc (ci := 3) rfl rfl (cwV 0 hts gX4_allOf_X3_loosePoints rfl rfl rfl (by decide +kernel) ⟨Nat.le_of_ble_eq_true rfl, Nat.le_of_ble_eq_true rfl⟩) rfl hl.1 rfl (Nat.le_of_ble_eq_true rfl) dX4_allOf_4 ⟨Nat.le_of_ble_eq_true rfl, Nat.le_of_ble_eq_true rfl⟩ (fun r2961 hw => ?_)
  subst hw
  refine lv_istore_n (lv' := [(2, .int 0), (0, .ref h0), (1, .int 1)]) hx hb dX4_allOf_7 rfl hl (by decide) rfl (fun ls hl => ?_)
  refine lv_aload_n hx hb dX4_allOf_8 rfl (lv_at hl 1 rfl) ?_
  refine va_get (D := D) (ci := 4) (v := .ref h1) (C := RX4) (T := TX4) (N := 2) hx hb hts hin4 hown hK hP 0 rfl rfl 0 (by decide) (hts (.fieldLink RX4 9 "MissedPoints$Parting" "net" "LMissedPoints$Net;") (by decide +kernel)) (fun _ h9 => h9) rfl dX4_allOf_9 ?_
  refine lv_iload_n hx hb dX4_allOf_12 rfl (lv_at hl 0 rfl) ?_
  have hPc := hP.sub (ws' := [(h1, .inr (2, [.ref h3, .int 0, .int 0]))]) [1] rfl
  refine lz_sv (As := [.int 0]) (rest := []) ⟨hx, hb, hml, hown, hts⟩ (c_X2_nearAny_0 l D cI cS h1 h3) hKK hPc (ci := 2) rfl rfl (cwV 1 hts gX4_allOf_X2_nearAny rfl rfl rfl (by decide +kernel) ⟨Nat.le_of_ble_eq_true rfl, Nat.le_of_ble_eq_true rfl⟩) rfl hl.1 rfl (Nat.le_of_ble_eq_true rfl) dX4_allOf_13 ⟨Nat.le_of_ble_eq_true rfl, Nat.le_of_ble_eq_true rfl⟩ (fun r2962 hw => ?_)
  subst hw
  refine lv_iload_n hx hb dX4_allOf_16 rfl (lv_at hl 0 rfl) ?_
  refine lv_iconst (v := (-1)) hx hb dX4_allOf_17 (by decide) ?_
  refine lv_ixor hx hb dX4_allOf_18 ?_
  refine lz_top (y := (-1)) (by decide) ?_
  refine lv_iand hx hb dX4_allOf_19 ?_
  refine lz_top (y := 0) (by decide) ?_
  refine lv_istore_n (lv' := [(3, .int 0), (2, .int 0), (0, .ref h0), (1, .int 1)]) hx hb dX4_allOf_20 rfl hl (by decide) rfl (fun ls hl => ?_)
  refine lv_iload_n hx hb dX4_allOf_21 rfl (lv_at hl 3 rfl) ?_
  refine lv_if_ne (tgt := 27) hx hb dX4_allOf_22 (by decide) (fun c2963 => ?_) (fun c2963 => ?_)
  · refine lv_iload_n hx hb dX4_allOf_27 rfl (lv_at hl 3 rfl) ?_
    refine lv_iconst (v := 1) hx hb dX4_allOf_28 (by decide) ?_
    refine lv_icmp_ne (tgt := 36) hx hb dX4_allOf_29 (by decide) (fun c2964 => ?_) (fun c2964 => ?_)
    · exact absurd c2964 (by decide)
    · refine lv_iload_n hx hb dX4_allOf_32 rfl (lv_at hl 0 rfl) ?_
      refine lv_goto (tgt := 49) hx hb dX4_allOf_33 (by decide) ?_
      exact W.iret (v := 0) hx hb hr (fun t ht hW => ⟨_, rfl, rfl, ht⟩) (fun q hq => absurd hq List.not_mem_nil) dX4_allOf_49
  · exact absurd c2963 (by decide)
set_option maxHeartbeats 4000000 in
set_option maxRecDepth 100000 in
theorem c_X4_surplusOf_0 (l : Launch) (D : va_G) (cI cS : ClassId) (h0 h1 h2 h3 h4 h5 : Nat) : Met l yX4_surplusOf wsX4_surplusOf ({ frames := 4, cells := 0, slots := 0, locals := 160 }) (PS D cI cS [(h0, .inr (4, [.ref h1, .ref h2])), (h1, .inr (2, [.ref h3, .int 0, .int 0])), (h2, .inr (3, [.ref h1, .ref h4, .ref h5, .int 0]))] [.ref h0, .int 0]) (vp_Si (fun r => r = (0 : Int32))) 0 0 (fun _ => False) := by
  refine Met.ofW (cc := cX4_surplusOf) (maxL := 7) (ret := (some .int)) (by decide) rfl ?_
  intro p e s m args below meth c s₁ B hml hv
  obtain ⟨rfl, hP, hKK⟩ := hv
  have hx := B.exec
  have hb := B.bytes
  have hr := B.returns
  have hts := atoms_spec (ws := wsX4_surplusOf) B.pre
  have hown : s.vm.findClass RX4 = some m.cls := findClass_of_methodNamed B.named
  have hlocks := B.notSynchronized
  have hK := hKK.1
  have hN := hKK.2
  have hin4 : ∀ w ∈ wsX40, w ∈ wsX4_surplusOf := by decide +kernel
  have hl := lv_entry ([.ref h0, .int 0]) (n := 7) (Nat.le_of_ble_eq_true rfl)
  rw [lg_entry_eq]
  generalize (lg_sl ([.ref h0, .int 0]) ++ List.replicate (7 - (lg_sl ([.ref h0, .int 0])).length) Slot.unset).toArray = ls at hl ⊢
  have hl : lv_has ls 7 [(0, .ref h0), (1, .int 0)] := hl
  refine lv_aload_n hx hb dX4_surplusOf_0 rfl (lv_at hl 0 rfl) ?_
  refine va_get (D := D) (ci := 4) (v := .ref h1) (C := RX4) (T := TX4) (N := 2) hx hb hts hin4 hown hK hP 0 rfl rfl 0 (by decide) (hts (.fieldLink RX4 9 "MissedPoints$Parting" "net" "LMissedPoints$Net;") (by decide +kernel)) (fun _ h9 => h9) rfl dX4_surplusOf_1 ?_
  refine lv_iload_n hx hb dX4_surplusOf_4 rfl (lv_at hl 1 rfl) ?_
  have hPc := hP.sub (ws' := [(h1, .inr (2, [.ref h3, .int 0, .int 0]))]) [1] rfl
  refine lz_sv (As := [.int 0]) (rest := []) ⟨hx, hb, hml, hown, hts⟩ (c_X2_nearAny_0 l D cI cS h1 h3) hKK hPc (ci := 2) rfl rfl (cwV 1 hts gX4_surplusOf_X2_nearAny rfl rfl rfl (by decide +kernel) ⟨Nat.le_of_ble_eq_true rfl, Nat.le_of_ble_eq_true rfl⟩) rfl hl.1 rfl (Nat.le_of_ble_eq_true rfl) dX4_surplusOf_5 ⟨Nat.le_of_ble_eq_true rfl, Nat.le_of_ble_eq_true rfl⟩ (fun r2972 hw => ?_)
  subst hw
  refine lv_istore_n (lv' := [(2, .int 0), (0, .ref h0), (1, .int 0)]) hx hb dX4_surplusOf_8 rfl hl (by decide) rfl (fun ls hl => ?_)
  refine lv_aload_n hx hb dX4_surplusOf_9 rfl (lv_at hl 1 rfl) ?_
  refine va_get (D := D) (ci := 4) (v := .ref h2) (C := RX4) (T := TX4) (N := 2) hx hb hts hin4 hown hK hP 0 rfl rfl 1 (by decide) (hts (.fieldLink RX4 15 "MissedPoints$Parting" "pairs" "LMissedPoints$Pairs;") (by decide +kernel)) (fun _ h9 => h9) rfl dX4_surplusOf_10 ?_
  have hPc := hP.sub (ws' := [(h2, .inr (3, [.ref h1, .ref h4, .ref h5, .int 0])), (h1, .inr (2, [.ref h3, .int 0, .int 0]))]) [2, 1] rfl
  refine lz_sv (As := []) (rest := []) ⟨hx, hb, hml, hown, hts⟩ (c_X3_loosePoints_0 l D cI cS h2 h1 h4 h5 h3) hKK hPc (ci := 3) rfl rfl (cwV 0 hts gX4_surplusOf_X3_loosePoints rfl rfl rfl (by decide +kernel) ⟨Nat.le_of_ble_eq_true rfl, Nat.le_of_ble_eq_true rfl⟩) rfl hl.1 rfl (Nat.le_of_ble_eq_true rfl) dX4_surplusOf_13 ⟨Nat.le_of_ble_eq_true rfl, Nat.le_of_ble_eq_true rfl⟩ (fun r2973 hw => ?_)
  subst hw
  refine lv_istore_n (lv' := [(3, .int 0), (2, .int 0), (0, .ref h0), (1, .int 0)]) hx hb dX4_surplusOf_16 rfl hl (by decide) rfl (fun ls hl => ?_)
  refine lv_iload_n hx hb dX4_surplusOf_17 rfl (lv_at hl 3 rfl) ?_
  have hPc := hP.sub (ws' := []) [] rfl
  refine lz_ss (As := [.int 0]) (rest := []) ⟨hx, hb, hml, hown, hts⟩ (c_J6_bitCount_0f7a4_0 l D cI cS) hKK hPc (va_cwS 1 hts gX4_surplusOf_J6_bitCount_0f7a4 rfl rfl rfl (by decide +kernel) ⟨Nat.le_of_ble_eq_true rfl, Nat.le_of_ble_eq_true rfl⟩) rfl hl.1 rfl (Nat.le_of_ble_eq_true rfl) dX4_surplusOf_18 ⟨Nat.le_of_ble_eq_true rfl, Nat.le_of_ble_eq_true rfl⟩ (fun r2974 hw => ?_)
  subst hw
  refine lv_ineg hx hb dX4_surplusOf_21 ?_
  refine lz_top (y := 0) (by decide) ?_
  refine lv_istore (lv' := [(4, .int 0), (3, .int 0), (2, .int 0), (0, .ref h0), (1, .int 0)]) hx hb dX4_surplusOf_22 hl (by decide) rfl (fun ls hl => ?_)
  refine lv_iconst (v := 0) hx hb dX4_surplusOf_24 (by decide) ?_
  refine lv_istore (lv' := [(5, .int 0), (4, .int 0), (3, .int 0), (2, .int 0), (0, .ref h0), (1, .int 0)]) hx hb dX4_surplusOf_25 hl (by decide) rfl (fun ls hl => ?_)
  refine lv_iload hx hb dX4_surplusOf_27 (lv_at hl 0 rfl) ?_
  refine lv_bipush (v := 12) hx hb dX4_surplusOf_29 (by decide) ?_
  refine lv_icmp_ge (tgt := 74) hx hb dX4_surplusOf_31 (by decide) (fun c2975 => ?_) (fun c2975 => ?_)
  · exact absurd c2975 (by decide)
  · refine lv_iload_n hx hb dX4_surplusOf_34 rfl (lv_at hl 2 rfl) ?_
    refine lv_if_eq (tgt := 74) hx hb dX4_surplusOf_35 (by decide) (fun c2976 => ?_) (fun c2976 => ?_)
    · refine lv_iload hx hb dX4_surplusOf_74 (lv_at hl 1 rfl) ?_
      exact W.iret (v := 0) hx hb hr (fun t ht hW => ⟨_, rfl, rfl, ht⟩) (fun q hq => absurd hq List.not_mem_nil) dX4_surplusOf_76
    · exact absurd c2976 (by decide)
set_option maxHeartbeats 4000000 in
set_option maxRecDepth 100000 in
theorem c_X11_surplus_0 (l : Launch) (D : va_G) (cI cS : ClassId) (h0 h1 h2 h3 h4 h5 h6 h7 h8 h9 h10 h11 h12 h13 h14 h15 h16 h17 : Nat) (x0 : Int32) : Met l yX11_surplus wsX11_surplus ({ frames := 5, cells := 0, slots := 0, locals := 200 }) (PS D cI cS [(h0, .inr (11, [.ref h1, .ref h2, .ref h3, .ref h4, .ref h5, .ref h6, .ref h7, .int 0, .int 0, .ref h8, .ref h9, .ref h10, .ref h11, .ref h12, .ref h13, .ref h14])), (h1, .inr (2, [.ref h15, .int 0, .int 0])), (h2, .inr (3, [.ref h1, .ref h16, .ref h17, .int 0])), (h3, .inr (4, [.ref h1, .ref h2]))] [.ref h0, .int x0]) (vp_Si (fun r => r = if x0 = 0 then (0 : Int32) else ((-2) : Int32))) 0 0 (fun _ => False) := by
  refine Met.ofW (cc := cX11_surplus) (maxL := 2) (ret := (some .int)) (by decide) rfl ?_
  intro p e s m args below meth c s₁ B hml hv
  obtain ⟨rfl, hP, hKK⟩ := hv
  have hx := B.exec
  have hb := B.bytes
  have hr := B.returns
  have hts := atoms_spec (ws := wsX11_surplus) B.pre
  have hown : s.vm.findClass RX11 = some m.cls := findClass_of_methodNamed B.named
  have hlocks := B.notSynchronized
  have hK := hKK.1
  have hN := hKK.2
  have hin11 : ∀ w ∈ wsX110, w ∈ wsX11_surplus := by decide +kernel
  have hl := lv_entry ([.ref h0, .int x0]) (n := 2) (Nat.le_of_ble_eq_true rfl)
  rw [lg_entry_eq]
  generalize (lg_sl ([.ref h0, .int x0]) ++ List.replicate (2 - (lg_sl ([.ref h0, .int x0])).length) Slot.unset).toArray = ls at hl ⊢
  have hl : lv_has ls 2 [(0, .ref h0), (1, .int x0)] := hl
  refine lv_iload_n hx hb dX11_surplus_0 rfl (lv_at hl 1 rfl) ?_
  refine lv_aload_n hx hb dX11_surplus_1 rfl (lv_at hl 0 rfl) ?_
  refine va_get (D := D) (ci := 11) (v := .ref h3) (C := RX11) (T := TX11) (N := 16) hx hb hts hin11 hown hK hP 0 rfl rfl 2 (by decide) (hts (.fieldLink RX11 30 "MissedPoints" "parting" "LMissedPoints$Parting;") (by decide +kernel)) (fun _ h9 => h9) rfl dX11_surplus_2 ?_
  refine lv_iconst (v := 1) hx hb dX11_surplus_5 (by decide) ?_
  have hPc := hP.sub (ws' := [(h3, .inr (4, [.ref h1, .ref h2])), (h1, .inr (2, [.ref h15, .int 0, .int 0])), (h2, .inr (3, [.ref h1, .ref h16, .ref h17, .int 0]))]) [3, 1, 2] rfl
  refine lz_sv (As := [.int 1]) (rest := [.int x0]) ⟨hx, hb, hml, hown, hts⟩ (c_X4_allOf_3 l D cI cS h3 h1 h2 h15 h16 h17) hKK hPc (ci := 4) rfl rfl (cwV 1 hts gX11_surplus_X4_allOf rfl rfl rfl (by decide +kernel) ⟨Nat.le_of_ble_eq_true rfl, Nat.le_of_ble_eq_true rfl⟩) rfl hl.1 rfl (Nat.le_of_ble_eq_true rfl) dX11_surplus_6 ⟨Nat.le_of_ble_eq_true rfl, Nat.le_of_ble_eq_true rfl⟩ (fun r2978 hw => ?_)
  subst hw
  refine lv_iconst (v := (-1)) hx hb dX11_surplus_9 (by decide) ?_
  refine lv_ixor hx hb dX11_surplus_10 ?_
  refine lz_top (y := (-1)) (by decide) ?_
  refine lv_iand hx hb dX11_surplus_11 ?_
  refine lz_top (y := x0) (by simp) ?_
  refine lv_if_eq (tgt := 20) hx hb dX11_surplus_12 (by decide) (fun c2979 => ?_) (fun c2979 => ?_)
  · subst c2979
    refine lv_aload_n hx hb dX11_surplus_20 rfl (lv_at hl 0 rfl) ?_
    refine va_get (D := D) (ci := 11) (v := .ref h3) (C := RX11) (T := TX11) (N := 16) hx hb hts hin11 hown hK hP 0 rfl rfl 2 (by decide) (hts (.fieldLink RX11 30 "MissedPoints" "parting" "LMissedPoints$Parting;") (by decide +kernel)) (fun _ h9 => h9) rfl dX11_surplus_21 ?_
    refine lv_iload_n hx hb dX11_surplus_24 rfl (lv_at hl 1 rfl) ?_
    have hPc := hP.sub (ws' := [(h3, .inr (4, [.ref h1, .ref h2])), (h1, .inr (2, [.ref h15, .int 0, .int 0])), (h2, .inr (3, [.ref h1, .ref h16, .ref h17, .int 0]))]) [3, 1, 2] rfl
    refine lz_sv (As := [.int 0]) (rest := []) ⟨hx, hb, hml, hown, hts⟩ (c_X4_surplusOf_0 l D cI cS h3 h1 h2 h15 h16 h17) hKK hPc (ci := 4) rfl rfl (cwV 1 hts gX11_surplus_X4_surplusOf rfl rfl rfl (by decide +kernel) ⟨Nat.le_of_ble_eq_true rfl, Nat.le_of_ble_eq_true rfl⟩) rfl hl.1 rfl (Nat.le_of_ble_eq_true rfl) dX11_surplus_25 ⟨Nat.le_of_ble_eq_true rfl, Nat.le_of_ble_eq_true rfl⟩ (fun r2980 hw => ?_)
    subst hw
    exact W.iret (v := 0) hx hb hr (fun t ht hW => ⟨_, rfl, by rw [if_pos rfl], ht⟩) (fun q hq => absurd hq List.not_mem_nil) dX11_surplus_28
  · refine lv_bipush (v := (-2)) hx hb dX11_surplus_15 (by decide) ?_
    refine lv_goto (tgt := 28) hx hb dX11_surplus_17 (by decide) ?_
    exact W.iret (v := (-2)) hx hb hr (fun t ht hW => ⟨_, rfl, by rw [if_neg c2979], ht⟩) (fun q hq => absurd hq List.not_mem_nil) dX11_surplus_28
set_option maxHeartbeats 4000000 in
set_option maxRecDepth 100000 in
theorem c_X2_oddPieceCount_0 (l : Launch) (D : va_G) (cI cS : ClassId) (h0 h1 : Nat) : Met l yX2_oddPieceCount wsX2_oddPieceCount ({ frames := 1, cells := 0, slots := 0, locals := 40 }) (PS D cI cS [(h0, .inr (2, [.ref h1, .int 0, .int 0]))] [.ref h0, .int 0]) (vp_Si (fun r => r = (0 : Int32))) 0 0 (fun _ => False) := by
  refine Met.ofW (cc := cX2_oddPieceCount) (maxL := 6) (ret := (some .int)) (by decide) rfl ?_
  intro p e s m args below meth c s₁ B hml hv
  obtain ⟨rfl, hP, hKK⟩ := hv
  have hx := B.exec
  have hb := B.bytes
  have hr := B.returns
  have hts := atoms_spec (ws := wsX2_oddPieceCount) B.pre
  have hown : s.vm.findClass RX2 = some m.cls := findClass_of_methodNamed B.named
  have hlocks := B.notSynchronized
  have hK := hKK.1
  have hN := hKK.2
  have hl := lv_entry ([.ref h0, .int 0]) (n := 6) (Nat.le_of_ble_eq_true rfl)
  rw [lg_entry_eq]
  generalize (lg_sl ([.ref h0, .int 0]) ++ List.replicate (6 - (lg_sl ([.ref h0, .int 0])).length) Slot.unset).toArray = ls at hl ⊢
  have hl : lv_has ls 6 [(0, .ref h0), (1, .int 0)] := hl
  refine lv_iload_n hx hb dX2_oddPieceCount_0 rfl (lv_at hl 1 rfl) ?_
  refine lv_aload_n hx hb dX2_oddPieceCount_1 rfl (lv_at hl 0 rfl) ?_
  have hPc := hP.sub (ws' := [(h0, .inr (2, [.ref h1, .int 0, .int 0]))]) [0] rfl
  refine lz_sv (As := []) (rest := [.int 0]) ⟨hx, hb, hml, hown, hts⟩ (c_X2_all_0 l D cI cS h0 h1) hKK hPc (ci := 2) rfl rfl (cwV 0 hts gX2_oddPieceCount_X2_all rfl rfl rfl (by decide +kernel) ⟨Nat.le_of_ble_eq_true rfl, Nat.le_of_ble_eq_true rfl⟩) rfl hl.1 rfl (Nat.le_of_ble_eq_true rfl) dX2_oddPieceCount_2 ⟨Nat.le_of_ble_eq_true rfl, Nat.le_of_ble_eq_true rfl⟩ (fun r2988 hw => ?_)
  subst hw
  refine lv_iand hx hb dX2_oddPieceCount_5 ?_
  refine lz_top (y := 0) (by decide) ?_
  refine lv_istore_n (lv' := [(2, .int 0), (0, .ref h0), (1, .int 0)]) hx hb dX2_oddPieceCount_6 rfl hl (by decide) rfl (fun ls hl => ?_)
  refine lv_iconst (v := 0) hx hb dX2_oddPieceCount_7 (by decide) ?_
  refine lv_istore_n (lv' := [(3, .int 0), (2, .int 0), (0, .ref h0), (1, .int 0)]) hx hb dX2_oddPieceCount_8 rfl hl (by decide) rfl (fun ls hl => ?_)
  refine lv_iconst (v := 0) hx hb dX2_oddPieceCount_9 (by decide) ?_
  refine lv_istore (lv' := [(4, .int 0), (3, .int 0), (2, .int 0), (0, .ref h0), (1, .int 0)]) hx hb dX2_oddPieceCount_10 hl (by decide) rfl (fun ls hl => ?_)
  refine lv_iload hx hb dX2_oddPieceCount_12 (lv_at hl 0 rfl) ?_
  refine lv_bipush (v := 12) hx hb dX2_oddPieceCount_14 (by decide) ?_
  refine lv_icmp_ge (tgt := 56) hx hb dX2_oddPieceCount_16 (by decide) (fun c2989 => ?_) (fun c2989 => ?_)
  · exact absurd c2989 (by decide)
  · refine lv_iload_n hx hb dX2_oddPieceCount_19 rfl (lv_at hl 2 rfl) ?_
    refine lv_if_eq (tgt := 56) hx hb dX2_oddPieceCount_20 (by decide) (fun c2990 => ?_) (fun c2990 => ?_)
    · refine lv_iload_n hx hb dX2_oddPieceCount_56 rfl (lv_at hl 1 rfl) ?_
      exact W.iret (v := 0) hx hb hr (fun t ht hW => ⟨_, rfl, rfl, ht⟩) (fun q hq => absurd hq List.not_mem_nil) dX2_oddPieceCount_57
    · exact absurd c2990 (by decide)
set_option maxHeartbeats 4000000 in
set_option maxRecDepth 100000 in
theorem c_X10_oddWithout_0 (l : Launch) (D : va_G) (cI cS : ClassId) (h0 h1 h2 h3 h4 : Nat) : Met l yX10_oddWithout wsX10_oddWithout ({ frames := 2, cells := 0, slots := 0, locals := 80 }) (PS D cI cS [(h0, .inr (10, [.ref h1, .ref h2, .ref h3, .int 0, .int 0, .int 0, .int 0, .int (-1)])), (h1, .inr (2, [.ref h4, .int 0, .int 0]))] [.ref h0, .int 0]) (vp_Si (fun r => r = (0 : Int32))) 0 0 (fun _ => False) := by
  refine Met.ofW (cc := cX10_oddWithout) (maxL := 2) (ret := (some .int)) (by decide) rfl ?_
  intro p e s m args below meth c s₁ B hml hv
  obtain ⟨rfl, hP, hKK⟩ := hv
  have hx := B.exec
  have hb := B.bytes
  have hr := B.returns
  have hts := atoms_spec (ws := wsX10_oddWithout) B.pre
  have hown : s.vm.findClass RX10 = some m.cls := findClass_of_methodNamed B.named
  have hlocks := B.notSynchronized
  have hK := hKK.1
  have hN := hKK.2
  have hin10 : ∀ w ∈ wsX100, w ∈ wsX10_oddWithout := by decide +kernel
  have hl := lv_entry ([.ref h0, .int 0]) (n := 2) (Nat.le_of_ble_eq_true rfl)
  rw [lg_entry_eq]
  generalize (lg_sl ([.ref h0, .int 0]) ++ List.replicate (2 - (lg_sl ([.ref h0, .int 0])).length) Slot.unset).toArray = ls at hl ⊢
  have hl : lv_has ls 2 [(0, .ref h0), (1, .int 0)] := hl
  refine lv_aload_n hx hb dX10_oddWithout_0 rfl (lv_at hl 0 rfl) ?_
  refine va_get (D := D) (ci := 10) (v := .ref h1) (C := RX10) (T := TX10) (N := 8) hx hb hts hin10 hown hK hP 0 rfl rfl 0 (by decide) (hts (.fieldLink RX10 19 "MissedPoints$Witness" "net" "LMissedPoints$Net;") (by decide +kernel)) (fun _ h9 => h9) rfl dX10_oddWithout_1 ?_
  refine lv_aload_n hx hb dX10_oddWithout_4 rfl (lv_at hl 0 rfl) ?_
  refine va_get (D := D) (ci := 10) (v := .ref h1) (C := RX10) (T := TX10) (N := 8) hx hb hts hin10 hown hK hP 0 rfl rfl 0 (by decide) (hts (.fieldLink RX10 19 "MissedPoints$Witness" "net" "LMissedPoints$Net;") (by decide +kernel)) (fun _ h9 => h9) rfl dX10_oddWithout_5 ?_
  have hPc := hP.sub (ws' := [(h1, .inr (2, [.ref h4, .int 0, .int 0]))]) [1] rfl
  refine lz_sv (As := []) (rest := [.ref h1]) ⟨hx, hb, hml, hown, hts⟩ (c_X2_all_0 l D cI cS h1 h4) hKK hPc (ci := 2) rfl rfl (cwV 0 hts gX10_oddWithout_X2_all rfl rfl rfl (by decide +kernel) ⟨Nat.le_of_ble_eq_true rfl, Nat.le_of_ble_eq_true rfl⟩) rfl hl.1 rfl (Nat.le_of_ble_eq_true rfl) dX10_oddWithout_8 ⟨Nat.le_of_ble_eq_true rfl, Nat.le_of_ble_eq_true rfl⟩ (fun r2992 hw => ?_)
  subst hw
  refine lv_iload_n hx hb dX10_oddWithout_11 rfl (lv_at hl 1 rfl) ?_
  refine lv_iconst (v := (-1)) hx hb dX10_oddWithout_12 (by decide) ?_
  refine lv_ixor hx hb dX10_oddWithout_13 ?_
  refine lz_top (y := (-1)) (by decide) ?_
  refine lv_iand hx hb dX10_oddWithout_14 ?_
  refine lz_top (y := 0) (by decide) ?_
  have hPc := hP.sub (ws' := [(h1, .inr (2, [.ref h4, .int 0, .int 0]))]) [1] rfl
  refine lz_sv (As := [.int 0]) (rest := []) ⟨hx, hb, hml, hown, hts⟩ (c_X2_oddPieceCount_0 l D cI cS h1 h4) hKK hPc (ci := 2) rfl rfl (cwV 1 hts gX10_oddWithout_X2_oddPieceCount rfl rfl rfl (by decide +kernel) ⟨Nat.le_of_ble_eq_true rfl, Nat.le_of_ble_eq_true rfl⟩) rfl hl.1 rfl (Nat.le_of_ble_eq_true rfl) dX10_oddWithout_15 ⟨Nat.le_of_ble_eq_true rfl, Nat.le_of_ble_eq_true rfl⟩ (fun r2993 hw => ?_)
  subst hw
  exact W.iret (v := 0) hx hb hr (fun t ht hW => ⟨_, rfl, rfl, ht⟩) (fun q hq => absurd hq List.not_mem_nil) dX10_oddWithout_18
set_option maxHeartbeats 4000000 in
set_option maxRecDepth 100000 in
theorem c_X11_odd_0 (l : Launch) (D : va_G) (cI cS : ClassId) (h0 h1 h2 h3 h4 h5 h6 h7 h8 h9 h10 h11 h12 h13 h14 h15 h18 : Nat) (x0 : Int32) : Met l yX11_odd wsX11_odd ({ frames := 3, cells := 0, slots := 0, locals := 120 }) (PS D cI cS [(h0, .inr (11, [.ref h1, .ref h2, .ref h3, .ref h4, .ref h5, .ref h6, .ref h7, .int 0, .int 0, .ref h8, .ref h9, .ref h10, .ref h11, .ref h12, .ref h13, .ref h14])), (h1, .inr (2, [.ref h15, .int 0, .int 0])), (h4, .inr (10, [.ref h1, .ref h2, .ref h18, .int 0, .int 0, .int 0, .int 0, .int (-1)]))] [.ref h0, .int x0]) (vp_Si (fun r => r = if x0 = 0 then (0 : Int32) else ((-2) : Int32))) 0 0 (fun _ => False) := by
  refine Met.ofW (cc := cX11_odd) (maxL := 2) (ret := (some .int)) (by decide) rfl ?_
  intro p e s m args below meth c s₁ B hml hv
  obtain ⟨rfl, hP, hKK⟩ := hv
  have hx := B.exec
  have hb := B.bytes
  have hr := B.returns
  have hts := atoms_spec (ws := wsX11_odd) B.pre
  have hown : s.vm.findClass RX11 = some m.cls := findClass_of_methodNamed B.named
  have hlocks := B.notSynchronized
  have hK := hKK.1
  have hN := hKK.2
  have hin11 : ∀ w ∈ wsX110, w ∈ wsX11_odd := by decide +kernel
  have hl := lv_entry ([.ref h0, .int x0]) (n := 2) (Nat.le_of_ble_eq_true rfl)
  rw [lg_entry_eq]
  generalize (lg_sl ([.ref h0, .int x0]) ++ List.replicate (2 - (lg_sl ([.ref h0, .int x0])).length) Slot.unset).toArray = ls at hl ⊢
  have hl : lv_has ls 2 [(0, .ref h0), (1, .int x0)] := hl
  refine lv_aload_n hx hb dX11_odd_0 rfl (lv_at hl 0 rfl) ?_
  refine va_get (D := D) (ci := 11) (v := .ref h1) (C := RX11) (T := TX11) (N := 16) hx hb hts hin11 hown hK hP 0 rfl rfl 0 (by decide) (hts (.fieldLink RX11 12 "MissedPoints" "net" "LMissedPoints$Net;") (by decide +kernel)) (fun _ h9 => h9) rfl dX11_odd_1 ?_
  refine lv_iload_n hx hb dX11_odd_4 rfl (lv_at hl 1 rfl) ?_
  have hPc := hP.sub (ws' := [(h1, .inr (2, [.ref h15, .int 0, .int 0]))]) [1] rfl
  refine lz_sv (As := [.int x0]) (rest := []) ⟨hx, hb, hml, hown, hts⟩ (c_X2_hasAll_0 l D cI cS h1 h15 x0) hKK hPc (ci := 2) rfl rfl (cwV 1 hts gX11_odd_X2_hasAll rfl rfl rfl (by decide +kernel) ⟨Nat.le_of_ble_eq_true rfl, Nat.le_of_ble_eq_true rfl⟩) rfl hl.1 rfl (Nat.le_of_ble_eq_true rfl) dX11_odd_5 ⟨Nat.le_of_ble_eq_true rfl, Nat.le_of_ble_eq_true rfl⟩ (fun r2996 hw => ?_)
  by_cases k2997 : x0 = 0
  · rw [if_pos k2997] at hw
    subst k2997
    subst hw
    refine lv_if_eq (tgt := 22) hx hb dX11_odd_8 (by decide) (fun c2998 => ?_) (fun c2998 => ?_)
    · exact absurd c2998 (by decide)
    · refine lv_aload_n hx hb dX11_odd_11 rfl (lv_at hl 0 rfl) ?_
      refine va_get (D := D) (ci := 11) (v := .ref h4) (C := RX11) (T := TX11) (N := 16) hx hb hts hin11 hown hK hP 0 rfl rfl 3 (by decide) (hts (.fieldLink RX11 37 "MissedPoints" "witness" "LMissedPoints$Witness;") (by decide +kernel)) (fun _ h9 => h9) rfl dX11_odd_12 ?_
      refine lv_iload_n hx hb dX11_odd_15 rfl (lv_at hl 1 rfl) ?_
      have hPc := hP.sub (ws' := [(h4, .inr (10, [.ref h1, .ref h2, .ref h18, .int 0, .int 0, .int 0, .int 0, .int (-1)])), (h1, .inr (2, [.ref h15, .int 0, .int 0]))]) [2, 1] rfl
      refine lz_sv (As := [.int 0]) (rest := []) ⟨hx, hb, hml, hown, hts⟩ (c_X10_oddWithout_0 l D cI cS h4 h1 h2 h18 h15) hKK hPc (ci := 10) rfl rfl (cwV 1 hts gX11_odd_X10_oddWithout rfl rfl rfl (by decide +kernel) ⟨Nat.le_of_ble_eq_true rfl, Nat.le_of_ble_eq_true rfl⟩) rfl hl.1 rfl (Nat.le_of_ble_eq_true rfl) dX11_odd_16 ⟨Nat.le_of_ble_eq_true rfl, Nat.le_of_ble_eq_true rfl⟩ (fun r2999 hw => ?_)
      subst hw
      refine lv_goto (tgt := 24) hx hb dX11_odd_19 (by decide) ?_
      exact W.iret (v := 0) hx hb hr (fun t ht hW => ⟨_, rfl, by rw [if_pos rfl], ht⟩) (fun q hq => absurd hq List.not_mem_nil) dX11_odd_24
  · rw [if_neg k2997] at hw
    subst hw
    refine lv_if_eq (tgt := 22) hx hb dX11_odd_8 (by decide) (fun c3000 => ?_) (fun c3000 => ?_)
    · refine lv_bipush (v := (-2)) hx hb dX11_odd_22 (by decide) ?_
      exact W.iret (v := (-2)) hx hb hr (fun t ht hW => ⟨_, rfl, by rw [if_neg k2997], ht⟩) (fun q hq => absurd hq List.not_mem_nil) dX11_odd_24
    · exact absurd c3000 (by decide)
set_option maxHeartbeats 4000000 in
set_option maxRecDepth 100000 in
theorem c_X10_isBarrier_0 (l : Launch) (D : va_G) (cI cS : ClassId) (h0 h1 h2 h3 h4 h5 h6 : Nat) : Met l yX10_isBarrier wsX10_isBarrier ({ frames := 4, cells := 0, slots := 0, locals := 160 }) (PS D cI cS [(h0, .inr (10, [.ref h1, .ref h2, .ref h3, .int 0, .int 0, .int 0, .int 0, .int (-1)])), (h1, .inr (2, [.ref h4, .int 0, .int 0])), (h2, .inr (3, [.ref h1, .ref h5, .ref h6, .int 0]))] [.ref h0, .int 0]) (vp_Si (fun r => r = (1 : Int32))) 0 0 (fun _ => False) := by
  refine Met.ofW (cc := cX10_isBarrier) (maxL := 2) (ret := (some .boolean)) (by decide) rfl ?_
  intro p e s m args below meth c s₁ B hml hv
  obtain ⟨rfl, hP, hKK⟩ := hv
  have hx := B.exec
  have hb := B.bytes
  have hr := B.returns
  have hts := atoms_spec (ws := wsX10_isBarrier) B.pre
  have hown : s.vm.findClass RX10 = some m.cls := findClass_of_methodNamed B.named
  have hlocks := B.notSynchronized
  have hK := hKK.1
  have hN := hKK.2
  have hin10 : ∀ w ∈ wsX100, w ∈ wsX10_isBarrier := by decide +kernel
  have hl := lv_entry ([.ref h0, .int 0]) (n := 2) (Nat.le_of_ble_eq_true rfl)
  rw [lg_entry_eq]
  generalize (lg_sl ([.ref h0, .int 0]) ++ List.replicate (2 - (lg_sl ([.ref h0, .int 0])).length) Slot.unset).toArray = ls at hl ⊢
  have hl : lv_has ls 2 [(0, .ref h0), (1, .int 0)] := hl
  refine lv_aload_n hx hb dX10_isBarrier_0 rfl (lv_at hl 0 rfl) ?_
  refine lv_iload_n hx hb dX10_isBarrier_1 rfl (lv_at hl 1 rfl) ?_
  have hPc := hP.sub (ws' := [(h0, .inr (10, [.ref h1, .ref h2, .ref h3, .int 0, .int 0, .int 0, .int 0, .int (-1)])), (h1, .inr (2, [.ref h4, .int 0, .int 0]))]) [0, 1] rfl
  refine lz_sv (As := [.int 0]) (rest := []) ⟨hx, hb, hml, hown, hts⟩ (c_X10_oddWithout_0 l D cI cS h0 h1 h2 h3 h4) hKK hPc (ci := 10) rfl rfl (cwV 1 hts gX10_isBarrier_X10_oddWithout rfl rfl rfl (by decide +kernel) ⟨Nat.le_of_ble_eq_true rfl, Nat.le_of_ble_eq_true rfl⟩) rfl hl.1 rfl (Nat.le_of_ble_eq_true rfl) dX10_isBarrier_2 ⟨Nat.le_of_ble_eq_true rfl, Nat.le_of_ble_eq_true rfl⟩ (fun r3009 hw => ?_)
  subst hw
  refine lv_iload_n hx hb dX10_isBarrier_5 rfl (lv_at hl 1 rfl) ?_
  have hPc := hP.sub (ws' := []) [] rfl
  refine lz_ss (As := [.int 0]) (rest := [.int 0]) ⟨hx, hb, hml, hown, hts⟩ (c_J6_bitCount_0f7a4_0 l D cI cS) hKK hPc (va_cwS 1 hts gX10_isBarrier_J6_bitCount_0f7a4 rfl rfl rfl (by decide +kernel) ⟨Nat.le_of_ble_eq_true rfl, Nat.le_of_ble_eq_true rfl⟩) rfl hl.1 rfl (Nat.le_of_ble_eq_true rfl) dX10_isBarrier_6 ⟨Nat.le_of_ble_eq_true rfl, Nat.le_of_ble_eq_true rfl⟩ (fun r3010 hw => ?_)
  subst hw
  refine lv_isub hx hb dX10_isBarrier_9 ?_
  refine lz_top (y := 0) (by decide) ?_
  refine lv_aload_n hx hb dX10_isBarrier_10 rfl (lv_at hl 0 rfl) ?_
  refine va_get (D := D) (ci := 10) (v := .ref h2) (C := RX10) (T := TX10) (N := 8) hx hb hts hin10 hown hK hP 0 rfl rfl 1 (by decide) (hts (.fieldLink RX10 23 "MissedPoints$Witness" "pairs" "LMissedPoints$Pairs;") (by decide +kernel)) (fun _ h9 => h9) rfl dX10_isBarrier_11 ?_
  refine lv_aload_n hx hb dX10_isBarrier_14 rfl (lv_at hl 0 rfl) ?_
  refine va_get (D := D) (ci := 10) (v := .ref h1) (C := RX10) (T := TX10) (N := 8) hx hb hts hin10 hown hK hP 0 rfl rfl 0 (by decide) (hts (.fieldLink RX10 19 "MissedPoints$Witness" "net" "LMissedPoints$Net;") (by decide +kernel)) (fun _ h9 => h9) rfl dX10_isBarrier_15 ?_
  have hPc := hP.sub (ws' := [(h1, .inr (2, [.ref h4, .int 0, .int 0]))]) [1] rfl
  refine lz_sv (As := []) (rest := [.ref h2, .int 0]) ⟨hx, hb, hml, hown, hts⟩ (c_X2_all_0 l D cI cS h1 h4) hKK hPc (ci := 2) rfl rfl (cwV 0 hts gX10_isBarrier_X2_all rfl rfl rfl (by decide +kernel) ⟨Nat.le_of_ble_eq_true rfl, Nat.le_of_ble_eq_true rfl⟩) rfl hl.1 rfl (Nat.le_of_ble_eq_true rfl) dX10_isBarrier_18 ⟨Nat.le_of_ble_eq_true rfl, Nat.le_of_ble_eq_true rfl⟩ (fun r3011 hw => ?_)
  subst hw
  have hPc := hP.sub (ws' := [(h2, .inr (3, [.ref h1, .ref h5, .ref h6, .int 0])), (h1, .inr (2, [.ref h4, .int 0, .int 0]))]) [2, 1] rfl
  refine lz_sv (As := [.int 0]) (rest := [.int 0]) ⟨hx, hb, hml, hown, hts⟩ (c_X3_lack_0 l D cI cS h2 h1 h5 h6 h4) hKK hPc (ci := 3) rfl rfl (cwV 1 hts gX10_isBarrier_X3_lack rfl rfl rfl (by decide +kernel) ⟨Nat.le_of_ble_eq_true rfl, Nat.le_of_ble_eq_true rfl⟩) rfl hl.1 rfl (Nat.le_of_ble_eq_true rfl) dX10_isBarrier_21 ⟨Nat.le_of_ble_eq_true rfl, Nat.le_of_ble_eq_true rfl⟩ (fun r3012 hw => ?_)
  subst hw
  refine lv_icmp_ne (tgt := 31) hx hb dX10_isBarrier_24 (by decide) (fun c3013 => ?_) (fun c3013 => ?_)
  · exact absurd c3013 (by decide)
  · refine lv_iconst (v := 1) hx hb dX10_isBarrier_27 (by decide) ?_
    refine lv_goto (tgt := 32) hx hb dX10_isBarrier_28 (by decide) ?_
    exact W.zret (v := 1) hx hb hr (by decide) (fun t ht hW => ⟨_, rfl, rfl, ht⟩) (fun q hq => absurd hq List.not_mem_nil) dX10_isBarrier_32
set_option maxHeartbeats 4000000 in
set_option maxRecDepth 100000 in
theorem c_X11_barrier_0 (l : Launch) (D : va_G) (cI cS : ClassId) (h0 h1 h2 h3 h4 h5 h6 h7 h8 h9 h10 h11 h12 h13 h14 h15 h16 h17 h18 : Nat) (x0 : Int32) : Met l yX11_barrier wsX11_barrier ({ frames := 5, cells := 0, slots := 0, locals := 200 }) (PS D cI cS [(h0, .inr (11, [.ref h1, .ref h2, .ref h3, .ref h4, .ref h5, .ref h6, .ref h7, .int 0, .int 0, .ref h8, .ref h9, .ref h10, .ref h11, .ref h12, .ref h13, .ref h14])), (h1, .inr (2, [.ref h15, .int 0, .int 0])), (h2, .inr (3, [.ref h1, .ref h16, .ref h17, .int 0])), (h4, .inr (10, [.ref h1, .ref h2, .ref h18, .int 0, .int 0, .int 0, .int 0, .int (-1)]))] [.ref h0, .int x0]) (vp_Si (fun r => r = if x0 = 0 then (1 : Int32) else ((-2) : Int32))) 0 0 (fun _ => False) := by
  refine Met.ofW (cc := cX11_barrier) (maxL := 2) (ret := (some .int)) (by decide) rfl ?_
  intro p e s m args below meth c s₁ B hml hv
  obtain ⟨rfl, hP, hKK⟩ := hv
  have hx := B.exec
  have hb := B.bytes
  have hr := B.returns
  have hts := atoms_spec (ws := wsX11_barrier) B.pre
  have hown : s.vm.findClass RX11 = some m.cls := findClass_of_methodNamed B.named
  have hlocks := B.notSynchronized
  have hK := hKK.1
  have hN := hKK.2
  have hin11 : ∀ w ∈ wsX110, w ∈ wsX11_barrier := by decide +kernel
  have hl := lv_entry ([.ref h0, .int x0]) (n := 2) (Nat.le_of_ble_eq_true rfl)
  rw [lg_entry_eq]
  generalize (lg_sl ([.ref h0, .int x0]) ++ List.replicate (2 - (lg_sl ([.ref h0, .int x0])).length) Slot.unset).toArray = ls at hl ⊢
  have hl : lv_has ls 2 [(0, .ref h0), (1, .int x0)] := hl
  refine lv_aload_n hx hb dX11_barrier_0 rfl (lv_at hl 0 rfl) ?_
  refine va_get (D := D) (ci := 11) (v := .ref h1) (C := RX11) (T := TX11) (N := 16) hx hb hts hin11 hown hK hP 0 rfl rfl 0 (by decide) (hts (.fieldLink RX11 12 "MissedPoints" "net" "LMissedPoints$Net;") (by decide +kernel)) (fun _ h9 => h9) rfl dX11_barrier_1 ?_
  refine lv_iload_n hx hb dX11_barrier_4 rfl (lv_at hl 1 rfl) ?_
  have hPc := hP.sub (ws' := [(h1, .inr (2, [.ref h15, .int 0, .int 0]))]) [1] rfl
  refine lz_sv (As := [.int x0]) (rest := []) ⟨hx, hb, hml, hown, hts⟩ (c_X2_hasAll_0 l D cI cS h1 h15 x0) hKK hPc (ci := 2) rfl rfl (cwV 1 hts gX11_barrier_X2_hasAll rfl rfl rfl (by decide +kernel) ⟨Nat.le_of_ble_eq_true rfl, Nat.le_of_ble_eq_true rfl⟩) rfl hl.1 rfl (Nat.le_of_ble_eq_true rfl) dX11_barrier_5 ⟨Nat.le_of_ble_eq_true rfl, Nat.le_of_ble_eq_true rfl⟩ (fun r3017 hw => ?_)
  by_cases k3018 : x0 = 0
  · rw [if_pos k3018] at hw
    subst k3018
    subst hw
    refine lv_if_ne (tgt := 14) hx hb dX11_barrier_8 (by decide) (fun c3019 => ?_) (fun c3019 => ?_)
    · refine lv_aload_n hx hb dX11_barrier_14 rfl (lv_at hl 0 rfl) ?_
      refine va_get (D := D) (ci := 11) (v := .ref h4) (C := RX11) (T := TX11) (N := 16) hx hb hts hin11 hown hK hP 0 rfl rfl 3 (by decide) (hts (.fieldLink RX11 37 "MissedPoints" "witness" "LMissedPoints$Witness;") (by decide +kernel)) (fun _ h9 => h9) rfl dX11_barrier_15 ?_
      refine lv_iload_n hx hb dX11_barrier_18 rfl (lv_at hl 1 rfl) ?_
      have hPc := hP.sub (ws' := [(h4, .inr (10, [.ref h1, .ref h2, .ref h18, .int 0, .int 0, .int 0, .int 0, .int (-1)])), (h1, .inr (2, [.ref h15, .int 0, .int 0])), (h2, .inr (3, [.ref h1, .ref h16, .ref h17, .int 0]))]) [3, 1, 2] rfl
      refine lz_sv (As := [.int 0]) (rest := []) ⟨hx, hb, hml, hown, hts⟩ (c_X10_isBarrier_0 l D cI cS h4 h1 h2 h18 h15 h16 h17) hKK hPc (ci := 10) rfl rfl (cwV 1 hts gX11_barrier_X10_isBarrier rfl rfl rfl (by decide +kernel) ⟨Nat.le_of_ble_eq_true rfl, Nat.le_of_ble_eq_true rfl⟩) rfl hl.1 rfl (Nat.le_of_ble_eq_true rfl) dX11_barrier_19 ⟨Nat.le_of_ble_eq_true rfl, Nat.le_of_ble_eq_true rfl⟩ (fun r3020 hw => ?_)
      subst hw
      refine lv_if_eq (tgt := 29) hx hb dX11_barrier_22 (by decide) (fun c3021 => ?_) (fun c3021 => ?_)
      · exact absurd c3021 (by decide)
      · refine lv_iconst (v := 1) hx hb dX11_barrier_25 (by decide) ?_
        refine lv_goto (tgt := 30) hx hb dX11_barrier_26 (by decide) ?_
        exact W.iret (v := 1) hx hb hr (fun t ht hW => ⟨_, rfl, by rw [if_pos rfl], ht⟩) (fun q hq => absurd hq List.not_mem_nil) dX11_barrier_30
    · exact absurd c3019 (by decide)
  · rw [if_neg k3018] at hw
    subst hw
    refine lv_if_ne (tgt := 14) hx hb dX11_barrier_8 (by decide) (fun c3022 => ?_) (fun c3022 => ?_)
    · exact absurd c3022 (by decide)
    · refine lv_bipush (v := (-2)) hx hb dX11_barrier_11 (by decide) ?_
      exact W.iret (v := (-2)) hx hb hr (fun t ht hW => ⟨_, rfl, by rw [if_neg k3018], ht⟩) (fun q hq => absurd hq List.not_mem_nil) dX11_barrier_13
set_option maxHeartbeats 4000000 in
set_option maxRecDepth 100000 in
theorem c_X10_oddWithout_1 (l : Launch) (D : va_G) (cI cS : ClassId) (h0 h1 h2 h3 h4 : Nat) : Met l yX10_oddWithout wsX10_oddWithout ({ frames := 2, cells := 0, slots := 0, locals := 80 }) (PS D cI cS [(h0, .inr (10, [.ref h1, .ref h2, .ref h3, .int 0, .int 0, .int 0, .int 0, .int 0])), (h1, .inr (2, [.ref h4, .int 0, .int 0]))] [.ref h0, .int 0]) (vp_Si (fun r => r = (0 : Int32))) 0 0 (fun _ => False) := by
  refine Met.ofW (cc := cX10_oddWithout) (maxL := 2) (ret := (some .int)) (by decide) rfl ?_
  intro p e s m args below meth c s₁ B hml hv
  obtain ⟨rfl, hP, hKK⟩ := hv
  have hx := B.exec
  have hb := B.bytes
  have hr := B.returns
  have hts := atoms_spec (ws := wsX10_oddWithout) B.pre
  have hown : s.vm.findClass RX10 = some m.cls := findClass_of_methodNamed B.named
  have hlocks := B.notSynchronized
  have hK := hKK.1
  have hN := hKK.2
  have hin10 : ∀ w ∈ wsX100, w ∈ wsX10_oddWithout := by decide +kernel
  have hl := lv_entry ([.ref h0, .int 0]) (n := 2) (Nat.le_of_ble_eq_true rfl)
  rw [lg_entry_eq]
  generalize (lg_sl ([.ref h0, .int 0]) ++ List.replicate (2 - (lg_sl ([.ref h0, .int 0])).length) Slot.unset).toArray = ls at hl ⊢
  have hl : lv_has ls 2 [(0, .ref h0), (1, .int 0)] := hl
  refine lv_aload_n hx hb dX10_oddWithout_0 rfl (lv_at hl 0 rfl) ?_
  refine va_get (D := D) (ci := 10) (v := .ref h1) (C := RX10) (T := TX10) (N := 8) hx hb hts hin10 hown hK hP 0 rfl rfl 0 (by decide) (hts (.fieldLink RX10 19 "MissedPoints$Witness" "net" "LMissedPoints$Net;") (by decide +kernel)) (fun _ h9 => h9) rfl dX10_oddWithout_1 ?_
  refine lv_aload_n hx hb dX10_oddWithout_4 rfl (lv_at hl 0 rfl) ?_
  refine va_get (D := D) (ci := 10) (v := .ref h1) (C := RX10) (T := TX10) (N := 8) hx hb hts hin10 hown hK hP 0 rfl rfl 0 (by decide) (hts (.fieldLink RX10 19 "MissedPoints$Witness" "net" "LMissedPoints$Net;") (by decide +kernel)) (fun _ h9 => h9) rfl dX10_oddWithout_5 ?_
  have hPc := hP.sub (ws' := [(h1, .inr (2, [.ref h4, .int 0, .int 0]))]) [1] rfl
  refine lz_sv (As := []) (rest := [.ref h1]) ⟨hx, hb, hml, hown, hts⟩ (c_X2_all_0 l D cI cS h1 h4) hKK hPc (ci := 2) rfl rfl (cwV 0 hts gX10_oddWithout_X2_all rfl rfl rfl (by decide +kernel) ⟨Nat.le_of_ble_eq_true rfl, Nat.le_of_ble_eq_true rfl⟩) rfl hl.1 rfl (Nat.le_of_ble_eq_true rfl) dX10_oddWithout_8 ⟨Nat.le_of_ble_eq_true rfl, Nat.le_of_ble_eq_true rfl⟩ (fun r3038 hw => ?_)
  subst hw
  refine lv_iload_n hx hb dX10_oddWithout_11 rfl (lv_at hl 1 rfl) ?_
  refine lv_iconst (v := (-1)) hx hb dX10_oddWithout_12 (by decide) ?_
  refine lv_ixor hx hb dX10_oddWithout_13 ?_
  refine lz_top (y := (-1)) (by decide) ?_
  refine lv_iand hx hb dX10_oddWithout_14 ?_
  refine lz_top (y := 0) (by decide) ?_
  have hPc := hP.sub (ws' := [(h1, .inr (2, [.ref h4, .int 0, .int 0]))]) [1] rfl
  refine lz_sv (As := [.int 0]) (rest := []) ⟨hx, hb, hml, hown, hts⟩ (c_X2_oddPieceCount_0 l D cI cS h1 h4) hKK hPc (ci := 2) rfl rfl (cwV 1 hts gX10_oddWithout_X2_oddPieceCount rfl rfl rfl (by decide +kernel) ⟨Nat.le_of_ble_eq_true rfl, Nat.le_of_ble_eq_true rfl⟩) rfl hl.1 rfl (Nat.le_of_ble_eq_true rfl) dX10_oddWithout_15 ⟨Nat.le_of_ble_eq_true rfl, Nat.le_of_ble_eq_true rfl⟩ (fun r3039 hw => ?_)
  subst hw
  exact W.iret (v := 0) hx hb hr (fun t ht hW => ⟨_, rfl, rfl, ht⟩) (fun q hq => absurd hq List.not_mem_nil) dX10_oddWithout_18
set_option maxHeartbeats 4000000 in
set_option maxRecDepth 100000 in
theorem c_X10_noteBarrier_0 (l : Launch) (D : va_G) (cI cS : ClassId) (sz : Nat) (h0 h1 h2 h3 : Nat) : Met l yX10_noteBarrier wsX10_noteBarrier ({ frames := 0, cells := 0, slots := 0, locals := 0 }) (PQ D cI cS [(h0, .inr (10, [.ref h1, .ref h2, .ref h3, .int 0, .int 0, .int 0, .int 0, .int 0]))] sz [.ref h0, .int 0]) (QV D [(h0, .inr (10, [.ref h1, .ref h2, .ref h3, .int 0, .int 0, .int 0, .int 0, .int 0]))] [(h0, .inr (10, [.ref h1, .ref h2, .ref h3, .int 0, .int 1, .int 0, .int 0, .int 0]))] sz) 0 0 (va_A [(h0, .inr (10, [.ref h1, .ref h2, .ref h3, .int 0, .int 0, .int 0, .int 0, .int 0]))] sz) := by
  refine Met.ofW (cc := cX10_noteBarrier) (maxL := 2) (ret := none) (by decide) rfl ?_
  intro p e s m args below meth c s₁ B hml hv
  obtain ⟨rfl, hsz, hP, hKK, hD0⟩ := hv
  have hx := B.exec
  have hb := B.bytes
  have hr := B.returns
  have hts := atoms_spec (ws := wsX10_noteBarrier) B.pre
  have hown : s.vm.findClass RX10 = some m.cls := findClass_of_methodNamed B.named
  have hlocks := B.notSynchronized
  have hK := hKK.1
  have hN := hKK.2
  have hin10 : ∀ w ∈ wsX100, w ∈ wsX10_noteBarrier := by decide +kernel
  subst hsz
  have hD := hD0.self (sz := s.heap.size)
  obtain ⟨A, hAe⟩ : ∃ A, A = va_A [(h0, .inr (10, [.ref h1, .ref h2, .ref h3, .int 0, .int 0, .int 0, .int 0, .int 0]))] s.heap.size := ⟨_, rfl⟩
  rw [← hAe] at hD
  have hA : ∀ q : Nat, s.heap.size ≤ q → A q := fun q h => by rw [hAe]; exact Or.inr h
  have hS : va_S A s.heap s.heap [] := va_S.rf
  have hl := lv_entry ([.ref h0, .int 0]) (n := 2) (Nat.le_of_ble_eq_true rfl)
  rw [lg_entry_eq]
  generalize (lg_sl ([.ref h0, .int 0]) ++ List.replicate (2 - (lg_sl ([.ref h0, .int 0])).length) Slot.unset).toArray = ls at hl ⊢
  have hl : lv_has ls 2 [(0, .ref h0), (1, .int 0)] := hl
  refine lv_aload_n hx hb dX10_noteBarrier_0 rfl (lv_at hl 0 rfl) ?_
  refine va_get (D := D) (ci := 10) (v := .int 0) (C := RX10) (T := TX10) (N := 8) hx hb hts hin10 hown hK hP 0 rfl rfl 4 (by decide) (hts (.fieldLink RX10 56 "MissedPoints$Witness" "barrierCount" "I") (by decide +kernel)) (fun _ h9 => h9) rfl dX10_noteBarrier_1 ?_
  refine lv_if_eq (tgt := 21) hx hb dX10_noteBarrier_4 (by decide) (fun c3043 => ?_) (fun c3043 => ?_)
  · refine lv_aload_n hx hb dX10_noteBarrier_21 rfl (lv_at hl 0 rfl) ?_
    refine lv_iload_n hx hb dX10_noteBarrier_22 rfl (lv_at hl 1 rfl) ?_
    refine va_put (D := D) (ci := 10) (v := .int 0) (ty := .int) (C := RX10) (T := TX10) (N := 8) hx hb hts hin10 tyX10 tyX10_ok nmX10 hown hK hP hD hS 0 rfl rfl 5 (by decide) (hts (.fieldLink RX10 59 "MissedPoints$Witness" "greatestBarrier" "I") (by decide +kernel)) (fun _ h9 => h9) rfl (by decide +kernel) rfl rfl (Nat.le_of_ble_eq_true rfl) dX10_noteBarrier_23 (fun H locs hP hD hS => ?_)
    have hP : va_P D cls [(h0, .inr (10, [.ref h1, .ref h2, .ref h3, .int 0, .int 0, .int 0, .int 0, .int 0]))] H := hP
    have hD : va_D A [(h0, .inr (10, [.ref h1, .ref h2, .ref h3, .int 0, .int 0, .int 0, .int 0, .int 0]))] := hD
    refine lv_aload_n hx hb dX10_noteBarrier_26 rfl (lv_at hl 0 rfl) ?_
    refine lv_dup hx hb dX10_noteBarrier_27 rfl ?_
    refine va_get (D := D) (ci := 10) (v := .int 0) (C := RX10) (T := TX10) (N := 8) hx hb hts hin10 hown hK hP 0 rfl rfl 6 (by decide) (hts (.fieldLink RX10 62 "MissedPoints$Witness" "inEachBarrier" "I") (by decide +kernel)) (fun _ h9 => h9) rfl dX10_noteBarrier_28 ?_
    refine lv_iload_n hx hb dX10_noteBarrier_31 rfl (lv_at hl 1 rfl) ?_
    refine lv_iand hx hb dX10_noteBarrier_32 ?_
    refine lz_top (y := 0) (by decide) ?_
    refine va_put (D := D) (ci := 10) (v := .int 0) (ty := .int) (C := RX10) (T := TX10) (N := 8) hx hb hts hin10 tyX10 tyX10_ok nmX10 hown hK hP hD hS 0 rfl rfl 6 (by decide) (hts (.fieldLink RX10 62 "MissedPoints$Witness" "inEachBarrier" "I") (by decide +kernel)) (fun _ h9 => h9) rfl (by decide +kernel) rfl rfl (Nat.le_of_ble_eq_true rfl) dX10_noteBarrier_33 (fun H locs hP hD hS => ?_)
    have hP : va_P D cls [(h0, .inr (10, [.ref h1, .ref h2, .ref h3, .int 0, .int 0, .int 0, .int 0, .int 0]))] H := hP
    have hD : va_D A [(h0, .inr (10, [.ref h1, .ref h2, .ref h3, .int 0, .int 0, .int 0, .int 0, .int 0]))] := hD
    refine lv_aload_n hx hb dX10_noteBarrier_36 rfl (lv_at hl 0 rfl) ?_
    refine lv_dup hx hb dX10_noteBarrier_37 rfl ?_
    refine va_get (D := D) (ci := 10) (v := .int 0) (C := RX10) (T := TX10) (N := 8) hx hb hts hin10 hown hK hP 0 rfl rfl 4 (by decide) (hts (.fieldLink RX10 56 "MissedPoints$Witness" "barrierCount" "I") (by decide +kernel)) (fun _ h9 => h9) rfl dX10_noteBarrier_38 ?_
    refine lv_iconst (v := 1) hx hb dX10_noteBarrier_41 (by decide) ?_
    refine lv_iadd hx hb dX10_noteBarrier_42 ?_
    refine lz_top (y := 1) (by decide) ?_
    refine va_put (D := D) (ci := 10) (v := .int 1) (ty := .int) (C := RX10) (T := TX10) (N := 8) hx hb hts hin10 tyX10 tyX10_ok nmX10 hown hK hP hD hS 0 rfl rfl 4 (by decide) (hts (.fieldLink RX10 56 "MissedPoints$Witness" "barrierCount" "I") (by decide +kernel)) (fun _ h9 => h9) rfl (by decide +kernel) rfl rfl (Nat.le_of_ble_eq_true rfl) dX10_noteBarrier_43 (fun H locs hP hD hS => ?_)
    have hP : va_P D cls [(h0, .inr (10, [.ref h1, .ref h2, .ref h3, .int 0, .int 1, .int 0, .int 0, .int 0]))] H := hP
    have hD : va_D A [(h0, .inr (10, [.ref h1, .ref h2, .ref h3, .int 0, .int 1, .int 0, .int 0, .int 0]))] := hD
    have hP9 := hP.sub (ws' := [(h0, .inr (10, [.ref h1, .ref h2, .ref h3, .int 0, .int 1, .int 0, .int 0, .int 0]))]) [0] rfl
    have hD9 := hD.sub (ws' := [(h0, .inr (10, [.ref h1, .ref h2, .ref h3, .int 0, .int 1, .int 0, .int 0, .int 0]))]) [0] (by decide) rfl
    subst hAe
    exact W.vret hx hb hr (fun t ht hW => ⟨⟨(), rfl, trivial, by rw [ht]; exact hP9, hD9⟩, hS.F ht⟩) hS.2.2 dX10_noteBarrier_46
  · exact absurd c3043 (by decide)
set_option maxHeartbeats 4000000 in
set_option maxRecDepth 100000 in
theorem c_X10_seekBarriers_0 (l : Launch) (D : va_G) (cI cS : ClassId) (sz : Nat) (h0 h1 h2 h3 h4 h5 h6 : Nat) : Met l yX10_seekBarriers wsX10_seekBarriers ({ frames := 4, cells := 0, slots := 0, locals := 160 }) (PQ D cI cS [(h0, .inr (10, [.ref h1, .ref h2, .ref h3, .int 0, .int 0, .int 0, .int 0, .int (-1)])), (h1, .inr (2, [.ref h4, .int 0, .int 0])), (h2, .inr (3, [.ref h1, .ref h5, .ref h6, .int 0]))] sz [.ref h0]) (QV D [(h0, .inr (10, [.ref h1, .ref h2, .ref h3, .int 0, .int 0, .int 0, .int 0, .int (-1)])), (h1, .inr (2, [.ref h4, .int 0, .int 0])), (h2, .inr (3, [.ref h1, .ref h5, .ref h6, .int 0]))] [(h1, .inr (2, [.ref h4, .int 0, .int 0])), (h2, .inr (3, [.ref h1, .ref h5, .ref h6, .int 0])), (h0, .inr (10, [.ref h1, .ref h2, .ref h3, .int 0, .int 1, .int 0, .int 0, .int 0]))] sz) 0 0 (va_A [(h0, .inr (10, [.ref h1, .ref h2, .ref h3, .int 0, .int 0, .int 0, .int 0, .int (-1)])), (h1, .inr (2, [.ref h4, .int 0, .int 0])), (h2, .inr (3, [.ref h1, .ref h5, .ref h6, .int 0]))] sz) := by
  refine Met.ofW (cc := cX10_seekBarriers) (maxL := 7) (ret := none) (by decide) rfl ?_
  intro p e s m args below meth c s₁ B hml hv
  obtain ⟨rfl, hsz, hP, hKK, hD0⟩ := hv
  have hx := B.exec
  have hb := B.bytes
  have hr := B.returns
  have hts := atoms_spec (ws := wsX10_seekBarriers) B.pre
  have hown : s.vm.findClass RX10 = some m.cls := findClass_of_methodNamed B.named
  have hlocks := B.notSynchronized
  have hK := hKK.1
  have hN := hKK.2
  have hin2 : ∀ w ∈ wsX20, w ∈ wsX10_seekBarriers := by decide +kernel
  have hin10 : ∀ w ∈ wsX100, w ∈ wsX10_seekBarriers := by decide +kernel
  subst hsz
  have hD := hD0.self (sz := s.heap.size)
  obtain ⟨A, hAe⟩ : ∃ A, A = va_A [(h0, .inr (10, [.ref h1, .ref h2, .ref h3, .int 0, .int 0, .int 0, .int 0, .int (-1)])), (h1, .inr (2, [.ref h4, .int 0, .int 0])), (h2, .inr (3, [.ref h1, .ref h5, .ref h6, .int 0]))] s.heap.size := ⟨_, rfl⟩
  rw [← hAe] at hD
  have hA : ∀ q : Nat, s.heap.size ≤ q → A q := fun q h => by rw [hAe]; exact Or.inr h
  have hS : va_S A s.heap s.heap [] := va_S.rf
  have hl := lv_entry ([.ref h0]) (n := 7) (Nat.le_of_ble_eq_true rfl)
  rw [lg_entry_eq]
  generalize (lg_sl ([.ref h0]) ++ List.replicate (7 - (lg_sl ([.ref h0])).length) Slot.unset).toArray = ls at hl ⊢
  have hl : lv_has ls 7 [(0, .ref h0)] := hl
  refine lv_aload_n hx hb dX10_seekBarriers_0 rfl (lv_at hl 0 rfl) ?_
  refine va_get (D := D) (ci := 10) (v := .int (-1)) (C := RX10) (T := TX10) (N := 8) hx hb hts hin10 hown hK hP 0 rfl rfl 7 (by decide) (hts (.fieldLink RX10 15 "MissedPoints$Witness" "changesSeen" "I") (by decide +kernel)) (fun _ h9 => h9) rfl dX10_seekBarriers_1 ?_
  refine lv_aload_n hx hb dX10_seekBarriers_4 rfl (lv_at hl 0 rfl) ?_
  refine va_get (D := D) (ci := 10) (v := .ref h1) (C := RX10) (T := TX10) (N := 8) hx hb hts hin10 hown hK hP 0 rfl rfl 0 (by decide) (hts (.fieldLink RX10 19 "MissedPoints$Witness" "net" "LMissedPoints$Net;") (by decide +kernel)) (fun _ h9 => h9) rfl dX10_seekBarriers_5 ?_
  refine va_getN (D := D) (ci := 2) (v := .int 0) (C := RX2) (T := TX2) (N := 3) hx hb hts hin2 hown hK hP 1 rfl rfl 2 (by decide) (va_Nw.use rfl hN.2.2.2.2.2.2.2.2.2.2.2.2.2.2.2.2.1) (fun _ h9 => h9) rfl dX10_seekBarriers_8 ?_
  refine lv_icmp_ne (tgt := 15) hx hb dX10_seekBarriers_11 (by decide) (fun c3046 => ?_) (fun c3046 => ?_)
  · refine lv_aload_n hx hb dX10_seekBarriers_15 rfl (lv_at hl 0 rfl) ?_
    refine lv_aload_n hx hb dX10_seekBarriers_16 rfl (lv_at hl 0 rfl) ?_
    refine va_get (D := D) (ci := 10) (v := .ref h1) (C := RX10) (T := TX10) (N := 8) hx hb hts hin10 hown hK hP 0 rfl rfl 0 (by decide) (hts (.fieldLink RX10 19 "MissedPoints$Witness" "net" "LMissedPoints$Net;") (by decide +kernel)) (fun _ h9 => h9) rfl dX10_seekBarriers_17 ?_
    refine va_getN (D := D) (ci := 2) (v := .int 0) (C := RX2) (T := TX2) (N := 3) hx hb hts hin2 hown hK hP 1 rfl rfl 2 (by decide) (va_Nw.use rfl hN.2.2.2.2.2.2.2.2.2.2.2.2.2.2.2.2.1) (fun _ h9 => h9) rfl dX10_seekBarriers_20 ?_
    refine va_put (D := D) (ci := 10) (v := .int 0) (ty := .int) (C := RX10) (T := TX10) (N := 8) hx hb hts hin10 tyX10 tyX10_ok nmX10 hown hK hP hD hS 0 rfl rfl 7 (by decide) (hts (.fieldLink RX10 15 "MissedPoints$Witness" "changesSeen" "I") (by decide +kernel)) (fun _ h9 => h9) rfl (by decide +kernel) rfl rfl (Nat.le_of_ble_eq_true rfl) dX10_seekBarriers_23 (fun H locs hP hD hS => ?_)
    have hP : va_P D cls [(h0, .inr (10, [.ref h1, .ref h2, .ref h3, .int 0, .int 0, .int 0, .int 0, .int 0])), (h1, .inr (2, [.ref h4, .int 0, .int 0])), (h2, .inr (3, [.ref h1, .ref h5, .ref h6, .int 0]))] H := hP
    have hD : va_D A [(h0, .inr (10, [.ref h1, .ref h2, .ref h3, .int 0, .int 0, .int 0, .int 0, .int 0])), (h1, .inr (2, [.ref h4, .int 0, .int 0])), (h2, .inr (3, [.ref h1, .ref h5, .ref h6, .int 0]))] := hD
    refine lv_aload_n hx hb dX10_seekBarriers_26 rfl (lv_at hl 0 rfl) ?_
    refine va_get (D := D) (ci := 10) (v := .ref h1) (C := RX10) (T := TX10) (N := 8) hx hb hts hin10 hown hK hP 0 rfl rfl 0 (by decide) (hts (.fieldLink RX10 19 "MissedPoints$Witness" "net" "LMissedPoints$Net;") (by decide +kernel)) (fun _ h9 => h9) rfl dX10_seekBarriers_27 ?_
    have hPc := hP.sub (ws' := [(h1, .inr (2, [.ref h4, .int 0, .int 0]))]) [1] rfl
    refine lz_sv (As := []) (rest := []) ⟨hx, hb, hml, hown, hts⟩ (c_X2_all_0 l D cI cS h1 h4) hKK hPc (ci := 2) rfl rfl (cwV 0 hts gX10_seekBarriers_X2_all rfl rfl rfl (by decide +kernel) ⟨Nat.le_of_ble_eq_true rfl, Nat.le_of_ble_eq_true rfl⟩) rfl hl.1 rfl (Nat.le_of_ble_eq_true rfl) dX10_seekBarriers_30 ⟨Nat.le_of_ble_eq_true rfl, Nat.le_of_ble_eq_true rfl⟩ (fun r3047 hw => ?_)
    subst hw
    refine lv_aload_n hx hb dX10_seekBarriers_33 rfl (lv_at hl 0 rfl) ?_
    refine va_get (D := D) (ci := 10) (v := .ref h2) (C := RX10) (T := TX10) (N := 8) hx hb hts hin10 hown hK hP 0 rfl rfl 1 (by decide) (hts (.fieldLink RX10 23 "MissedPoints$Witness" "pairs" "LMissedPoints$Pairs;") (by decide +kernel)) (fun _ h9 => h9) rfl dX10_seekBarriers_34 ?_
    have hPc := hP.sub (ws' := [(h2, .inr (3, [.ref h1, .ref h5, .ref h6, .int 0])), (h1, .inr (2, [.ref h4, .int 0, .int 0]))]) [2, 1] rfl
    refine lz_sv (As := []) (rest := [.int 0]) ⟨hx, hb, hml, hown, hts⟩ (c_X3_loosePoints_0 l D cI cS h2 h1 h5 h6 h4) hKK hPc (ci := 3) rfl rfl (cwV 0 hts gX10_seekBarriers_X3_loosePoints rfl rfl rfl (by decide +kernel) ⟨Nat.le_of_ble_eq_true rfl, Nat.le_of_ble_eq_true rfl⟩) rfl hl.1 rfl (Nat.le_of_ble_eq_true rfl) dX10_seekBarriers_37 ⟨Nat.le_of_ble_eq_true rfl, Nat.le_of_ble_eq_true rfl⟩ (fun r3048 hw => ?_)
    subst hw
    refine lv_iconst (v := (-1)) hx hb dX10_seekBarriers_40 (by decide) ?_
    refine lv_ixor hx hb dX10_seekBarriers_41 ?_
    refine lz_top (y := (-1)) (by decide) ?_
    refine lv_iand hx hb dX10_seekBarriers_42 ?_
    refine lz_top (y := 0) (by decide) ?_
    refine lv_istore_n (lv' := [(1, .int 0), (0, .ref h0)]) hx hb dX10_seekBarriers_43 rfl hl (by decide) rfl (fun ls hl => ?_)
    refine lv_aload_n hx hb dX10_seekBarriers_44 rfl (lv_at hl 1 rfl) ?_
    refine va_get (D := D) (ci := 10) (v := .ref h2) (C := RX10) (T := TX10) (N := 8) hx hb hts hin10 hown hK hP 0 rfl rfl 1 (by decide) (hts (.fieldLink RX10 23 "MissedPoints$Witness" "pairs" "LMissedPoints$Pairs;") (by decide +kernel)) (fun _ h9 => h9) rfl dX10_seekBarriers_45 ?_
    refine lv_aload_n hx hb dX10_seekBarriers_48 rfl (lv_at hl 1 rfl) ?_
    refine va_get (D := D) (ci := 10) (v := .ref h1) (C := RX10) (T := TX10) (N := 8) hx hb hts hin10 hown hK hP 0 rfl rfl 0 (by decide) (hts (.fieldLink RX10 19 "MissedPoints$Witness" "net" "LMissedPoints$Net;") (by decide +kernel)) (fun _ h9 => h9) rfl dX10_seekBarriers_49 ?_
    have hPc := hP.sub (ws' := [(h1, .inr (2, [.ref h4, .int 0, .int 0]))]) [1] rfl
    refine lz_sv (As := []) (rest := [.ref h2]) ⟨hx, hb, hml, hown, hts⟩ (c_X2_all_0 l D cI cS h1 h4) hKK hPc (ci := 2) rfl rfl (cwV 0 hts gX10_seekBarriers_X2_all rfl rfl rfl (by decide +kernel) ⟨Nat.le_of_ble_eq_true rfl, Nat.le_of_ble_eq_true rfl⟩) rfl hl.1 rfl (Nat.le_of_ble_eq_true rfl) dX10_seekBarriers_52 ⟨Nat.le_of_ble_eq_true rfl, Nat.le_of_ble_eq_true rfl⟩ (fun r3049 hw => ?_)
    subst hw
    have hPc := hP.sub (ws' := [(h2, .inr (3, [.ref h1, .ref h5, .ref h6, .int 0])), (h1, .inr (2, [.ref h4, .int 0, .int 0]))]) [2, 1] rfl
    refine lz_sv (As := [.int 0]) (rest := []) ⟨hx, hb, hml, hown, hts⟩ (c_X3_lack_0 l D cI cS h2 h1 h5 h6 h4) hKK hPc (ci := 3) rfl rfl (cwV 1 hts gX10_seekBarriers_X3_lack rfl rfl rfl (by decide +kernel) ⟨Nat.le_of_ble_eq_true rfl, Nat.le_of_ble_eq_true rfl⟩) rfl hl.1 rfl (Nat.le_of_ble_eq_true rfl) dX10_seekBarriers_55 ⟨Nat.le_of_ble_eq_true rfl, Nat.le_of_ble_eq_true rfl⟩ (fun r3050 hw => ?_)
    subst hw
    refine lv_istore_n (lv' := [(2, .int 0), (1, .int 0), (0, .ref h0)]) hx hb dX10_seekBarriers_58 rfl hl (by decide) rfl (fun ls hl => ?_)
    refine lv_aload_n hx hb dX10_seekBarriers_59 rfl (lv_at hl 2 rfl) ?_
    refine lv_iconst (v := 0) hx hb dX10_seekBarriers_60 (by decide) ?_
    refine va_put (D := D) (ci := 10) (v := .int 0) (ty := .int) (C := RX10) (T := TX10) (N := 8) hx hb hts hin10 tyX10 tyX10_ok nmX10 hown hK hP hD hS 0 rfl rfl 4 (by decide) (hts (.fieldLink RX10 56 "MissedPoints$Witness" "barrierCount" "I") (by decide +kernel)) (fun _ h9 => h9) rfl (by decide +kernel) rfl rfl (Nat.le_of_ble_eq_true rfl) dX10_seekBarriers_61 (fun H locs hP hD hS => ?_)
    have hP : va_P D cls [(h0, .inr (10, [.ref h1, .ref h2, .ref h3, .int 0, .int 0, .int 0, .int 0, .int 0])), (h1, .inr (2, [.ref h4, .int 0, .int 0])), (h2, .inr (3, [.ref h1, .ref h5, .ref h6, .int 0]))] H := hP
    have hD : va_D A [(h0, .inr (10, [.ref h1, .ref h2, .ref h3, .int 0, .int 0, .int 0, .int 0, .int 0])), (h1, .inr (2, [.ref h4, .int 0, .int 0])), (h2, .inr (3, [.ref h1, .ref h5, .ref h6, .int 0]))] := hD
    refine lv_aload_n hx hb dX10_seekBarriers_64 rfl (lv_at hl 2 rfl) ?_
    refine lv_iconst (v := 0) hx hb dX10_seekBarriers_65 (by decide) ?_
    refine va_put (D := D) (ci := 10) (v := .int 0) (ty := .int) (C := RX10) (T := TX10) (N := 8) hx hb hts hin10 tyX10 tyX10_ok nmX10 hown hK hP hD hS 0 rfl rfl 5 (by decide) (hts (.fieldLink RX10 59 "MissedPoints$Witness" "greatestBarrier" "I") (by decide +kernel)) (fun _ h9 => h9) rfl (by decide +kernel) rfl rfl (Nat.le_of_ble_eq_true rfl) dX10_seekBarriers_66 (fun H locs hP hD hS => ?_)
    have hP : va_P D cls [(h0, .inr (10, [.ref h1, .ref h2, .ref h3, .int 0, .int 0, .int 0, .int 0, .int 0])), (h1, .inr (2, [.ref h4, .int 0, .int 0])), (h2, .inr (3, [.ref h1, .ref h5, .ref h6, .int 0]))] H := hP
    have hD : va_D A [(h0, .inr (10, [.ref h1, .ref h2, .ref h3, .int 0, .int 0, .int 0, .int 0, .int 0])), (h1, .inr (2, [.ref h4, .int 0, .int 0])), (h2, .inr (3, [.ref h1, .ref h5, .ref h6, .int 0]))] := hD
    refine lv_aload_n hx hb dX10_seekBarriers_69 rfl (lv_at hl 2 rfl) ?_
    refine lv_aload_n hx hb dX10_seekBarriers_70 rfl (lv_at hl 2 rfl) ?_
    refine va_get (D := D) (ci := 10) (v := .ref h1) (C := RX10) (T := TX10) (N := 8) hx hb hts hin10 hown hK hP 0 rfl rfl 0 (by decide) (hts (.fieldLink RX10 19 "MissedPoints$Witness" "net" "LMissedPoints$Net;") (by decide +kernel)) (fun _ h9 => h9) rfl dX10_seekBarriers_71 ?_
    have hPc := hP.sub (ws' := [(h1, .inr (2, [.ref h4, .int 0, .int 0]))]) [1] rfl
    refine lz_sv (As := []) (rest := [.ref h0]) ⟨hx, hb, hml, hown, hts⟩ (c_X2_all_0 l D cI cS h1 h4) hKK hPc (ci := 2) rfl rfl (cwV 0 hts gX10_seekBarriers_X2_all rfl rfl rfl (by decide +kernel) ⟨Nat.le_of_ble_eq_true rfl, Nat.le_of_ble_eq_true rfl⟩) rfl hl.1 rfl (Nat.le_of_ble_eq_true rfl) dX10_seekBarriers_74 ⟨Nat.le_of_ble_eq_true rfl, Nat.le_of_ble_eq_true rfl⟩ (fun r3051 hw => ?_)
    subst hw
    refine va_put (D := D) (ci := 10) (v := .int 0) (ty := .int) (C := RX10) (T := TX10) (N := 8) hx hb hts hin10 tyX10 tyX10_ok nmX10 hown hK hP hD hS 0 rfl rfl 6 (by decide) (hts (.fieldLink RX10 62 "MissedPoints$Witness" "inEachBarrier" "I") (by decide +kernel)) (fun _ h9 => h9) rfl (by decide +kernel) rfl rfl (Nat.le_of_ble_eq_true rfl) dX10_seekBarriers_77 (fun H locs hP hD hS => ?_)
    have hP : va_P D cls [(h0, .inr (10, [.ref h1, .ref h2, .ref h3, .int 0, .int 0, .int 0, .int 0, .int 0])), (h1, .inr (2, [.ref h4, .int 0, .int 0])), (h2, .inr (3, [.ref h1, .ref h5, .ref h6, .int 0]))] H := hP
    have hD : va_D A [(h0, .inr (10, [.ref h1, .ref h2, .ref h3, .int 0, .int 0, .int 0, .int 0, .int 0])), (h1, .inr (2, [.ref h4, .int 0, .int 0])), (h2, .inr (3, [.ref h1, .ref h5, .ref h6, .int 0]))] := hD
    refine lv_iconst (v := 0) hx hb dX10_seekBarriers_80 (by decide) ?_
    refine lv_istore_n (lv' := [(3, .int 0), (2, .int 0), (1, .int 0), (0, .ref h0)]) hx hb dX10_seekBarriers_81 rfl hl (by decide) rfl (fun ls hl => ?_)
    refine lv_iconst (v := 0) hx hb dX10_seekBarriers_82 (by decide) ?_
    refine lv_istore (lv' := [(4, .int 0), (3, .int 0), (2, .int 0), (1, .int 0), (0, .ref h0)]) hx hb dX10_seekBarriers_83 hl (by decide) rfl (fun ls hl => ?_)
    refine lv_iload hx hb dX10_seekBarriers_85 (lv_at hl 0 rfl) ?_
    refine lv_sipush (v := 4096) hx hb dX10_seekBarriers_87 (by decide) ?_
    refine lv_icmp_ge (tgt := 163) hx hb dX10_seekBarriers_90 (by decide) (fun c3052 => ?_) (fun c3052 => ?_)
    · exact absurd c3052 (by decide)
    · refine lv_iload_n hx hb dX10_seekBarriers_93 rfl (lv_at hl 1 rfl) ?_
      have hPc := hP.sub (ws' := []) [] rfl
      refine lz_ss (As := [.int 0]) (rest := []) ⟨hx, hb, hml, hown, hts⟩ (c_J6_bitCount_0f7a4_0 l D cI cS) hKK hPc (va_cwS 1 hts gX10_seekBarriers_J6_bitCount_0f7a4 rfl rfl rfl (by decide +kernel) ⟨Nat.le_of_ble_eq_true rfl, Nat.le_of_ble_eq_true rfl⟩) rfl hl.1 rfl (Nat.le_of_ble_eq_true rfl) dX10_seekBarriers_94 ⟨Nat.le_of_ble_eq_true rfl, Nat.le_of_ble_eq_true rfl⟩ (fun r3053 hw => ?_)
      subst hw
      refine lv_iload_n hx hb dX10_seekBarriers_97 rfl (lv_at hl 2 rfl) ?_
      refine lv_iadd hx hb dX10_seekBarriers_98 ?_
      refine lz_top (y := 0) (by decide) ?_
      refine lv_istore (lv' := [(5, .int 0), (4, .int 0), (3, .int 0), (2, .int 0), (1, .int 0), (0, .ref h0)]) hx hb dX10_seekBarriers_99 hl (by decide) rfl (fun ls hl => ?_)
      refine lv_iload_n hx hb dX10_seekBarriers_101 rfl (lv_at hl 2 rfl) ?_
      have hPc := hP.sub (ws' := []) [] rfl
      refine lz_ss (As := [.int 0]) (rest := []) ⟨hx, hb, hml, hown, hts⟩ (c_J6_bitCount_0f7a4_0 l D cI cS) hKK hPc (va_cwS 1 hts gX10_seekBarriers_J6_bitCount_0f7a4 rfl rfl rfl (by decide +kernel) ⟨Nat.le_of_ble_eq_true rfl, Nat.le_of_ble_eq_true rfl⟩) rfl hl.1 rfl (Nat.le_of_ble_eq_true rfl) dX10_seekBarriers_102 ⟨Nat.le_of_ble_eq_true rfl, Nat.le_of_ble_eq_true rfl⟩ (fun r3054 hw => ?_)
      subst hw
      refine lv_iload hx hb dX10_seekBarriers_105 (lv_at hl 0 rfl) ?_
      refine lv_iadd hx hb dX10_seekBarriers_107 ?_
      refine lz_top (y := 0) (by decide) ?_
      refine lv_aload_n hx hb dX10_seekBarriers_108 rfl (lv_at hl 5 rfl) ?_
      refine va_get (D := D) (ci := 10) (v := .ref h1) (C := RX10) (T := TX10) (N := 8) hx hb hts hin10 hown hK hP 0 rfl rfl 0 (by decide) (hts (.fieldLink RX10 19 "MissedPoints$Witness" "net" "LMissedPoints$Net;") (by decide +kernel)) (fun _ h9 => h9) rfl dX10_seekBarriers_109 ?_
      refine va_getN (D := D) (ci := 2) (v := .int 0) (C := RX2) (T := TX2) (N := 3) hx hb hts hin2 hown hK hP 1 rfl rfl 1 (by decide) (va_Nw.use rfl hN.2.2.2.2.2.2.2.2.2.2.2.2.2.2.2.2.2.1) (fun _ h9 => h9) rfl dX10_seekBarriers_112 ?_
      refine lv_icmp_gt (tgt := 122) hx hb dX10_seekBarriers_115 (by decide) (fun c3055 => ?_) (fun c3055 => ?_)
      · exact absurd c3055 (by decide)
      · refine lv_iconst (v := 1) hx hb dX10_seekBarriers_118 (by decide) ?_
        refine lv_goto (tgt := 123) hx hb dX10_seekBarriers_119 (by decide) ?_
        refine lv_istore (lv' := [(6, .int 1), (5, .int 0), (4, .int 0), (3, .int 0), (2, .int 0), (1, .int 0), (0, .ref h0)]) hx hb dX10_seekBarriers_123 hl (by decide) rfl (fun ls hl => ?_)
        refine lv_iload hx hb dX10_seekBarriers_125 (lv_at hl 0 rfl) ?_
        refine lv_if_eq (tgt := 145) hx hb dX10_seekBarriers_127 (by decide) (fun c3056 => ?_) (fun c3056 => ?_)
        · exact absurd c3056 (by decide)
        · refine lv_aload_n hx hb dX10_seekBarriers_130 rfl (lv_at hl 6 rfl) ?_
          refine lv_iload_n hx hb dX10_seekBarriers_131 rfl (lv_at hl 3 rfl) ?_
          have hPc := hP.sub (ws' := [(h0, .inr (10, [.ref h1, .ref h2, .ref h3, .int 0, .int 0, .int 0, .int 0, .int 0])), (h1, .inr (2, [.ref h4, .int 0, .int 0]))]) [0, 1] rfl
          refine lz_sv (As := [.int 0]) (rest := []) ⟨hx, hb, hml, hown, hts⟩ (c_X10_oddWithout_1 l D cI cS h0 h1 h2 h3 h4) hKK hPc (ci := 10) rfl rfl (cwV 1 hts gX10_seekBarriers_X10_oddWithout rfl rfl rfl (by decide +kernel) ⟨Nat.le_of_ble_eq_true rfl, Nat.le_of_ble_eq_true rfl⟩) rfl hl.1 rfl (Nat.le_of_ble_eq_true rfl) dX10_seekBarriers_132 ⟨Nat.le_of_ble_eq_true rfl, Nat.le_of_ble_eq_true rfl⟩ (fun r3057 hw => ?_)
          subst hw
          refine lv_iload hx hb dX10_seekBarriers_135 (lv_at hl 1 rfl) ?_
          refine lv_icmp_ne (tgt := 145) hx hb dX10_seekBarriers_137 (by decide) (fun c3058 => ?_) (fun c3058 => ?_)
          · exact absurd c3058 (by decide)
          · refine lv_aload_n hx hb dX10_seekBarriers_140 rfl (lv_at hl 6 rfl) ?_
            refine lv_iload_n hx hb dX10_seekBarriers_141 rfl (lv_at hl 3 rfl) ?_
            have hPc := hP.sub (ws' := [(h0, .inr (10, [.ref h1, .ref h2, .ref h3, .int 0, .int 0, .int 0, .int 0, .int 0]))]) [0] rfl
            have hDc := hD.sub (ws' := [(h0, .inr (10, [.ref h1, .ref h2, .ref h3, .int 0, .int 0, .int 0, .int 0, .int 0]))]) [0] (by decide) rfl
            refine lz_qv (wr := [(h1, .inr (2, [.ref h4, .int 0, .int 0])), (h2, .inr (3, [.ref h1, .ref h5, .ref h6, .int 0]))]) (w1 := [(h0, .inr (10, [.ref h1, .ref h2, .ref h3, .int 0, .int 1, .int 0, .int 0, .int 0]))]) (As := [.int 0]) (rest := []) ⟨hx, hb, hml, hown, hts⟩ (c_X10_noteBarrier_0 l D cI cS _ h0 h1 h2 h3) hKK hP hD hS hA [0] [1, 2] (by decide) rfl rfl (by decide) (by decide) hPc hDc (ci := 10) rfl rfl (cwV 1 hts gX10_seekBarriers_X10_noteBarrier rfl rfl rfl (by decide +kernel) ⟨Nat.le_of_ble_eq_true rfl, Nat.le_of_ble_eq_true rfl⟩) rfl hl.1 rfl (Nat.le_of_ble_eq_true rfl) dX10_seekBarriers_142 ⟨Nat.le_of_ble_eq_true rfl, Nat.le_of_ble_eq_true rfl⟩ (fun H locs hP hD hS => ?_)
            have hP : va_P D cls [(h1, .inr (2, [.ref h4, .int 0, .int 0])), (h2, .inr (3, [.ref h1, .ref h5, .ref h6, .int 0])), (h0, .inr (10, [.ref h1, .ref h2, .ref h3, .int 0, .int 1, .int 0, .int 0, .int 0]))] H := hP
            have hD : va_D A [(h1, .inr (2, [.ref h4, .int 0, .int 0])), (h2, .inr (3, [.ref h1, .ref h5, .ref h6, .int 0])), (h0, .inr (10, [.ref h1, .ref h2, .ref h3, .int 0, .int 1, .int 0, .int 0, .int 0]))] := hD
            refine lv_iload_n hx hb dX10_seekBarriers_145 rfl (lv_at hl 3 rfl) ?_
            refine lv_iload_n hx hb dX10_seekBarriers_146 rfl (lv_at hl 5 rfl) ?_
            refine lv_icmp_ne (tgt := 151) hx hb dX10_seekBarriers_147 (by decide) (fun c3060 => ?_) (fun c3060 => ?_)
            · exact absurd c3060 (by decide)
            · have hP9 := hP.sub (ws' := [(h1, .inr (2, [.ref h4, .int 0, .int 0])), (h2, .inr (3, [.ref h1, .ref h5, .ref h6, .int 0])), (h0, .inr (10, [.ref h1, .ref h2, .ref h3, .int 0, .int 1, .int 0, .int 0, .int 0]))]) [0, 1, 2] rfl
              have hD9 := hD.sub (ws' := [(h1, .inr (2, [.ref h4, .int 0, .int 0])), (h2, .inr (3, [.ref h1, .ref h5, .ref h6, .int 0])), (h0, .inr (10, [.ref h1, .ref h2, .ref h3, .int 0, .int 1, .int 0, .int 0, .int 0]))]) [0, 1, 2] (by decide) rfl
              subst hAe
              exact W.vret hx hb hr (fun t ht hW => ⟨⟨(), rfl, trivial, by rw [ht]; exact hP9, hD9⟩, hS.F ht⟩) hS.2.2 dX10_seekBarriers_150
  · exact absurd c3046 (by decide)
