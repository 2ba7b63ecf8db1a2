set_option maxRecDepth 20000 in
theorem ggX12_pieces_X12_in : GoodIn wsX12_pieces wsX12_in := goodIn_r _ [4] (by decide +kernel) (by decide +kernel)
set_option maxRecDepth 20000 in
theorem gX12_pieces_X12_in : GoodIn wsX12_pieces (va_wsS RX12 66 yX12_in wsX12_in) := goodIn_app (goodIn_of _ (by decide +kernel)) ggX12_pieces_X12_in
set_option maxRecDepth 20000 in
theorem ggX12_pieces_X12_piecesOf : GoodIn wsX12_pieces wsX12_piecesOf := goodIn_r _ [38, 39, 40, 41, 3, 42, 15, 16, 24, 25, 26, 43, 44, 45, 46, 47, 48, 49, 50, 51, 52, 53, 54, 55, 56, 57, 58, 59, 60, 61, 62, 63, 64, 65, 66] (by decide +kernel) (by decide +kernel)
set_option maxRecDepth 20000 in
theorem gX12_pieces_X12_piecesOf : GoodIn wsX12_pieces (wsV RX12 98 RX12 yX12_piecesOf wsX12_piecesOf) := goodIn_app (goodIn_of _ (by decide +kernel)) ggX12_pieces_X12_piecesOf
set_option maxRecDepth 20000 in
theorem ggX12_pieces_X12_setOf : GoodIn wsX12_pieces wsX12_setOf := goodIn_r _ [8, 9, 10, 11, 3, 12, 13, 14, 15, 16, 17, 18, 19, 20, 21, 22, 23, 24, 25, 26, 27, 28, 29, 30, 31, 32, 33, 34, 43, 44, 45, 46, 47, 48, 49, 50, 51, 52, 53, 54, 55, 56, 57, 58, 59, 60, 61, 62, 63, 64, 65, 66] (by decide +kernel) (by decide +kernel)
set_option maxRecDepth 20000 in
theorem gX12_pieces_X12_setOf : GoodIn wsX12_pieces (wsV RX12 132 RX12 yX12_setOf wsX12_setOf) := goodIn_app (goodIn_of _ (by decide +kernel)) ggX12_pieces_X12_setOf
theorem dX12_pieces_0 : decode cX12_pieces 0 = .ok (.iload_n 1, 1) := by decide +kernel
theorem dX12_pieces_1 : decode cX12_pieces 1 = .ok (.iconst 0, 1) := by decide +kernel
theorem dX12_pieces_10 : decode cX12_pieces 10 = .ok (.aload_n 0, 1) := by decide +kernel
theorem dX12_pieces_11 : decode cX12_pieces 11 = .ok (.iload_n 1, 1) := by decide +kernel
theorem dX12_pieces_12 : decode cX12_pieces 12 = .ok (.invokevirtual 132, 3) := by decide +kernel
theorem dX12_pieces_15 : decode cX12_pieces 15 = .ok (.invokevirtual 98, 3) := by decide +kernel
theorem dX12_pieces_18 : decode cX12_pieces 18 = .ok (.goto 5, 3) := by decide +kernel
theorem dX12_pieces_2 : decode cX12_pieces 2 = .ok (.iconst 1, 1) := by decide +kernel
theorem dX12_pieces_21 : decode cX12_pieces 21 = .ok (.bipush (-2), 2) := by decide +kernel
theorem dX12_pieces_23 : decode cX12_pieces 23 = .ok (.ireturn, 1) := by decide +kernel
theorem dX12_pieces_3 : decode cX12_pieces 3 = .ok (.invokestatic 66, 3) := by decide +kernel
theorem dX12_pieces_6 : decode cX12_pieces 6 = .ok (.ifCond .eq 15, 3) := by decide +kernel
theorem dX12_pieces_9 : decode cX12_pieces 9 = .ok (.aload_n 0, 1) := by decide +kernel
set_option maxRecDepth 20000 in
theorem ggX12_pieceAt_X12_setOf : GoodIn wsX12_pieceAt wsX12_setOf := goodIn_r _ [5, 6, 7, 8, 4, 9, 10, 11, 12, 13, 14, 15, 16, 17, 18, 19, 20, 21, 22, 23, 24, 25, 26, 27, 28, 29, 30, 31, 36, 37, 38, 39, 40, 41, 42, 43, 44, 45, 46, 47, 48, 49, 50, 51, 52, 53, 54, 55, 56, 57, 58, 59] (by decide +kernel) (by decide +kernel)
set_option maxRecDepth 20000 in
theorem gX12_pieceAt_X12_setOf : GoodIn wsX12_pieceAt (wsV RX12 132 RX12 yX12_setOf wsX12_setOf) := goodIn_app (goodIn_of _ (by decide +kernel)) ggX12_pieceAt_X12_setOf
theorem dX12_pieceAt_0 : decode cX12_pieceAt 0 = .ok (.aload_n 0, 1) := by decide +kernel
theorem dX12_pieceAt_1 : decode cX12_pieceAt 1 = .ok (.iload_n 1, 1) := by decide +kernel
theorem dX12_pieceAt_11 : decode cX12_pieceAt 11 = .ok (.iload_n 2, 1) := by decide +kernel
theorem dX12_pieceAt_12 : decode cX12_pieceAt 12 = .ok (.if_icmp .ge 23, 3) := by decide +kernel
theorem dX12_pieceAt_15 : decode cX12_pieceAt 15 = .ok (.iload_n 3, 1) := by decide +kernel
theorem dX12_pieceAt_16 : decode cX12_pieceAt 16 = .ok (.ifCond .eq 19, 3) := by decide +kernel
theorem dX12_pieceAt_2 : decode cX12_pieceAt 2 = .ok (.invokevirtual 132, 3) := by decide +kernel
theorem dX12_pieceAt_35 : decode cX12_pieceAt 35 = .ok (.iload_n 2, 1) := by decide +kernel
theorem dX12_pieceAt_36 : decode cX12_pieceAt 36 = .ok (.ifCond .lt 7, 3) := by decide +kernel
theorem dX12_pieceAt_39 : decode cX12_pieceAt 39 = .ok (.iload_n 3, 1) := by decide +kernel
theorem dX12_pieceAt_40 : decode cX12_pieceAt 40 = .ok (.ifCond .ne 7, 3) := by decide +kernel
theorem dX12_pieceAt_43 : decode cX12_pieceAt 43 = .ok (.iconst 0, 1) := by decide +kernel
theorem dX12_pieceAt_44 : decode cX12_pieceAt 44 = .ok (.goto 8, 3) := by decide +kernel
theorem dX12_pieceAt_5 : decode cX12_pieceAt 5 = .ok (.istore_n 3, 1) := by decide +kernel
theorem dX12_pieceAt_52 : decode cX12_pieceAt 52 = .ok (.ireturn, 1) := by decide +kernel
theorem dX12_pieceAt_6 : decode cX12_pieceAt 6 = .ok (.iconst 0, 1) := by decide +kernel
theorem dX12_pieceAt_7 : decode cX12_pieceAt 7 = .ok (.istore 4, 2) := by decide +kernel
theorem dX12_pieceAt_9 : decode cX12_pieceAt 9 = .ok (.iload 4, 2) := by decide +kernel
set_option maxRecDepth 20000 in
theorem ggX12_piece_X12_in : GoodIn wsX12_piece wsX12_in := goodIn_r _ [4] (by decide +kernel) (by decide +kernel)
set_option maxRecDepth 20000 in
theorem gX12_piece_X12_in : GoodIn wsX12_piece (va_wsS RX12 66 yX12_in wsX12_in) := goodIn_app (goodIn_of _ (by decide +kernel)) ggX12_piece_X12_in
set_option maxRecDepth 20000 in
theorem ggX12_piece_X12_pieceAt : GoodIn wsX12_piece wsX12_pieceAt := goodIn_r _ [8, 9, 10, 11, 3, 12, 13, 14, 15, 16, 17, 18, 19, 20, 21, 22, 23, 24, 25, 26, 27, 28, 29, 30, 31, 32, 33, 34, 35, 36, 37, 38, 39, 40, 41, 42, 47, 48, 49, 50, 51, 52, 53, 54, 55, 56, 57, 58, 59, 60, 61, 62, 63, 64, 65, 66, 67, 68, 69, 70] (by decide +kernel) (by decide +kernel)
set_option maxRecDepth 20000 in
theorem gX12_piece_X12_pieceAt : GoodIn wsX12_piece (wsV RX12 135 RX12 yX12_pieceAt wsX12_pieceAt) := goodIn_app (goodIn_of _ (by decide +kernel)) ggX12_piece_X12_pieceAt
theorem dX12_piece_0 : decode cX12_piece 0 = .ok (.iload_n 1, 1) := by decide +kernel
theorem dX12_piece_1 : decode cX12_piece 1 = .ok (.iconst 0, 1) := by decide +kernel
theorem dX12_piece_10 : decode cX12_piece 10 = .ok (.iconst 0, 1) := by decide +kernel
theorem dX12_piece_11 : decode cX12_piece 11 = .ok (.iconst 1, 1) := by decide +kernel
theorem dX12_piece_12 : decode cX12_piece 12 = .ok (.invokestatic 66, 3) := by decide +kernel
theorem dX12_piece_15 : decode cX12_piece 15 = .ok (.ifCond .ne 6, 3) := by decide +kernel
theorem dX12_piece_18 : decode cX12_piece 18 = .ok (.bipush (-2), 2) := by decide +kernel
theorem dX12_piece_2 : decode cX12_piece 2 = .ok (.iconst 1, 1) := by decide +kernel
theorem dX12_piece_20 : decode cX12_piece 20 = .ok (.ireturn, 1) := by decide +kernel
theorem dX12_piece_21 : decode cX12_piece 21 = .ok (.aload_n 0, 1) := by decide +kernel
theorem dX12_piece_22 : decode cX12_piece 22 = .ok (.iload_n 1, 1) := by decide +kernel
theorem dX12_piece_23 : decode cX12_piece 23 = .ok (.iload_n 2, 1) := by decide +kernel
theorem dX12_piece_24 : decode cX12_piece 24 = .ok (.invokevirtual 135, 3) := by decide +kernel
theorem dX12_piece_27 : decode cX12_piece 27 = .ok (.istore 4, 2) := by decide +kernel
theorem dX12_piece_29 : decode cX12_piece 29 = .ok (.iload 4, 2) := by decide +kernel
theorem dX12_piece_3 : decode cX12_piece 3 = .ok (.invokestatic 66, 3) := by decide +kernel
theorem dX12_piece_31 : decode cX12_piece 31 = .ok (.ifCond .ne 7, 3) := by decide +kernel
theorem dX12_piece_34 : decode cX12_piece 34 = .ok (.iconst (-1), 1) := by decide +kernel
theorem dX12_piece_35 : decode cX12_piece 35 = .ok (.goto 24, 3) := by decide +kernel
theorem dX12_piece_59 : decode cX12_piece 59 = .ok (.ireturn, 1) := by decide +kernel
theorem dX12_piece_6 : decode cX12_piece 6 = .ok (.ifCond .eq 12, 3) := by decide +kernel
theorem dX12_piece_9 : decode cX12_piece 9 = .ok (.iload_n 3, 1) := by decide +kernel
theorem dX12_bits_0 : decode cX12_bits 0 = .ok (.iconst 0, 1) := by decide +kernel
theorem dX12_bits_1 : decode cX12_bits 1 = .ok (.istore_n 1, 1) := by decide +kernel
theorem dX12_bits_2 : decode cX12_bits 2 = .ok (.iload_n 0, 1) := by decide +kernel
theorem dX12_bits_20 : decode cX12_bits 20 = .ok (.iload_n 1, 1) := by decide +kernel
theorem dX12_bits_21 : decode cX12_bits 21 = .ok (.ireturn, 1) := by decide +kernel
theorem dX12_bits_3 : decode cX12_bits 3 = .ok (.istore_n 2, 1) := by decide +kernel
theorem dX12_bits_4 : decode cX12_bits 4 = .ok (.iload_n 2, 1) := by decide +kernel
theorem dX12_bits_5 : decode cX12_bits 5 = .ok (.ifCond .eq 15, 3) := by decide +kernel
set_option maxRecDepth 20000 in
theorem ggX12_surplus_X12_bits : GoodIn wsX12_surplus wsX12_bits := goodIn_r _ [34] (by decide +kernel) (by decide +kernel)
set_option maxRecDepth 20000 in
theorem gX12_surplus_X12_bits : GoodIn wsX12_surplus (va_wsS RX12 85 yX12_bits wsX12_bits) := goodIn_app (goodIn_of _ (by decide +kernel)) ggX12_surplus_X12_bits
set_option maxRecDepth 20000 in
theorem ggX12_surplus_X12_isSet : GoodIn wsX12_surplus wsX12_isSet := goodIn_r _ [23, 10, 11, 12, 4, 13, 8, 43, 44, 45, 46, 47, 48, 49, 50, 51, 52, 53, 54, 55, 56, 57, 58, 59, 60, 61, 62, 63, 64, 65, 66] (by decide +kernel) (by decide +kernel)
set_option maxRecDepth 20000 in
theorem gX12_surplus_X12_isSet : GoodIn wsX12_surplus (wsV RX12 110 RX12 yX12_isSet wsX12_isSet) := goodIn_app (goodIn_of _ (by decide +kernel)) ggX12_surplus_X12_isSet
set_option maxRecDepth 20000 in
theorem ggX12_surplus_X12_markedSet : GoodIn wsX12_surplus wsX12_markedSet := goodIn_r _ [27, 8, 9, 28, 29, 30, 4, 31, 7, 10, 11, 12, 13, 43, 44, 45, 46, 47, 48, 49, 50, 51, 52, 53, 54, 55, 56, 57, 58, 59, 60, 61, 62, 63, 64, 65, 66] (by decide +kernel) (by decide +kernel)
set_option maxRecDepth 20000 in
theorem gX12_surplus_X12_markedSet : GoodIn wsX12_surplus (wsV RX12 126 RX12 yX12_markedSet wsX12_markedSet) := goodIn_app (goodIn_of _ (by decide +kernel)) ggX12_surplus_X12_markedSet
set_option maxRecDepth 20000 in
theorem ggX12_surplus_X12_reckons : GoodIn wsX12_surplus wsX12_reckons := goodIn_r _ [5, 6, 7, 8, 9, 10, 11, 12, 4, 13, 14, 15, 16, 17, 18, 19, 43, 44, 45, 46, 47, 48, 49, 50, 51, 52, 53, 54, 55, 56, 57, 58, 59, 60, 61, 62, 63, 64, 65, 66] (by decide +kernel) (by decide +kernel)
set_option maxRecDepth 20000 in
theorem gX12_surplus_X12_reckons : GoodIn wsX12_surplus (wsV RX12 107 RX12 yX12_reckons wsX12_reckons) := goodIn_app (goodIn_of _ (by decide +kernel)) ggX12_surplus_X12_reckons
theorem dX12_surplus_0 : decode cX12_surplus 0 = .ok (.aload_n 0, 1) := by decide +kernel
theorem dX12_surplus_1 : decode cX12_surplus 1 = .ok (.invokevirtual 107, 3) := by decide +kernel
theorem dX12_surplus_12 : decode cX12_surplus 12 = .ok (.iload_n 1, 1) := by decide +kernel
theorem dX12_surplus_13 : decode cX12_surplus 13 = .ok (.aload_n 0, 1) := by decide +kernel
theorem dX12_surplus_14 : decode cX12_surplus 14 = .ok (.iconst 1, 1) := by decide +kernel
theorem dX12_surplus_15 : decode cX12_surplus 15 = .ok (.invokevirtual 126, 3) := by decide +kernel
theorem dX12_surplus_18 : decode cX12_surplus 18 = .ok (.iconst (-1), 1) := by decide +kernel
theorem dX12_surplus_19 : decode cX12_surplus 19 = .ok (.ixor, 1) := by decide +kernel
theorem dX12_surplus_20 : decode cX12_surplus 20 = .ok (.iand, 1) := by decide +kernel
theorem dX12_surplus_21 : decode cX12_surplus 21 = .ok (.ifCond .eq 6, 3) := by decide +kernel
theorem dX12_surplus_24 : decode cX12_surplus 24 = .ok (.bipush (-2), 2) := by decide +kernel
theorem dX12_surplus_26 : decode cX12_surplus 26 = .ok (.ireturn, 1) := by decide +kernel
theorem dX12_surplus_27 : decode cX12_surplus 27 = .ok (.iload_n 1, 1) := by decide +kernel
theorem dX12_surplus_28 : decode cX12_surplus 28 = .ok (.invokestatic 85, 3) := by decide +kernel
theorem dX12_surplus_31 : decode cX12_surplus 31 = .ok (.ineg, 1) := by decide +kernel
theorem dX12_surplus_32 : decode cX12_surplus 32 = .ok (.istore_n 2, 1) := by decide +kernel
theorem dX12_surplus_33 : decode cX12_surplus 33 = .ok (.aload_n 0, 1) := by decide +kernel
theorem dX12_surplus_34 : decode cX12_surplus 34 = .ok (.iconst 0, 1) := by decide +kernel
theorem dX12_surplus_35 : decode cX12_surplus 35 = .ok (.invokevirtual 126, 3) := by decide +kernel
theorem dX12_surplus_38 : decode cX12_surplus 38 = .ok (.istore_n 3, 1) := by decide +kernel
theorem dX12_surplus_39 : decode cX12_surplus 39 = .ok (.iload_n 3, 1) := by decide +kernel
theorem dX12_surplus_4 : decode cX12_surplus 4 = .ok (.aload_n 0, 1) := by decide +kernel
theorem dX12_surplus_40 : decode cX12_surplus 40 = .ok (.ifCond .eq 38, 3) := by decide +kernel
theorem dX12_surplus_5 : decode cX12_surplus 5 = .ok (.iload_n 1, 1) := by decide +kernel
theorem dX12_surplus_6 : decode cX12_surplus 6 = .ok (.invokevirtual 110, 3) := by decide +kernel
theorem dX12_surplus_78 : decode cX12_surplus 78 = .ok (.iload_n 2, 1) := by decide +kernel
theorem dX12_surplus_79 : decode cX12_surplus 79 = .ok (.ireturn, 1) := by decide +kernel
theorem dX12_surplus_9 : decode cX12_surplus 9 = .ok (.ifCond .eq 15, 3) := by decide +kernel
set_option maxRecDepth 20000 in
theorem ggX12_oddOf_X12_all : GoodIn wsX12_oddOf wsX12_all := goodIn_r _ [5, 6, 18, 19, 20, 21, 22, 23, 24, 25, 26, 27, 28, 29, 30, 31, 32, 33, 34, 35, 36, 37, 38, 39, 40, 41] (by decide +kernel) (by decide +kernel)
set_option maxRecDepth 20000 in
theorem gX12_oddOf_X12_all : GoodIn wsX12_oddOf (wsV RX12 70 RX12 yX12_all wsX12_all) := goodIn_app (goodIn_of _ (by decide +kernel)) ggX12_oddOf_X12_all
theorem dX12_oddOf_0 : decode cX12_oddOf 0 = .ok (.iconst 0, 1) := by decide +kernel
theorem dX12_oddOf_1 : decode cX12_oddOf 1 = .ok (.istore_n 2, 1) := by decide +kernel
theorem dX12_oddOf_10 : decode cX12_oddOf 10 = .ok (.istore_n 3, 1) := by decide +kernel
theorem dX12_oddOf_11 : decode cX12_oddOf 11 = .ok (.iload_n 3, 1) := by decide +kernel
theorem dX12_oddOf_12 : decode cX12_oddOf 12 = .ok (.ifCond .eq 29, 3) := by decide +kernel
theorem dX12_oddOf_2 : decode cX12_oddOf 2 = .ok (.aload_n 0, 1) := by decide +kernel
theorem dX12_oddOf_3 : decode cX12_oddOf 3 = .ok (.invokevirtual 70, 3) := by decide +kernel
theorem dX12_oddOf_41 : decode cX12_oddOf 41 = .ok (.iload_n 2, 1) := by decide +kernel
theorem dX12_oddOf_42 : decode cX12_oddOf 42 = .ok (.ireturn, 1) := by decide +kernel
theorem dX12_oddOf_6 : decode cX12_oddOf 6 = .ok (.iload_n 1, 1) := by decide +kernel
theorem dX12_oddOf_7 : decode cX12_oddOf 7 = .ok (.iconst (-1), 1) := by decide +kernel
theorem dX12_oddOf_8 : decode cX12_oddOf 8 = .ok (.ixor, 1) := by decide +kernel
theorem dX12_oddOf_9 : decode cX12_oddOf 9 = .ok (.iand, 1) := by decide +kernel
set_option maxRecDepth 20000 in
theorem ggX12_odd_X12_isSet : GoodIn wsX12_odd wsX12_isSet := goodIn_r _ [5, 6, 7, 8, 4, 9, 10, 26, 27, 28, 29, 30, 31, 32, 33, 34, 35, 36, 37, 38, 39, 40, 41, 42, 43, 44, 45, 46, 47, 48, 49] (by decide +kernel) (by decide +kernel)
set_option maxRecDepth 20000 in
theorem gX12_odd_X12_isSet : GoodIn wsX12_odd (wsV RX12 110 RX12 yX12_isSet wsX12_isSet) := goodIn_app (goodIn_of _ (by decide +kernel)) ggX12_odd_X12_isSet
set_option maxRecDepth 20000 in
theorem ggX12_odd_X12_oddOf : GoodIn wsX12_odd wsX12_oddOf := goodIn_r _ [14, 6, 7, 8, 4, 9, 10, 15, 16, 17, 18, 19, 20, 21, 22, 23, 24, 25, 26, 27, 28, 29, 30, 31, 32, 33, 34, 35, 36, 37, 38, 39, 40, 41, 42, 43, 44, 45, 46, 47, 48, 49] (by decide +kernel) (by decide +kernel)
set_option maxRecDepth 20000 in
theorem gX12_odd_X12_oddOf : GoodIn wsX12_odd (wsV RX12 141 RX12 yX12_oddOf wsX12_oddOf) := goodIn_app (goodIn_of _ (by decide +kernel)) ggX12_odd_X12_oddOf
theorem dX12_odd_0 : decode cX12_odd 0 = .ok (.aload_n 0, 1) := by decide +kernel
theorem dX12_odd_1 : decode cX12_odd 1 = .ok (.iload_n 1, 1) := by decide +kernel
theorem dX12_odd_10 : decode cX12_odd 10 = .ok (.invokevirtual 141, 3) := by decide +kernel
theorem dX12_odd_13 : decode cX12_odd 13 = .ok (.goto 5, 3) := by decide +kernel
theorem dX12_odd_16 : decode cX12_odd 16 = .ok (.bipush (-2), 2) := by decide +kernel
theorem dX12_odd_18 : decode cX12_odd 18 = .ok (.ireturn, 1) := by decide +kernel
theorem dX12_odd_2 : decode cX12_odd 2 = .ok (.invokevirtual 110, 3) := by decide +kernel
theorem dX12_odd_5 : decode cX12_odd 5 = .ok (.ifCond .eq 11, 3) := by decide +kernel
theorem dX12_odd_8 : decode cX12_odd 8 = .ok (.aload_n 0, 1) := by decide +kernel
theorem dX12_odd_9 : decode cX12_odd 9 = .ok (.iload_n 1, 1) := by decide +kernel
set_option maxRecDepth 20000 in
theorem ggX12_barrier_X12_bits : GoodIn wsX12_barrier wsX12_bits := goodIn_r _ [25] (by decide +kernel) (by decide +kernel)
set_option maxRecDepth 20000 in
theorem gX12_barrier_X12_bits : GoodIn wsX12_barrier (va_wsS RX12 85 yX12_bits wsX12_bits) := goodIn_app (goodIn_of _ (by decide +kernel)) ggX12_barrier_X12_bits
set_option maxRecDepth 20000 in
theorem ggX12_barrier_X12_isSet : GoodIn wsX12_barrier wsX12_isSet := goodIn_r _ [5, 6, 7, 8, 4, 9, 10, 43, 44, 45, 46, 47, 48, 49, 50, 51, 52, 53, 54, 55, 56, 57, 58, 59, 60, 61, 62, 63, 64, 65, 66] (by decide +kernel) (by decide +kernel)
set_option maxRecDepth 20000 in
theorem gX12_barrier_X12_isSet : GoodIn wsX12_barrier (wsV RX12 110 RX12 yX12_isSet wsX12_isSet) := goodIn_app (goodIn_of _ (by decide +kernel)) ggX12_barrier_X12_isSet
set_option maxRecDepth 20000 in
theorem ggX12_barrier_X12_lack : GoodIn wsX12_barrier wsX12_lack := goodIn_r _ [29, 10, 30, 31, 32, 4, 33, 34, 35, 36, 37, 38, 39, 19, 6, 7, 8, 9, 40, 41, 42, 20, 21, 22, 43, 44, 45, 46, 47, 48, 49, 50, 51, 52, 53, 54, 55, 56, 57, 58, 59, 60, 61, 62, 63, 64, 65, 66] (by decide +kernel) (by decide +kernel)
set_option maxRecDepth 20000 in
theorem gX12_barrier_X12_lack : GoodIn wsX12_barrier (wsV RX12 95 RX12 yX12_lack wsX12_lack) := goodIn_app (goodIn_of _ (by decide +kernel)) ggX12_barrier_X12_lack
set_option maxRecDepth 20000 in
theorem ggX12_barrier_X12_oddOf : GoodIn wsX12_barrier wsX12_oddOf := goodIn_r _ [14, 6, 7, 8, 4, 9, 10, 15, 16, 17, 18, 19, 20, 21, 22, 23, 24, 25, 43, 44, 45, 46, 47, 48, 49, 50, 51, 52, 53, 54, 55, 56, 57, 58, 59, 60, 61, 62, 63, 64, 65, 66] (by decide +kernel) (by decide +kernel)
set_option maxRecDepth 20000 in
theorem gX12_barrier_X12_oddOf : GoodIn wsX12_barrier (wsV RX12 141 RX12 yX12_oddOf wsX12_oddOf) := goodIn_app (goodIn_of _ (by decide +kernel)) ggX12_barrier_X12_oddOf
theorem dX12_barrier_0 : decode cX12_barrier 0 = .ok (.aload_n 0, 1) := by decide +kernel
theorem dX12_barrier_1 : decode cX12_barrier 1 = .ok (.iload_n 1, 1) := by decide +kernel
theorem dX12_barrier_10 : decode cX12_barrier 10 = .ok (.goto 25, 3) := by decide +kernel
theorem dX12_barrier_13 : decode cX12_barrier 13 = .ok (.aload_n 0, 1) := by decide +kernel
theorem dX12_barrier_14 : decode cX12_barrier 14 = .ok (.iload_n 1, 1) := by decide +kernel
theorem dX12_barrier_15 : decode cX12_barrier 15 = .ok (.invokevirtual 141, 3) := by decide +kernel
theorem dX12_barrier_18 : decode cX12_barrier 18 = .ok (.iload_n 1, 1) := by decide +kernel
theorem dX12_barrier_19 : decode cX12_barrier 19 = .ok (.invokestatic 85, 3) := by decide +kernel
theorem dX12_barrier_2 : decode cX12_barrier 2 = .ok (.invokevirtual 110, 3) := by decide +kernel
theorem dX12_barrier_22 : decode cX12_barrier 22 = .ok (.isub, 1) := by decide +kernel
theorem dX12_barrier_23 : decode cX12_barrier 23 = .ok (.aload_n 0, 1) := by decide +kernel
theorem dX12_barrier_24 : decode cX12_barrier 24 = .ok (.invokevirtual 95, 3) := by decide +kernel
theorem dX12_barrier_27 : decode cX12_barrier 27 = .ok (.if_icmp .ne 7, 3) := by decide +kernel
theorem dX12_barrier_30 : decode cX12_barrier 30 = .ok (.iconst 1, 1) := by decide +kernel
theorem dX12_barrier_31 : decode cX12_barrier 31 = .ok (.goto 4, 3) := by decide +kernel
theorem dX12_barrier_35 : decode cX12_barrier 35 = .ok (.ireturn, 1) := by decide +kernel
theorem dX12_barrier_5 : decode cX12_barrier 5 = .ok (.ifCond .ne 8, 3) := by decide +kernel
theorem dX12_barrier_8 : decode cX12_barrier 8 = .ok (.bipush (-2), 2) := by decide +kernel
set_option maxRecDepth 20000 in
theorem ggX12_barriers_X12_all : GoodIn wsX12_barriers wsX12_all := goodIn_r _ [24, 9, 42, 43, 44, 45, 46, 47, 48, 49, 50, 51, 52, 53, 54, 55, 56, 57, 58, 59, 60, 61, 62, 63, 64, 65] (by decide +kernel) (by decide +kernel)
set_option maxRecDepth 20000 in
theorem gX12_barriers_X12_all : GoodIn wsX12_barriers (wsV RX12 70 RX12 yX12_all wsX12_all) := goodIn_app (goodIn_of _ (by decide +kernel)) ggX12_barriers_X12_all
set_option maxRecDepth 20000 in
theorem ggX12_barriers_X12_bits : GoodIn wsX12_barriers wsX12_bits := goodIn_r _ [41] (by decide +kernel) (by decide +kernel)
set_option maxRecDepth 20000 in
theorem gX12_barriers_X12_bits : GoodIn wsX12_barriers (va_wsS RX12 85 yX12_bits wsX12_bits) := goodIn_app (goodIn_of _ (by decide +kernel)) ggX12_barriers_X12_bits
set_option maxRecDepth 20000 in
theorem ggX12_barriers_X12_in : GoodIn wsX12_barriers wsX12_in := goodIn_r _ [4] (by decide +kernel) (by decide +kernel)
set_option maxRecDepth 20000 in
theorem gX12_barriers_X12_in : GoodIn wsX12_barriers (va_wsS RX12 66 yX12_in wsX12_in) := goodIn_app (goodIn_of _ (by decide +kernel)) ggX12_barriers_X12_in
set_option maxRecDepth 20000 in
theorem ggX12_barriers_X12_lack : GoodIn wsX12_barriers wsX12_lack := goodIn_r _ [8, 9, 10, 11, 12, 3, 13, 14, 15, 16, 17, 18, 19, 20, 21, 22, 23, 24, 25, 26, 27, 28, 29, 30, 42, 43, 44, 45, 46, 47, 48, 49, 50, 51, 52, 53, 54, 55, 56, 57, 58, 59, 60, 61, 62, 63, 64, 65] (by decide +kernel) (by decide +kernel)
set_option maxRecDepth 20000 in
theorem gX12_barriers_X12_lack : GoodIn wsX12_barriers (wsV RX12 95 RX12 yX12_lack wsX12_lack) := goodIn_app (goodIn_of _ (by decide +kernel)) ggX12_barriers_X12_lack
set_option maxRecDepth 20000 in
theorem ggX12_barriers_X12_oddOf : GoodIn wsX12_barriers wsX12_oddOf := goodIn_r _ [34, 21, 22, 23, 3, 24, 9, 35, 36, 37, 38, 20, 28, 29, 30, 39, 40, 41, 42, 43, 44, 45, 46, 47, 48, 49, 50, 51, 52, 53, 54, 55, 56, 57, 58, 59, 60, 61, 62, 63, 64, 65] (by decide +kernel) (by decide +kernel)
set_option maxRecDepth 20000 in
theorem gX12_barriers_X12_oddOf : GoodIn wsX12_barriers (wsV RX12 141 RX12 yX12_oddOf wsX12_oddOf) := goodIn_app (goodIn_of _ (by decide +kernel)) ggX12_barriers_X12_oddOf
theorem dX12_barriers_0 : decode cX12_barriers 0 = .ok (.iload_n 1, 1) := by decide +kernel
theorem dX12_barriers_1 : decode cX12_barriers 1 = .ok (.iconst 0, 1) := by decide +kernel
theorem dX12_barriers_100 : decode cX12_barriers 100 = .ok (.goto (-69), 3) := by decide +kernel
theorem dX12_barriers_103 : decode cX12_barriers 103 = .ok (.iload_n 1, 1) := by decide +kernel
theorem dX12_barriers_104 : decode cX12_barriers 104 = .ok (.ifCond .ne 7, 3) := by decide +kernel
theorem dX12_barriers_107 : decode cX12_barriers 107 = .ok (.iload_n 3, 1) := by decide +kernel
theorem dX12_barriers_108 : decode cX12_barriers 108 = .ok (.goto 15, 3) := by decide +kernel
theorem dX12_barriers_11 : decode cX12_barriers 11 = .ok (.ireturn, 1) := by decide +kernel
theorem dX12_barriers_111 : decode cX12_barriers 111 = .ok (.iload_n 1, 1) := by decide +kernel
theorem dX12_barriers_112 : decode cX12_barriers 112 = .ok (.iconst 1, 1) := by decide +kernel
theorem dX12_barriers_113 : decode cX12_barriers 113 = .ok (.if_icmp .ne 8, 3) := by decide +kernel
theorem dX12_barriers_116 : decode cX12_barriers 116 = .ok (.iload 4, 2) := by decide +kernel
theorem dX12_barriers_118 : decode cX12_barriers 118 = .ok (.goto 5, 3) := by decide +kernel
theorem dX12_barriers_12 : decode cX12_barriers 12 = .ok (.aload_n 0, 1) := by decide +kernel
theorem dX12_barriers_121 : decode cX12_barriers 121 = .ok (.iload 5, 2) := by decide +kernel
theorem dX12_barriers_123 : decode cX12_barriers 123 = .ok (.ireturn, 1) := by decide +kernel
theorem dX12_barriers_13 : decode cX12_barriers 13 = .ok (.invokevirtual 95, 3) := by decide +kernel
theorem dX12_barriers_16 : decode cX12_barriers 16 = .ok (.istore_n 2, 1) := by decide +kernel
theorem dX12_barriers_17 : decode cX12_barriers 17 = .ok (.iconst 0, 1) := by decide +kernel
theorem dX12_barriers_18 : decode cX12_barriers 18 = .ok (.istore_n 3, 1) := by decide +kernel
theorem dX12_barriers_19 : decode cX12_barriers 19 = .ok (.iconst (-1), 1) := by decide +kernel
theorem dX12_barriers_2 : decode cX12_barriers 2 = .ok (.iconst 2, 1) := by decide +kernel
theorem dX12_barriers_20 : decode cX12_barriers 20 = .ok (.istore 4, 2) := by decide +kernel
theorem dX12_barriers_22 : decode cX12_barriers 22 = .ok (.aload_n 0, 1) := by decide +kernel
theorem dX12_barriers_23 : decode cX12_barriers 23 = .ok (.invokevirtual 70, 3) := by decide +kernel
theorem dX12_barriers_26 : decode cX12_barriers 26 = .ok (.istore 5, 2) := by decide +kernel
theorem dX12_barriers_28 : decode cX12_barriers 28 = .ok (.iconst 0, 1) := by decide +kernel
theorem dX12_barriers_29 : decode cX12_barriers 29 = .ok (.istore 6, 2) := by decide +kernel
theorem dX12_barriers_3 : decode cX12_barriers 3 = .ok (.invokestatic 66, 3) := by decide +kernel
theorem dX12_barriers_31 : decode cX12_barriers 31 = .ok (.iload 6, 2) := by decide +kernel
theorem dX12_barriers_33 : decode cX12_barriers 33 = .ok (.aload_n 0, 1) := by decide +kernel
theorem dX12_barriers_34 : decode cX12_barriers 34 = .ok (.invokevirtual 70, 3) := by decide +kernel
theorem dX12_barriers_37 : decode cX12_barriers 37 = .ok (.if_icmp .gt 66, 3) := by decide +kernel
theorem dX12_barriers_40 : decode cX12_barriers 40 = .ok (.aload_n 0, 1) := by decide +kernel
theorem dX12_barriers_41 : decode cX12_barriers 41 = .ok (.iload 6, 2) := by decide +kernel
theorem dX12_barriers_43 : decode cX12_barriers 43 = .ok (.invokevirtual 141, 3) := by decide +kernel
theorem dX12_barriers_46 : decode cX12_barriers 46 = .ok (.iload 6, 2) := by decide +kernel
theorem dX12_barriers_48 : decode cX12_barriers 48 = .ok (.invokestatic 85, 3) := by decide +kernel
theorem dX12_barriers_51 : decode cX12_barriers 51 = .ok (.isub, 1) := by decide +kernel
theorem dX12_barriers_52 : decode cX12_barriers 52 = .ok (.iload_n 2, 1) := by decide +kernel
theorem dX12_barriers_53 : decode cX12_barriers 53 = .ok (.if_icmp .eq 6, 3) := by decide +kernel
theorem dX12_barriers_59 : decode cX12_barriers 59 = .ok (.iinc 3 1, 3) := by decide +kernel
theorem dX12_barriers_6 : decode cX12_barriers 6 = .ok (.ifCond .ne 6, 3) := by decide +kernel
theorem dX12_barriers_62 : decode cX12_barriers 62 = .ok (.iload 4, 2) := by decide +kernel
theorem dX12_barriers_64 : decode cX12_barriers 64 = .ok (.iconst (-1), 1) := by decide +kernel
theorem dX12_barriers_65 : decode cX12_barriers 65 = .ok (.if_icmp .eq 16, 3) := by decide +kernel
theorem dX12_barriers_81 : decode cX12_barriers 81 = .ok (.iload 6, 2) := by decide +kernel
theorem dX12_barriers_83 : decode cX12_barriers 83 = .ok (.goto 5, 3) := by decide +kernel
theorem dX12_barriers_88 : decode cX12_barriers 88 = .ok (.istore 4, 2) := by decide +kernel
theorem dX12_barriers_9 : decode cX12_barriers 9 = .ok (.bipush (-2), 2) := by decide +kernel
theorem dX12_barriers_90 : decode cX12_barriers 90 = .ok (.iload 5, 2) := by decide +kernel
theorem dX12_barriers_92 : decode cX12_barriers 92 = .ok (.iload 6, 2) := by decide +kernel
theorem dX12_barriers_94 : decode cX12_barriers 94 = .ok (.iand, 1) := by decide +kernel
theorem dX12_barriers_95 : decode cX12_barriers 95 = .ok (.istore 5, 2) := by decide +kernel
theorem dX12_barriers_97 : decode cX12_barriers 97 = .ok (.iinc 6 1, 3) := by decide +kernel
set_option maxRecDepth 20000 in
theorem ggX12_isCritical_X12_bits : GoodIn wsX12_isCritical wsX12_bits := goodIn_r _ [6] (by decide +kernel) (by decide +kernel)
set_option maxRecDepth 20000 in
theorem gX12_isCritical_X12_bits : GoodIn wsX12_isCritical (va_wsS RX12 85 yX12_bits wsX12_bits) := goodIn_app (goodIn_of _ (by decide +kernel)) ggX12_isCritical_X12_bits
theorem dX12_isCritical_0 : decode cX12_isCritical 0 = .ok (.iload_n 1, 1) := by decide +kernel
theorem dX12_isCritical_1 : decode cX12_isCritical 1 = .ok (.invokestatic 85, 3) := by decide +kernel
theorem dX12_isCritical_14 : decode cX12_isCritical 14 = .ok (.iconst 0, 1) := by decide +kernel
theorem dX12_isCritical_15 : decode cX12_isCritical 15 = .ok (.istore_n 2, 1) := by decide +kernel
theorem dX12_isCritical_16 : decode cX12_isCritical 16 = .ok (.iconst 0, 1) := by decide +kernel
theorem dX12_isCritical_17 : decode cX12_isCritical 17 = .ok (.istore_n 3, 1) := by decide +kernel
theorem dX12_isCritical_18 : decode cX12_isCritical 18 = .ok (.iload_n 3, 1) := by decide +kernel
theorem dX12_isCritical_19 : decode cX12_isCritical 19 = .ok (.aload_n 0, 1) := by decide +kernel
theorem dX12_isCritical_20 : decode cX12_isCritical 20 = .ok (.getfield 63, 3) := by decide +kernel
theorem dX12_isCritical_23 : decode cX12_isCritical 23 = .ok (.if_icmp .ge 50, 3) := by decide +kernel
theorem dX12_isCritical_4 : decode cX12_isCritical 4 = .ok (.iconst 2, 1) := by decide +kernel
theorem dX12_isCritical_5 : decode cX12_isCritical 5 = .ok (.irem, 1) := by decide +kernel
theorem dX12_isCritical_6 : decode cX12_isCritical 6 = .ok (.iconst 1, 1) := by decide +kernel
theorem dX12_isCritical_7 : decode cX12_isCritical 7 = .ok (.if_icmp .ne 7, 3) := by decide +kernel
theorem dX12_isCritical_73 : decode cX12_isCritical 73 = .ok (.iload_n 2, 1) := by decide +kernel
theorem dX12_isCritical_74 : decode cX12_isCritical 74 = .ok (.ireturn, 1) := by decide +kernel
set_option maxRecDepth 20000 in
theorem ggX12_critical_X12_isCritical : GoodIn wsX12_critical wsX12_isCritical := goodIn_r _ [27, 10, 16, 28, 29, 4, 30, 21, 22, 23, 31, 32, 33, 34, 35, 36, 37, 38, 39, 40, 41, 42, 43, 44, 45, 46, 47, 48, 49, 50, 51, 52, 53, 54] (by decide +kernel) (by decide +kernel)
set_option maxRecDepth 20000 in
theorem gX12_critical_X12_isCritical : GoodIn wsX12_critical (wsV RX12 144 RX12 yX12_isCritical wsX12_isCritical) := goodIn_app (goodIn_of _ (by decide +kernel)) ggX12_critical_X12_isCritical
set_option maxRecDepth 20000 in
theorem ggX12_critical_X12_isSet : GoodIn wsX12_critical wsX12_isSet := goodIn_r _ [5, 6, 7, 8, 4, 9, 10, 31, 32, 33, 34, 35, 36, 37, 38, 39, 40, 41, 42, 43, 44, 45, 46, 47, 48, 49, 50, 51, 52, 53, 54] (by decide +kernel) (by decide +kernel)
set_option maxRecDepth 20000 in
theorem gX12_critical_X12_isSet : GoodIn wsX12_critical (wsV RX12 110 RX12 yX12_isSet wsX12_isSet) := goodIn_app (goodIn_of _ (by decide +kernel)) ggX12_critical_X12_isSet
set_option maxRecDepth 20000 in
theorem ggX12_critical_X12_reckons : GoodIn wsX12_critical wsX12_reckons := goodIn_r _ [14, 15, 16, 10, 17, 6, 7, 8, 4, 9, 18, 19, 20, 21, 22, 23, 31, 32, 33, 34, 35, 36, 37, 38, 39, 40, 41, 42, 43, 44, 45, 46, 47, 48, 49, 50, 51, 52, 53, 54] (by decide +kernel) (by decide +kernel)
set_option maxRecDepth 20000 in
theorem gX12_critical_X12_reckons : GoodIn wsX12_critical (wsV RX12 107 RX12 yX12_reckons wsX12_reckons) := goodIn_app (goodIn_of _ (by decide +kernel)) ggX12_critical_X12_reckons
theorem dX12_critical_0 : decode cX12_critical 0 = .ok (.aload_n 0, 1) := by decide +kernel
theorem dX12_critical_1 : decode cX12_critical 1 = .ok (.iload_n 1, 1) := by decide +kernel
theorem dX12_critical_10 : decode cX12_critical 10 = .ok (.ireturn, 1) := by decide +kernel
theorem dX12_critical_11 : decode cX12_critical 11 = .ok (.aload_n 0, 1) := by decide +kernel
theorem dX12_critical_12 : decode cX12_critical 12 = .ok (.invokevirtual 107, 3) := by decide +kernel
theorem dX12_critical_15 : decode cX12_critical 15 = .ok (.aload_n 0, 1) := by decide +kernel
theorem dX12_critical_16 : decode cX12_critical 16 = .ok (.iload_n 1, 1) := by decide +kernel
theorem dX12_critical_17 : decode cX12_critical 17 = .ok (.invokevirtual 144, 3) := by decide +kernel
theorem dX12_critical_2 : decode cX12_critical 2 = .ok (.invokevirtual 110, 3) := by decide +kernel
theorem dX12_critical_20 : decode cX12_critical 20 = .ok (.ifCond .eq 7, 3) := by decide +kernel
theorem dX12_critical_27 : decode cX12_critical 27 = .ok (.iconst 0, 1) := by decide +kernel
theorem dX12_critical_28 : decode cX12_critical 28 = .ok (.ireturn, 1) := by decide +kernel
theorem dX12_critical_5 : decode cX12_critical 5 = .ok (.ifCond .ne 6, 3) := by decide +kernel
theorem dX12_critical_8 : decode cX12_critical 8 = .ok (.bipush (-2), 2) := by decide +kernel
set_option maxRecDepth 20000 in
theorem ggX12_ear_X12_isCritical : GoodIn wsX12_ear wsX12_isCritical := goodIn_r _ [27, 10, 16, 28, 29, 4, 30, 21, 22, 23, 35, 36, 37, 38, 39, 40, 41, 42, 43, 44, 45, 46, 47, 48, 49, 50, 51, 52, 53, 54, 55, 56, 57, 58] (by decide +kernel) (by decide +kernel)
set_option maxRecDepth 20000 in
theorem gX12_ear_X12_isCritical : GoodIn wsX12_ear (wsV RX12 144 RX12 yX12_isCritical wsX12_isCritical) := goodIn_app (goodIn_of _ (by decide +kernel)) ggX12_ear_X12_isCritical
set_option maxRecDepth 20000 in
theorem ggX12_ear_X12_isSet : GoodIn wsX12_ear wsX12_isSet := goodIn_r _ [5, 6, 7, 8, 4, 9, 10, 35, 36, 37, 38, 39, 40, 41, 42, 43, 44, 45, 46, 47, 48, 49, 50, 51, 52, 53, 54, 55, 56, 57, 58] (by decide +kernel) (by decide +kernel)
set_option maxRecDepth 20000 in
theorem gX12_ear_X12_isSet : GoodIn wsX12_ear (wsV RX12 110 RX12 yX12_isSet wsX12_isSet) := goodIn_app (goodIn_of _ (by decide +kernel)) ggX12_ear_X12_isSet
set_option maxRecDepth 20000 in
theorem ggX12_ear_X12_reckons : GoodIn wsX12_ear wsX12_reckons := goodIn_r _ [14, 15, 16, 10, 17, 6, 7, 8, 4, 9, 18, 19, 20, 21, 22, 23, 35, 36, 37, 38, 39, 40, 41, 42, 43, 44, 45, 46, 47, 48, 49, 50, 51, 52, 53, 54, 55, 56, 57, 58] (by decide +kernel) (by decide +kernel)
set_option maxRecDepth 20000 in
theorem gX12_ear_X12_reckons : GoodIn wsX12_ear (wsV RX12 107 RX12 yX12_reckons wsX12_reckons) := goodIn_app (goodIn_of _ (by decide +kernel)) ggX12_ear_X12_reckons
theorem dX12_ear_0 : decode cX12_ear 0 = .ok (.aload_n 0, 1) := by decide +kernel
theorem dX12_ear_1 : decode cX12_ear 1 = .ok (.iload_n 1, 1) := by decide +kernel
theorem dX12_ear_10 : decode cX12_ear 10 = .ok (.ireturn, 1) := by decide +kernel
theorem dX12_ear_11 : decode cX12_ear 11 = .ok (.aload_n 0, 1) := by decide +kernel
theorem dX12_ear_12 : decode cX12_ear 12 = .ok (.invokevirtual 107, 3) := by decide +kernel
theorem dX12_ear_15 : decode cX12_ear 15 = .ok (.aload_n 0, 1) := by decide +kernel
theorem dX12_ear_16 : decode cX12_ear 16 = .ok (.iload_n 1, 1) := by decide +kernel
theorem dX12_ear_17 : decode cX12_ear 17 = .ok (.invokevirtual 144, 3) := by decide +kernel
theorem dX12_ear_2 : decode cX12_ear 2 = .ok (.invokevirtual 110, 3) := by decide +kernel
theorem dX12_ear_20 : decode cX12_ear 20 = .ok (.ifCond .ne 6, 3) := by decide +kernel
theorem dX12_ear_23 : decode cX12_ear 23 = .ok (.bipush (-3), 2) := by decide +kernel
theorem dX12_ear_25 : decode cX12_ear 25 = .ok (.ireturn, 1) := by decide +kernel
theorem dX12_ear_5 : decode cX12_ear 5 = .ok (.ifCond .ne 6, 3) := by decide +kernel
theorem dX12_ear_8 : decode cX12_ear 8 = .ok (.bipush (-2), 2) := by decide +kernel
set_option maxRecDepth 20000 in
theorem ggX12_verdict_X12_areTwo : GoodIn wsX12_verdict wsX12_areTwo := goodIn_r _ [6, 7, 8, 9, 5, 10, 11, 12, 13, 14, 35, 36, 37, 38, 39, 40, 41, 42, 43, 44, 45, 46, 47, 48, 49, 50, 51, 52, 53, 54, 55, 56, 57, 58] (by decide +kernel) (by decide +kernel)
set_option maxRecDepth 20000 in
theorem gX12_verdict_X12_areTwo : GoodIn wsX12_verdict (wsV RX12 78 RX12 yX12_areTwo wsX12_areTwo) := goodIn_app (goodIn_of _ (by decide +kernel)) ggX12_verdict_X12_areTwo
theorem dX12_verdict_0 : decode cX12_verdict 0 = .ok (.aload_n 0, 1) := by decide +kernel
theorem dX12_verdict_1 : decode cX12_verdict 1 = .ok (.iload_n 1, 1) := by decide +kernel
theorem dX12_verdict_11 : decode cX12_verdict 11 = .ok (.ireturn, 1) := by decide +kernel
theorem dX12_verdict_2 : decode cX12_verdict 2 = .ok (.iload_n 2, 1) := by decide +kernel
theorem dX12_verdict_3 : decode cX12_verdict 3 = .ok (.invokevirtual 78, 3) := by decide +kernel
theorem dX12_verdict_6 : decode cX12_verdict 6 = .ok (.ifCond .ne 6, 3) := by decide +kernel
theorem dX12_verdict_9 : decode cX12_verdict 9 = .ok (.bipush (-2), 2) := by decide +kernel
set_option maxRecDepth 20000 in
theorem ggX12_twos_X12_reckons : GoodIn wsX12_twos wsX12_reckons := goodIn_r _ [8, 9, 3, 1, 2, 10, 11, 12, 7, 13, 14, 15, 16, 17, 18, 19, 24, 25, 26, 27, 28, 29, 30, 31, 32, 33, 34, 35, 36, 37, 38, 39, 40, 41, 42, 43, 44, 45, 46, 47] (by decide +kernel) (by decide +kernel)
set_option maxRecDepth 20000 in
theorem gX12_twos_X12_reckons : GoodIn wsX12_twos (wsV RX12 107 RX12 yX12_reckons wsX12_reckons) := goodIn_app (goodIn_of _ (by decide +kernel)) ggX12_twos_X12_reckons
theorem dX12_twos_0 : decode cX12_twos 0 = .ok (.aload_n 0, 1) := by decide +kernel
theorem dX12_twos_1 : decode cX12_twos 1 = .ok (.invokevirtual 107, 3) := by decide +kernel
theorem dX12_twos_10 : decode cX12_twos 10 = .ok (.iconst 0, 1) := by decide +kernel
theorem dX12_twos_11 : decode cX12_twos 11 = .ok (.istore 6, 2) := by decide +kernel
theorem dX12_twos_13 : decode cX12_twos 13 = .ok (.iload 6, 2) := by decide +kernel
theorem dX12_twos_145 : decode cX12_twos 145 = .ok (.iload_n 3, 1) := by decide +kernel
theorem dX12_twos_146 : decode cX12_twos 146 = .ok (.ifCond .ne 8, 3) := by decide +kernel
theorem dX12_twos_15 : decode cX12_twos 15 = .ok (.aload_n 0, 1) := by decide +kernel
theorem dX12_twos_154 : decode cX12_twos 154 = .ok (.iload 5, 2) := by decide +kernel
theorem dX12_twos_156 : decode cX12_twos 156 = .ok (.ireturn, 1) := by decide +kernel
theorem dX12_twos_16 : decode cX12_twos 16 = .ok (.getfield 63, 3) := by decide +kernel
theorem dX12_twos_19 : decode cX12_twos 19 = .ok (.if_icmp .ge 126, 3) := by decide +kernel
theorem dX12_twos_4 : decode cX12_twos 4 = .ok (.iconst (-1), 1) := by decide +kernel
theorem dX12_twos_5 : decode cX12_twos 5 = .ok (.istore 4, 2) := by decide +kernel
theorem dX12_twos_7 : decode cX12_twos 7 = .ok (.iconst 0, 1) := by decide +kernel
theorem dX12_twos_8 : decode cX12_twos 8 = .ok (.istore 5, 2) := by decide +kernel
set_option maxRecDepth 20000 in
theorem ggX12_verdicts_X12_in : GoodIn wsX12_verdicts wsX12_in := goodIn_r _ [4] (by decide +kernel) (by decide +kernel)
set_option maxRecDepth 20000 in
theorem gX12_verdicts_X12_in : GoodIn wsX12_verdicts (va_wsS RX12 66 yX12_in wsX12_in) := goodIn_app (goodIn_of _ (by decide +kernel)) ggX12_verdicts_X12_in
set_option maxRecDepth 20000 in
theorem ggX12_verdicts_X12_twos : GoodIn wsX12_verdicts wsX12_twos := goodIn_r _ [8, 9, 10, 11, 12, 13, 14, 3, 15, 16, 17, 18, 19, 20, 21, 22, 23, 24, 25, 26, 27, 28, 29, 30, 31, 32, 33, 34, 35, 36, 37, 38, 39, 40, 41, 42, 43, 44, 45, 46, 47, 48, 49, 50, 51, 52, 53, 54] (by decide +kernel) (by decide +kernel)
set_option maxRecDepth 20000 in
theorem gX12_verdicts_X12_twos : GoodIn wsX12_verdicts (wsV RX12 153 RX12 yX12_twos wsX12_twos) := goodIn_app (goodIn_of _ (by decide +kernel)) ggX12_verdicts_X12_twos
theorem dX12_verdicts_0 : decode cX12_verdicts 0 = .ok (.iload_n 1, 1) := by decide +kernel
theorem dX12_verdicts_1 : decode cX12_verdicts 1 = .ok (.iconst 0, 1) := by decide +kernel
theorem dX12_verdicts_10 : decode cX12_verdicts 10 = .ok (.iconst 1, 1) := by decide +kernel
theorem dX12_verdicts_11 : decode cX12_verdicts 11 = .ok (.iload_n 1, 1) := by decide +kernel
theorem dX12_verdicts_12 : decode cX12_verdicts 12 = .ok (.iconst 1, 1) := by decide +kernel
theorem dX12_verdicts_13 : decode cX12_verdicts 13 = .ok (.invokevirtual 153, 3) := by decide +kernel
theorem dX12_verdicts_16 : decode cX12_verdicts 16 = .ok (.goto 5, 3) := by decide +kernel
theorem dX12_verdicts_19 : decode cX12_verdicts 19 = .ok (.bipush (-2), 2) := by decide +kernel
theorem dX12_verdicts_2 : decode cX12_verdicts 2 = .ok (.iconst 2, 1) := by decide +kernel
theorem dX12_verdicts_21 : decode cX12_verdicts 21 = .ok (.ireturn, 1) := by decide +kernel
theorem dX12_verdicts_3 : decode cX12_verdicts 3 = .ok (.invokestatic 66, 3) := by decide +kernel
theorem dX12_verdicts_6 : decode cX12_verdicts 6 = .ok (.ifCond .eq 13, 3) := by decide +kernel
theorem dX12_verdicts_9 : decode cX12_verdicts 9 = .ok (.aload_n 0, 1) := by decide +kernel
set_option maxRecDepth 20000 in
theorem ggX12_without_X12_isPoint : GoodIn wsX12_without wsX12_isPoint := goodIn_r _ [7, 1, 8, 9, 6, 10, 27, 28, 29, 30, 31, 32, 33, 34, 35, 36, 37, 38, 39, 40, 41, 42, 43, 44, 45, 46, 47, 48, 49, 50] (by decide +kernel) (by decide +kernel)
set_option maxRecDepth 20000 in
theorem gX12_without_X12_isPoint : GoodIn wsX12_without (wsV RX12 74 RX12 yX12_isPoint wsX12_isPoint) := goodIn_app (goodIn_of _ (by decide +kernel)) ggX12_without_X12_isPoint
theorem dX12_without_0 : decode cX12_without 0 = .ok (.aload_n 0, 1) := by decide +kernel
theorem dX12_without_1 : decode cX12_without 1 = .ok (.iload_n 1, 1) := by decide +kernel
theorem dX12_without_10 : decode cX12_without 10 = .ok (.ireturn, 1) := by decide +kernel
theorem dX12_without_2 : decode cX12_without 2 = .ok (.invokevirtual 74, 3) := by decide +kernel
theorem dX12_without_5 : decode cX12_without 5 = .ok (.ifCond .ne 6, 3) := by decide +kernel
theorem dX12_without_8 : decode cX12_without 8 = .ok (.bipush (-2), 2) := by decide +kernel
theorem dX12_twos_149 : decode cX12_twos 149 = .ok (.iload 4, 2) := by decide +kernel
theorem dX12_twos_151 : decode cX12_twos 151 = .ok (.goto 5, 3) := by decide +kernel
set_option maxRecDepth 20000 in
theorem ggX12_mends_X12_in : GoodIn wsX12_mends wsX12_in := goodIn_r _ [4] (by decide +kernel) (by decide +kernel)
set_option maxRecDepth 20000 in
theorem gX12_mends_X12_in : GoodIn wsX12_mends (va_wsS RX12 66 yX12_in wsX12_in) := goodIn_app (goodIn_of _ (by decide +kernel)) ggX12_mends_X12_in
set_option maxRecDepth 20000 in
theorem ggX12_mends_X12_twos : GoodIn wsX12_mends wsX12_twos := goodIn_r _ [8, 9, 10, 11, 12, 13, 14, 3, 15, 16, 17, 18, 19, 20, 21, 22, 23, 24, 25, 26, 27, 28, 29, 30, 31, 32, 33, 34, 35, 36, 37, 38, 39, 40, 41, 42, 43, 44, 45, 46, 47, 48, 49, 50, 51, 52, 53, 54] (by decide +kernel) (by decide +kernel)
set_option maxRecDepth 20000 in
theorem gX12_mends_X12_twos : GoodIn wsX12_mends (wsV RX12 153 RX12 yX12_twos wsX12_twos) := goodIn_app (goodIn_of _ (by decide +kernel)) ggX12_mends_X12_twos
theorem dX12_mends_0 : decode cX12_mends 0 = .ok (.iload_n 1, 1) := by decide +kernel
theorem dX12_mends_1 : decode cX12_mends 1 = .ok (.iconst 0, 1) := by decide +kernel
theorem dX12_mends_10 : decode cX12_mends 10 = .ok (.iconst 0, 1) := by decide +kernel
theorem dX12_mends_11 : decode cX12_mends 11 = .ok (.iconst 0, 1) := by decide +kernel
theorem dX12_mends_12 : decode cX12_mends 12 = .ok (.iload_n 1, 1) := by decide +kernel
theorem dX12_mends_13 : decode cX12_mends 13 = .ok (.invokevirtual 153, 3) := by decide +kernel
theorem dX12_mends_16 : decode cX12_mends 16 = .ok (.goto 5, 3) := by decide +kernel
theorem dX12_mends_19 : decode cX12_mends 19 = .ok (.bipush (-2), 2) := by decide +kernel
theorem dX12_mends_2 : decode cX12_mends 2 = .ok (.iconst 1, 1) := by decide +kernel
theorem dX12_mends_21 : decode cX12_mends 21 = .ok (.ireturn, 1) := by decide +kernel
theorem dX12_mends_3 : decode cX12_mends 3 = .ok (.invokestatic 66, 3) := by decide +kernel
theorem dX12_mends_6 : decode cX12_mends 6 = .ok (.ifCond .eq 13, 3) := by decide +kernel
theorem dX12_mends_9 : decode cX12_mends 9 = .ok (.aload_n 0, 1) := by decide +kernel
set_option maxRecDepth 20000 in
theorem ggX12_breaks_X12_in : GoodIn wsX12_breaks wsX12_in := goodIn_r _ [4] (by decide +kernel) (by decide +kernel)
set_option maxRecDepth 20000 in
theorem gX12_breaks_X12_in : GoodIn wsX12_breaks (va_wsS RX12 66 yX12_in wsX12_in) := goodIn_app (goodIn_of _ (by decide +kernel)) ggX12_breaks_X12_in
set_option maxRecDepth 20000 in
theorem ggX12_breaks_X12_twos : GoodIn wsX12_breaks wsX12_twos := goodIn_r _ [8, 9, 10, 11, 12, 13, 14, 3, 15, 16, 17, 18, 19, 20, 21, 22, 23, 24, 25, 26, 27, 28, 29, 30, 31, 32, 33, 34, 35, 36, 37, 38, 39, 40, 41, 42, 43, 44, 45, 46, 47, 48, 49, 50, 51, 52, 53, 54] (by decide +kernel) (by decide +kernel)
set_option maxRecDepth 20000 in
theorem gX12_breaks_X12_twos : GoodIn wsX12_breaks (wsV RX12 153 RX12 yX12_twos wsX12_twos) := goodIn_app (goodIn_of _ (by decide +kernel)) ggX12_breaks_X12_twos
theorem dX12_breaks_0 : decode cX12_breaks 0 = .ok (.iload_n 1, 1) := by decide +kernel
theorem dX12_breaks_1 : decode cX12_breaks 1 = .ok (.iconst 0, 1) := by decide +kernel
theorem dX12_breaks_10 : decode cX12_breaks 10 = .ok (.iconst 1, 1) := by decide +kernel
theorem dX12_breaks_11 : decode cX12_breaks 11 = .ok (.iconst 2, 1) := by decide +kernel
theorem dX12_breaks_12 : decode cX12_breaks 12 = .ok (.iload_n 1, 1) := by decide +kernel
theorem dX12_breaks_13 : decode cX12_breaks 13 = .ok (.invokevirtual 153, 3) := by decide +kernel
theorem dX12_breaks_16 : decode cX12_breaks 16 = .ok (.goto 5, 3) := by decide +kernel
theorem dX12_breaks_19 : decode cX12_breaks 19 = .ok (.bipush (-2), 2) := by decide +kernel
theorem dX12_breaks_2 : decode cX12_breaks 2 = .ok (.iconst 1, 1) := by decide +kernel
theorem dX12_breaks_21 : decode cX12_breaks 21 = .ok (.ireturn, 1) := by decide +kernel
theorem dX12_breaks_3 : decode cX12_breaks 3 = .ok (.invokestatic 66, 3) := by decide +kernel
theorem dX12_breaks_6 : decode cX12_breaks 6 = .ok (.ifCond .eq 13, 3) := by decide +kernel
theorem dX12_breaks_9 : decode cX12_breaks 9 = .ok (.aload_n 0, 1) := by decide +kernel
set_option maxRecDepth 20000 in
theorem ggX12_isSheet_X12_in : GoodIn wsX12_isSheet wsX12_in := goodIn_r _ [4] (by decide +kernel) (by decide +kernel)
set_option maxRecDepth 20000 in
theorem gX12_isSheet_X12_in : GoodIn wsX12_isSheet (va_wsS RX12 66 yX12_in wsX12_in) := goodIn_app (goodIn_of _ (by decide +kernel)) ggX12_isSheet_X12_in
theorem dX12_isSheet_0 : decode cX12_isSheet 0 = .ok (.iload_n 0, 1) := by decide +kernel
theorem dX12_isSheet_1 : decode cX12_isSheet 1 = .ok (.iconst 0, 1) := by decide +kernel
theorem dX12_isSheet_2 : decode cX12_isSheet 2 = .ok (.iconst 3, 1) := by decide +kernel
theorem dX12_isSheet_3 : decode cX12_isSheet 3 = .ok (.invokestatic 66, 3) := by decide +kernel
theorem dX12_isSheet_6 : decode cX12_isSheet 6 = .ok (.ireturn, 1) := by decide +kernel
set_option maxRecDepth 20000 in
theorem ggX12_wrongPairing_X12_isSheet : GoodIn wsX12_wrongPairing wsX12_isSheet := goodIn_r _ [10, 11, 12, 9, 13] (by decide +kernel) (by decide +kernel)
set_option maxRecDepth 20000 in
theorem gX12_wrongPairing_X12_isSheet : GoodIn wsX12_wrongPairing (va_wsS RX12 157 yX12_isSheet wsX12_isSheet) := goodIn_app (goodIn_of _ (by decide +kernel)) ggX12_wrongPairing_X12_isSheet
theorem dX12_wrongPairing_0 : decode cX12_wrongPairing 0 = .ok (.iload_n 1, 1) := by decide +kernel
theorem dX12_wrongPairing_1 : decode cX12_wrongPairing 1 = .ok (.invokestatic 157, 3) := by decide +kernel
theorem dX12_wrongPairing_10 : decode cX12_wrongPairing 10 = .ok (.aload_n 0, 1) := by decide +kernel
theorem dX12_wrongPairing_11 : decode cX12_wrongPairing 11 = .ok (.getfield 38, 3) := by decide +kernel
theorem dX12_wrongPairing_14 : decode cX12_wrongPairing 14 = .ok (.iload_n 1, 1) := by decide +kernel
theorem dX12_wrongPairing_15 : decode cX12_wrongPairing 15 = .ok (.iaload, 1) := by decide +kernel
theorem dX12_wrongPairing_16 : decode cX12_wrongPairing 16 = .ok (.iconst (-1), 1) := by decide +kernel
theorem dX12_wrongPairing_17 : decode cX12_wrongPairing 17 = .ok (.if_icmp .ne 6, 3) := by decide +kernel
theorem dX12_wrongPairing_20 : decode cX12_wrongPairing 20 = .ok (.bipush (-11), 2) := by decide +kernel
theorem dX12_wrongPairing_22 : decode cX12_wrongPairing 22 = .ok (.ireturn, 1) := by decide +kernel
theorem dX12_wrongPairing_4 : decode cX12_wrongPairing 4 = .ok (.ifCond .ne 6, 3) := by decide +kernel
theorem dX12_wrongPairing_7 : decode cX12_wrongPairing 7 = .ok (.bipush (-2), 2) := by decide +kernel
theorem dX12_wrongPairing_9 : decode cX12_wrongPairing 9 = .ok (.ireturn, 1) := by decide +kernel
set_option maxRecDepth 20000 in
theorem ggX12_isTold_X12_wrongPairing : GoodIn wsX12_isTold wsX12_wrongPairing := goodIn_r _ [5, 6, 7, 8, 9, 10, 11, 12, 13, 4, 14, 15, 16, 17, 18, 19, 20, 21, 22, 23, 24, 25, 26, 27, 28, 29, 30, 31, 32, 33, 34, 35, 36, 37, 38, 39, 40, 41, 42, 43, 44, 45, 46, 47, 48] (by decide +kernel) (by decide +kernel)
set_option maxRecDepth 20000 in
theorem gX12_isTold_X12_wrongPairing : GoodIn wsX12_isTold (wsV RX12 160 RX12 yX12_wrongPairing wsX12_wrongPairing) := goodIn_app (goodIn_of _ (by decide +kernel)) ggX12_isTold_X12_wrongPairing
theorem dX12_isTold_0 : decode cX12_isTold 0 = .ok (.aload_n 0, 1) := by decide +kernel
theorem dX12_isTold_1 : decode cX12_isTold 1 = .ok (.iload_n 1, 1) := by decide +kernel
theorem dX12_isTold_14 : decode cX12_isTold 14 = .ok (.iload_n 2, 1) := by decide +kernel
theorem dX12_isTold_15 : decode cX12_isTold 15 = .ok (.bipush (-3), 2) := by decide +kernel
theorem dX12_isTold_17 : decode cX12_isTold 17 = .ok (.if_icmp .ne 7, 3) := by decide +kernel
theorem dX12_isTold_2 : decode cX12_isTold 2 = .ok (.invokevirtual 160, 3) := by decide +kernel
theorem dX12_isTold_24 : decode cX12_isTold 24 = .ok (.iload_n 2, 1) := by decide +kernel
theorem dX12_isTold_25 : decode cX12_isTold 25 = .ok (.ireturn, 1) := by decide +kernel
theorem dX12_isTold_5 : decode cX12_isTold 5 = .ok (.istore_n 2, 1) := by decide +kernel
theorem dX12_isTold_6 : decode cX12_isTold 6 = .ok (.iload_n 2, 1) := by decide +kernel
theorem dX12_isTold_7 : decode cX12_isTold 7 = .ok (.ifCond .ne 7, 3) := by decide +kernel
set_option maxRecDepth 20000 in
theorem ggX12_misses_X12_wrongPairing : GoodIn wsX12_misses wsX12_wrongPairing := goodIn_r _ [7, 8, 9, 1, 10, 11, 2, 12, 13, 6, 14, 15, 16, 17, 18, 19, 20, 21, 22, 23, 24, 25, 26, 27, 28, 29, 30, 31, 32, 33, 34, 35, 36, 37, 38, 39, 40, 41, 42, 43, 44, 45, 46, 47, 48] (by decide +kernel) (by decide +kernel)
set_option maxRecDepth 20000 in
theorem gX12_misses_X12_wrongPairing : GoodIn wsX12_misses (wsV RX12 160 RX12 yX12_wrongPairing wsX12_wrongPairing) := goodIn_app (goodIn_of _ (by decide +kernel)) ggX12_misses_X12_wrongPairing
theorem dX12_misses_0 : decode cX12_misses 0 = .ok (.aload_n 0, 1) := by decide +kernel
theorem dX12_misses_1 : decode cX12_misses 1 = .ok (.iload_n 1, 1) := by decide +kernel
theorem dX12_misses_10 : decode cX12_misses 10 = .ok (.iload_n 2, 1) := by decide +kernel
theorem dX12_misses_11 : decode cX12_misses 11 = .ok (.ireturn, 1) := by decide +kernel
theorem dX12_misses_2 : decode cX12_misses 2 = .ok (.invokevirtual 160, 3) := by decide +kernel
theorem dX12_misses_5 : decode cX12_misses 5 = .ok (.istore_n 2, 1) := by decide +kernel
theorem dX12_misses_6 : decode cX12_misses 6 = .ok (.iload_n 2, 1) := by decide +kernel
theorem dX12_misses_7 : decode cX12_misses 7 = .ok (.ifCond .eq 5, 3) := by decide +kernel
set_option maxRecDepth 20000 in
theorem ggX12_way_X12_wrongPairing : GoodIn wsX12_way wsX12_wrongPairing := goodIn_r _ [6, 7, 8, 9, 10, 11, 12, 13, 14, 5, 15, 16, 17, 18, 19, 20, 21, 22, 23, 24, 25, 34, 35, 36, 37, 38, 39, 40, 41, 42, 43, 44, 45, 46, 47, 48, 49, 50, 51, 52, 53, 54, 55, 56, 57] (by decide +kernel) (by decide +kernel)
set_option maxRecDepth 20000 in
theorem gX12_way_X12_wrongPairing : GoodIn wsX12_way (wsV RX12 160 RX12 yX12_wrongPairing wsX12_wrongPairing) := goodIn_app (goodIn_of _ (by decide +kernel)) ggX12_way_X12_wrongPairing
theorem dX12_way_0 : decode cX12_way 0 = .ok (.aload_n 0, 1) := by decide +kernel
theorem dX12_way_1 : decode cX12_way 1 = .ok (.iload_n 1, 1) := by decide +kernel
theorem dX12_way_10 : decode cX12_way 10 = .ok (.iload_n 3, 1) := by decide +kernel
theorem dX12_way_11 : decode cX12_way 11 = .ok (.ireturn, 1) := by decide +kernel
theorem dX12_way_2 : decode cX12_way 2 = .ok (.invokevirtual 160, 3) := by decide +kernel
theorem dX12_way_5 : decode cX12_way 5 = .ok (.istore_n 3, 1) := by decide +kernel
theorem dX12_way_6 : decode cX12_way 6 = .ok (.iload_n 3, 1) := by decide +kernel
theorem dX12_way_7 : decode cX12_way 7 = .ok (.ifCond .eq 5, 3) := by decide +kernel
set_option maxRecDepth 20000 in
theorem ggX12_grow_X12_wrongPairing : GoodIn wsX12_grow wsX12_wrongPairing := goodIn_r _ [8, 9, 10, 3, 1, 11, 12, 13, 14, 7, 15, 16, 17, 18, 19, 20, 21, 22, 23, 24, 25, 34, 35, 36, 37, 38, 39, 40, 41, 42, 43, 44, 45, 46, 47, 48, 49, 50, 51, 52, 53, 54, 55, 56, 57] (by decide +kernel) (by decide +kernel)
set_option maxRecDepth 20000 in
theorem gX12_grow_X12_wrongPairing : GoodIn wsX12_grow (wsV RX12 160 RX12 yX12_wrongPairing wsX12_wrongPairing) := goodIn_app (goodIn_of _ (by decide +kernel)) ggX12_grow_X12_wrongPairing
theorem dX12_grow_0 : decode cX12_grow 0 = .ok (.aload_n 0, 1) := by decide +kernel
theorem dX12_grow_1 : decode cX12_grow 1 = .ok (.iload_n 1, 1) := by decide +kernel
theorem dX12_grow_10 : decode cX12_grow 10 = .ok (.iload_n 2, 1) := by decide +kernel
theorem dX12_grow_11 : decode cX12_grow 11 = .ok (.ireturn, 1) := by decide +kernel
theorem dX12_grow_2 : decode cX12_grow 2 = .ok (.invokevirtual 160, 3) := by decide +kernel
theorem dX12_grow_5 : decode cX12_grow 5 = .ok (.istore_n 2, 1) := by decide +kernel
theorem dX12_grow_6 : decode cX12_grow 6 = .ok (.iload_n 2, 1) := by decide +kernel
theorem dX12_grow_7 : decode cX12_grow 7 = .ok (.ifCond .eq 5, 3) := by decide +kernel
set_option maxRecDepth 20000 in
theorem ggX12_chains_X12_in : GoodIn wsX12_chains wsX12_in := goodIn_r _ [11] (by decide +kernel) (by decide +kernel)
set_option maxRecDepth 20000 in
theorem gX12_chains_X12_in : GoodIn wsX12_chains (va_wsS RX12 66 yX12_in wsX12_in) := goodIn_app (goodIn_of _ (by decide +kernel)) ggX12_chains_X12_in
set_option maxRecDepth 20000 in
theorem ggX12_chains_X12_isSheet : GoodIn wsX12_chains wsX12_isSheet := goodIn_r _ [8, 9, 10, 7, 11] (by decide +kernel) (by decide +kernel)
set_option maxRecDepth 20000 in
theorem gX12_chains_X12_isSheet : GoodIn wsX12_chains (va_wsS RX12 157 yX12_isSheet wsX12_isSheet) := goodIn_app (goodIn_of _ (by decide +kernel)) ggX12_chains_X12_isSheet
theorem dX12_chains_0 : decode cX12_chains 0 = .ok (.iload_n 1, 1) := by decide +kernel
theorem dX12_chains_1 : decode cX12_chains 1 = .ok (.invokestatic 157, 3) := by decide +kernel
theorem dX12_chains_11 : decode cX12_chains 11 = .ok (.ifCond .eq 12, 3) := by decide +kernel
theorem dX12_chains_14 : decode cX12_chains 14 = .ok (.iload_n 3, 1) := by decide +kernel
theorem dX12_chains_15 : decode cX12_chains 15 = .ok (.iconst 0, 1) := by decide +kernel
theorem dX12_chains_16 : decode cX12_chains 16 = .ok (.iconst 2, 1) := by decide +kernel
theorem dX12_chains_17 : decode cX12_chains 17 = .ok (.invokestatic 66, 3) := by decide +kernel
theorem dX12_chains_20 : decode cX12_chains 20 = .ok (.ifCond .ne 6, 3) := by decide +kernel
theorem dX12_chains_23 : decode cX12_chains 23 = .ok (.bipush (-2), 2) := by decide +kernel
theorem dX12_chains_25 : decode cX12_chains 25 = .ok (.ireturn, 1) := by decide +kernel
theorem dX12_chains_26 : decode cX12_chains 26 = .ok (.aload_n 0, 1) := by decide +kernel
theorem dX12_chains_27 : decode cX12_chains 27 = .ok (.getfield 38, 3) := by decide +kernel
theorem dX12_chains_30 : decode cX12_chains 30 = .ok (.iload_n 1, 1) := by decide +kernel
theorem dX12_chains_31 : decode cX12_chains 31 = .ok (.iaload, 1) := by decide +kernel
theorem dX12_chains_32 : decode cX12_chains 32 = .ok (.iconst (-1), 1) := by decide +kernel
theorem dX12_chains_33 : decode cX12_chains 33 = .ok (.if_icmp .eq 13, 3) := by decide +kernel
theorem dX12_chains_4 : decode cX12_chains 4 = .ok (.ifCond .eq 19, 3) := by decide +kernel
theorem dX12_chains_46 : decode cX12_chains 46 = .ok (.bipush (-11), 2) := by decide +kernel
theorem dX12_chains_48 : decode cX12_chains 48 = .ok (.ireturn, 1) := by decide +kernel
theorem dX12_chains_7 : decode cX12_chains 7 = .ok (.iload_n 2, 1) := by decide +kernel
theorem dX12_chains_8 : decode cX12_chains 8 = .ok (.invokestatic 157, 3) := by decide +kernel
set_option maxRecDepth 20000 in
theorem ggX12_laysMates_X12_all : GoodIn wsX12_laysMates wsX12_all := goodIn_r _ [14, 9, 25, 26, 27, 28, 29, 30, 31, 32, 33, 34, 35, 36, 37, 38, 39, 40, 41, 42, 43, 44, 45, 46, 47, 48] (by decide +kernel) (by decide +kernel)
set_option maxRecDepth 20000 in
theorem gX12_laysMates_X12_all : GoodIn wsX12_laysMates (wsV RX12 70 RX12 yX12_all wsX12_all) := goodIn_app (goodIn_of _ (by decide +kernel)) ggX12_laysMates_X12_all
set_option maxRecDepth 20000 in
theorem ggX12_laysMates_X12_reckons : GoodIn wsX12_laysMates wsX12_reckons := goodIn_r _ [6, 7, 8, 9, 10, 11, 12, 13, 5, 14, 15, 16, 17, 18, 19, 20, 25, 26, 27, 28, 29, 30, 31, 32, 33, 34, 35, 36, 37, 38, 39, 40, 41, 42, 43, 44, 45, 46, 47, 48] (by decide +kernel) (by decide +kernel)
set_option maxRecDepth 20000 in
theorem gX12_laysMates_X12_reckons : GoodIn wsX12_laysMates (wsV RX12 107 RX12 yX12_reckons wsX12_reckons) := goodIn_app (goodIn_of _ (by decide +kernel)) ggX12_laysMates_X12_reckons
theorem dX12_laysMates_0 : decode cX12_laysMates 0 = .ok (.aload_n 0, 1) := by decide +kernel
theorem dX12_laysMates_1 : decode cX12_laysMates 1 = .ok (.invokevirtual 107, 3) := by decide +kernel
theorem dX12_laysMates_10 : decode cX12_laysMates 10 = .ok (.ifCond .eq 53, 3) := by decide +kernel
theorem dX12_laysMates_4 : decode cX12_laysMates 4 = .ok (.aload_n 0, 1) := by decide +kernel
theorem dX12_laysMates_5 : decode cX12_laysMates 5 = .ok (.invokevirtual 70, 3) := by decide +kernel
theorem dX12_laysMates_63 : decode cX12_laysMates 63 = .ok (.return_, 1) := by decide +kernel
theorem dX12_laysMates_8 : decode cX12_laysMates 8 = .ok (.istore_n 1, 1) := by decide +kernel
theorem dX12_laysMates_9 : decode cX12_laysMates 9 = .ok (.iload_n 1, 1) := by decide +kernel
set_option maxHeartbeats 4000000 in
set_option maxRecDepth 100000 in
theorem c_X12_pieces_0 (l : Launch) (D : va_G) (cI cS : ClassId) (sz : Nat) (h0 h1 h2 h3 h4 h5 h6 h7 h8 h9 h10 h11 h12 h13 h14 h15 : Nat) (x0 : Int32) : Met l yX12_pieces wsX12_pieces ({ frames := 3, cells := 0, slots := 0, locals := 120 }) (PQ D cI cS [(h0, .inr (12, [.int 0, .int 1, .ref h1, .ref h2, .ref h3, .ref h4, .ref h5, .ref h6, .ref h7, .ref h8, .int 0, .int 0, .int 0, .int 0, .int 0, .int 0, .ref h9, .ref h10, .ref h11, .ref h12, .ref h13, .ref h14, .ref h15, .int 0])), (h3, .inl (cI, 4096, .inl (fun _ => 0)))] sz [.ref h0, .int x0]) (QI D [(h0, .inr (12, [.int 0, .int 1, .ref h1, .ref h2, .ref h3, .ref h4, .ref h5, .ref h6, .ref h7, .ref h8, .int 0, .int 0, .int 0, .int 0, .int 0, .int 0, .ref h9, .ref h10, .ref h11, .ref h12, .ref h13, .ref h14, .ref h15, .int 0])), (h3, .inl (cI, 4096, .inl (fun _ => 0)))] [] sz (fun r => r = if x0 < 0 then ((-2) : Int32) else (if (1 : Int32) < x0 then ((-2) : Int32) else (0 : Int32)))) 0 0 (va_A [(h0, .inr (12, [.int 0, .int 1, .ref h1, .ref h2, .ref h3, .ref h4, .ref h5, .ref h6, .ref h7, .ref h8, .int 0, .int 0, .int 0, .int 0, .int 0, .int 0, .ref h9, .ref h10, .ref h11, .ref h12, .ref h13, .ref h14, .ref h15, .int 0])), (h3, .inl (cI, 4096, .inl (fun _ => 0)))] sz) := by
  refine Met.ofW (cc := cX12_pieces) (maxL := 2) (ret := (some .int)) (by decide) rfl ?_
  intro p e s m args below meth c s₁ B hml hv
  obtain ⟨rfl, hsz, hP, hKK, hD0⟩ := hv
  have hx := B.exec
  have hb := B.bytes
  have hr := B.returns
  have hts := atoms_spec (ws := wsX12_pieces) B.pre
  have hown : s.vm.findClass RX12 = some m.cls := findClass_of_methodNamed B.named
  have hlocks := B.notSynchronized
  have hK := hKK.1
  have hN := hKK.2
  subst hsz
  have hD := hD0.self (sz := s.heap.size)
  obtain ⟨A, hAe⟩ : ∃ A, A = va_A [(h0, .inr (12, [.int 0, .int 1, .ref h1, .ref h2, .ref h3, .ref h4, .ref h5, .ref h6, .ref h7, .ref h8, .int 0, .int 0, .int 0, .int 0, .int 0, .int 0, .ref h9, .ref h10, .ref h11, .ref h12, .ref h13, .ref h14, .ref h15, .int 0])), (h3, .inl (cI, 4096, .inl (fun _ => 0)))] s.heap.size := ⟨_, rfl⟩
  rw [← hAe] at hD
  have hA : ∀ q : Nat, s.heap.size ≤ q → A q := fun q h => by rw [hAe]; exact Or.inr h
  have hS : va_S A s.heap s.heap [] := va_S.rf
  have hl := lv_entry ([.ref h0, .int x0]) (n := 2) (Nat.le_of_ble_eq_true rfl)
  rw [lg_entry_eq]
  generalize (lg_sl ([.ref h0, .int x0]) ++ List.replicate (2 - (lg_sl ([.ref h0, .int x0])).length) Slot.unset).toArray = ls at hl ⊢
  have hl : lv_has ls 2 [(0, .ref h0), (1, .int x0)] := hl
  refine lv_iload_n hx hb dX12_pieces_0 rfl (lv_at hl 1 rfl) ?_
  refine lv_iconst (v := 0) hx hb dX12_pieces_1 (by decide) ?_
  refine lv_iconst (v := 1) hx hb dX12_pieces_2 (by decide) ?_
  have hPc := hP.sub (ws' := []) [] rfl
  refine lz_ss (As := [.int x0, .int 0, .int 1]) (rest := []) ⟨hx, hb, hml, hown, hts⟩ (c_X12_in_4 l D cI cS x0) hKK hPc (va_cwS 3 hts gX12_pieces_X12_in rfl rfl rfl (by decide +kernel) ⟨Nat.le_of_ble_eq_true rfl, Nat.le_of_ble_eq_true rfl⟩) rfl hl.1 rfl (Nat.le_of_ble_eq_true rfl) dX12_pieces_3 ⟨Nat.le_of_ble_eq_true rfl, Nat.le_of_ble_eq_true rfl⟩ (fun r253 hw => ?_)
  by_cases k254 : x0 < 0
  · rw [if_pos k254] at hw
    subst hw
    refine lv_if_eq (tgt := 21) hx hb dX12_pieces_6 (by decide) (fun c255 => ?_) (fun c255 => ?_)
    · refine lv_bipush (v := (-2)) hx hb dX12_pieces_21 (by decide) ?_
      have hP9 := hP.sub (ws' := []) [] rfl
      have hD9 := hD.sub (ws' := []) [] (by decide) rfl
      subst hAe
      exact W.iret (v := (-2)) hx hb hr (fun t ht hW => ⟨⟨_, (), rfl, by rw [if_pos k254], by rw [ht]; exact hP9, hD9⟩, hS.F ht⟩) hS.2.2 dX12_pieces_23
    · exact absurd c255 (by decide)
  · rw [if_neg k254] at hw
    by_cases k256 : (1 : Int32) < x0
    · rw [if_pos k256] at hw
      subst hw
      refine lv_if_eq (tgt := 21) hx hb dX12_pieces_6 (by decide) (fun c257 => ?_) (fun c257 => ?_)
      · refine lv_bipush (v := (-2)) hx hb dX12_pieces_21 (by decide) ?_
        have hP9 := hP.sub (ws' := []) [] rfl
        have hD9 := hD.sub (ws' := []) [] (by decide) rfl
        subst hAe
        exact W.iret (v := (-2)) hx hb hr (fun t ht hW => ⟨⟨_, (), rfl, by rw [if_neg k254, if_pos k256], by rw [ht]; exact hP9, hD9⟩, hS.F ht⟩) hS.2.2 dX12_pieces_23
      · exact absurd c257 (by decide)
    · rw [if_neg k256] at hw
      subst hw
      refine lv_if_eq (tgt := 21) hx hb dX12_pieces_6 (by decide) (fun c258 => ?_) (fun c258 => ?_)
      · exact absurd c258 (by decide)
      · refine lv_aload_n hx hb dX12_pieces_9 rfl (lv_at hl 0 rfl) ?_
        refine lv_aload_n hx hb dX12_pieces_10 rfl (lv_at hl 0 rfl) ?_
        refine lv_iload_n hx hb dX12_pieces_11 rfl (lv_at hl 1 rfl) ?_
        have hPc := hP.sub (ws' := [(h0, .inr (12, [.int 0, .int 1, .ref h1, .ref h2, .ref h3, .ref h4, .ref h5, .ref h6, .ref h7, .ref h8, .int 0, .int 0, .int 0, .int 0, .int 0, .int 0, .ref h9, .ref h10, .ref h11, .ref h12, .ref h13, .ref h14, .ref h15, .int 0])), (h3, .inl (cI, 4096, .inl (fun _ => 0)))]) [0, 1] rfl
        have hDc := hD.sub (ws' := [(h0, .inr (12, [.int 0, .int 1, .ref h1, .ref h2, .ref h3, .ref h4, .ref h5, .ref h6, .ref h7, .ref h8, .int 0, .int 0, .int 0, .int 0, .int 0, .int 0, .ref h9, .ref h10, .ref h11, .ref h12, .ref h13, .ref h14, .ref h15, .int 0])), (h3, .inl (cI, 4096, .inl (fun _ => 0)))]) [0, 1] (by decide) rfl
        refine lz_qi (wr := []) (w1 := [(h0, .inr (12, [.int 0, .int 1, .ref h1, .ref h2, .ref h3, .ref h4, .ref h5, .ref h6, .ref h7, .ref h8, .int 0, .int 0, .int 0, .int 0, .int 0, .int 0, .ref h9, .ref h10, .ref h11, .ref h12, .ref h13, .ref h14, .ref h15, .int 0])), (h3, .inl (cI, 4096, .inl (upd (fun _ => 0) 0 1)))]) (As := [.int x0]) (rest := [.ref h0]) ⟨hx, hb, hml, hown, hts⟩ (c_X12_setOf_0 l D cI cS _ h0 h1 h2 h3 h4 h5 h6 h7 h8 h9 h10 h11 h12 h13 h14 h15 x0) hKK hP hD hS hA [0, 1] [] (by decide) rfl rfl (by decide) (by decide) hPc hDc (ci := 12) rfl rfl (cwV 1 hts gX12_pieces_X12_setOf rfl rfl rfl (by decide +kernel) ⟨Nat.le_of_ble_eq_true rfl, Nat.le_of_ble_eq_true rfl⟩) rfl hl.1 rfl (Nat.le_of_ble_eq_true rfl) dX12_pieces_12 ⟨Nat.le_of_ble_eq_true rfl, Nat.le_of_ble_eq_true rfl⟩ (fun r259 H locs hw hP hD hS => ?_)
        have hP : va_P D cls [(h0, .inr (12, [.int 0, .int 1, .ref h1, .ref h2, .ref h3, .ref h4, .ref h5, .ref h6, .ref h7, .ref h8, .int 0, .int 0, .int 0, .int 0, .int 0, .int 0, .ref h9, .ref h10, .ref h11, .ref h12, .ref h13, .ref h14, .ref h15, .int 0])), (h3, .inl (cI, 4096, .inl (upd (fun _ => 0) 0 1)))] H := hP
        have hD : va_D A [(h0, .inr (12, [.int 0, .int 1, .ref h1, .ref h2, .ref h3, .ref h4, .ref h5, .ref h6, .ref h7, .ref h8, .int 0, .int 0, .int 0, .int 0, .int 0, .int 0, .ref h9, .ref h10, .ref h11, .ref h12, .ref h13, .ref h14, .ref h15, .int 0])), (h3, .inl (cI, 4096, .inl (upd (fun _ => 0) 0 1)))] := hD
        subst hw
        have hPc := hP.sub (ws' := [(h0, .inr (12, [.int 0, .int 1, .ref h1, .ref h2, .ref h3, .ref h4, .ref h5, .ref h6, .ref h7, .ref h8, .int 0, .int 0, .int 0, .int 0, .int 0, .int 0, .ref h9, .ref h10, .ref h11, .ref h12, .ref h13, .ref h14, .ref h15, .int 0]))]) [0] rfl
        refine lz_sv (As := [.int 0]) (rest := []) ⟨hx, hb, hml, hown, hts⟩ (c_X12_piecesOf_1 l D cI cS h0 h1 h2 h3 h4 h5 h6 h7 h8 h9 h10 h11 h12 h13 h14 h15) hKK hPc (ci := 12) rfl rfl (cwV 1 hts gX12_pieces_X12_piecesOf rfl rfl rfl (by decide +kernel) ⟨Nat.le_of_ble_eq_true rfl, Nat.le_of_ble_eq_true rfl⟩) rfl hl.1 rfl (Nat.le_of_ble_eq_true rfl) dX12_pieces_15 ⟨Nat.le_of_ble_eq_true rfl, Nat.le_of_ble_eq_true rfl⟩ (fun r260 hw => ?_)
        subst hw
        refine lv_goto (tgt := 23) hx hb dX12_pieces_18 (by decide) ?_
        have hP9 := hP.sub (ws' := []) [] rfl
        have hD9 := hD.sub (ws' := []) [] (by decide) rfl
        subst hAe
        exact W.iret (v := 0) hx hb hr (fun t ht hW => ⟨⟨_, (), rfl, by rw [if_neg k254, if_neg k256], by rw [ht]; exact hP9, hD9⟩, hS.F ht⟩) hS.2.2 dX12_pieces_23
set_option maxHeartbeats 4000000 in
set_option maxRecDepth 100000 in
theorem c_X12_pieceAt_0 (l : Launch) (D : va_G) (cI cS : ClassId) (sz : Nat) (h0 h1 h2 h3 h4 h5 h6 h7 h8 h9 h10 h11 h12 h13 h14 h15 : Nat) (x0 x1 : Int32) : Met l yX12_pieceAt wsX12_pieceAt ({ frames := 3, cells := 0, slots := 0, locals := 120 }) (PQ D cI cS [(h0, .inr (12, [.int 0, .int 1, .ref h1, .ref h2, .ref h3, .ref h4, .ref h5, .ref h6, .ref h7, .ref h8, .int 0, .int 0, .int 0, .int 0, .int 0, .int 0, .ref h9, .ref h10, .ref h11, .ref h12, .ref h13, .ref h14, .ref h15, .int 0])), (h3, .inl (cI, 4096, .inl (fun _ => 0)))] sz [.ref h0, .int x0, .int x1]) (QI D [(h0, .inr (12, [.int 0, .int 1, .ref h1, .ref h2, .ref h3, .ref h4, .ref h5, .ref h6, .ref h7, .ref h8, .int 0, .int 0, .int 0, .int 0, .int 0, .int 0, .ref h9, .ref h10, .ref h11, .ref h12, .ref h13, .ref h14, .ref h15, .int 0])), (h3, .inl (cI, 4096, .inl (fun _ => 0)))] [(h0, .inr (12, [.int 0, .int 1, .ref h1, .ref h2, .ref h3, .ref h4, .ref h5, .ref h6, .ref h7, .ref h8, .int 0, .int 0, .int 0, .int 0, .int 0, .int 0, .ref h9, .ref h10, .ref h11, .ref h12, .ref h13, .ref h14, .ref h15, .int 0])), (h3, .inl (cI, 4096, .inl (upd (fun _ => 0) 0 1)))] sz (fun r => r = (0 : Int32))) 0 0 (va_A [(h0, .inr (12, [.int 0, .int 1, .ref h1, .ref h2, .ref h3, .ref h4, .ref h5, .ref h6, .ref h7, .ref h8, .int 0, .int 0, .int 0, .int 0, .int 0, .int 0, .ref h9, .ref h10, .ref h11, .ref h12, .ref h13, .ref h14, .ref h15, .int 0])), (h3, .inl (cI, 4096, .inl (fun _ => 0)))] sz) := by
  refine Met.ofW (cc := cX12_pieceAt) (maxL := 5) (ret := (some .int)) (by decide) rfl ?_
  intro p e s m args below meth c s₁ B hml hv
  obtain ⟨rfl, hsz, hP, hKK, hD0⟩ := hv
  have hx := B.exec
  have hb := B.bytes
  have hr := B.returns
  have hts := atoms_spec (ws := wsX12_pieceAt) B.pre
  have hown : s.vm.findClass RX12 = some m.cls := findClass_of_methodNamed B.named
  have hlocks := B.notSynchronized
  have hK := hKK.1
  have hN := hKK.2
  subst hsz
  have hD := hD0.self (sz := s.heap.size)
  obtain ⟨A, hAe⟩ : ∃ A, A = va_A [(h0, .inr (12, [.int 0, .int 1, .ref h1, .ref h2, .ref h3, .ref h4, .ref h5, .ref h6, .ref h7, .ref h8, .int 0, .int 0, .int 0, .int 0, .int 0, .int 0, .ref h9, .ref h10, .ref h11, .ref h12, .ref h13, .ref h14, .ref h15, .int 0])), (h3, .inl (cI, 4096, .inl (fun _ => 0)))] s.heap.size := ⟨_, rfl⟩
  rw [← hAe] at hD
  have hA : ∀ q : Nat, s.heap.size ≤ q → A q := fun q h => by rw [hAe]; exact Or.inr h
  have hS : va_S A s.heap s.heap [] := va_S.rf
  have hl := lv_entry ([.ref h0, .int x0, .int x1]) (n := 5) (Nat.le_of_ble_eq_true rfl)
  rw [lg_entry_eq]
  generalize (lg_sl ([.ref h0, .int x0, .int x1]) ++ List.replicate (5 - (lg_sl ([.ref h0, .int x0, .int x1])).length) Slot.unset).toArray = ls at hl ⊢
  have hl : lv_has ls 5 [(0, .ref h0), (1, .int x0), (2, .int x1)] := hl
  refine lv_aload_n hx hb dX12_pieceAt_0 rfl (lv_at hl 0 rfl) ?_
  refine lv_iload_n hx hb dX12_pieceAt_1 rfl (lv_at hl 1 rfl) ?_
  have hPc := hP.sub (ws' := [(h0, .inr (12, [.int 0, .int 1, .ref h1, .ref h2, .ref h3, .ref h4, .ref h5, .ref h6, .ref h7, .ref h8, .int 0, .int 0, .int 0, .int 0, .int 0, .int 0, .ref h9, .ref h10, .ref h11, .ref h12, .ref h13, .ref h14, .ref h15, .int 0])), (h3, .inl (cI, 4096, .inl (fun _ => 0)))]) [0, 1] rfl
  have hDc := hD.sub (ws' := [(h0, .inr (12, [.int 0, .int 1, .ref h1, .ref h2, .ref h3, .ref h4, .ref h5, .ref h6, .ref h7, .ref h8, .int 0, .int 0, .int 0, .int 0, .int 0, .int 0, .ref h9, .ref h10, .ref h11, .ref h12, .ref h13, .ref h14, .ref h15, .int 0])), (h3, .inl (cI, 4096, .inl (fun _ => 0)))]) [0, 1] (by decide) rfl
  refine lz_qi (wr := []) (w1 := [(h0, .inr (12, [.int 0, .int 1, .ref h1, .ref h2, .ref h3, .ref h4, .ref h5, .ref h6, .ref h7, .ref h8, .int 0, .int 0, .int 0, .int 0, .int 0, .int 0, .ref h9, .ref h10, .ref h11, .ref h12, .ref h13, .ref h14, .ref h15, .int 0])), (h3, .inl (cI, 4096, .inl (upd (fun _ => 0) 0 1)))]) (As := [.int x0]) (rest := []) ⟨hx, hb, hml, hown, hts⟩ (c_X12_setOf_0 l D cI cS _ h0 h1 h2 h3 h4 h5 h6 h7 h8 h9 h10 h11 h12 h13 h14 h15 x0) hKK hP hD hS hA [0, 1] [] (by decide) rfl rfl (by decide) (by decide) hPc hDc (ci := 12) rfl rfl (cwV 1 hts gX12_pieceAt_X12_setOf rfl rfl rfl (by decide +kernel) ⟨Nat.le_of_ble_eq_true rfl, Nat.le_of_ble_eq_true rfl⟩) rfl hl.1 rfl (Nat.le_of_ble_eq_true rfl) dX12_pieceAt_2 ⟨Nat.le_of_ble_eq_true rfl, Nat.le_of_ble_eq_true rfl⟩ (fun r280 H locs hw hP hD hS => ?_)
  have hP : va_P D cls [(h0, .inr (12, [.int 0, .int 1, .ref h1, .ref h2, .ref h3, .ref h4, .ref h5, .ref h6, .ref h7, .ref h8, .int 0, .int 0, .int 0, .int 0, .int 0, .int 0, .ref h9, .ref h10, .ref h11, .ref h12, .ref h13, .ref h14, .ref h15, .int 0])), (h3, .inl (cI, 4096, .inl (upd (fun _ => 0) 0 1)))] H := hP
  have hD : va_D A [(h0, .inr (12, [.int 0, .int 1, .ref h1, .ref h2, .ref h3, .ref h4, .ref h5, .ref h6, .ref h7, .ref h8, .int 0, .int 0, .int 0, .int 0, .int 0, .int 0, .ref h9, .ref h10, .ref h11, .ref h12, .ref h13, .ref h14, .ref h15, .int 0])), (h3, .inl (cI, 4096, .inl (upd (fun _ => 0) 0 1)))] := hD
  subst hw
  refine lv_istore_n (lv' := [(3, .int 0), (0, .ref h0), (1, .int x0), (2, .int x1)]) hx hb dX12_pieceAt_5 rfl hl (by decide) rfl (fun ls hl => ?_)
  refine lv_iconst (v := 0) hx hb dX12_pieceAt_6 (by decide) ?_
  refine lv_istore (lv' := [(4, .int 0), (3, .int 0), (0, .ref h0), (1, .int x0), (2, .int x1)]) hx hb dX12_pieceAt_7 hl (by decide) rfl (fun ls hl => ?_)
  refine lv_iload hx hb dX12_pieceAt_9 (lv_at hl 0 rfl) ?_
  refine lv_iload_n hx hb dX12_pieceAt_11 rfl (lv_at hl 4 rfl) ?_
  refine lv_icmp_ge (tgt := 35) hx hb dX12_pieceAt_12 (by decide) (fun c281 => ?_) (fun c281 => ?_)
  · refine lv_iload_n hx hb dX12_pieceAt_35 rfl (lv_at hl 4 rfl) ?_
    refine lv_if_lt (tgt := 43) hx hb dX12_pieceAt_36 (by decide) (fun c282 => ?_) (fun c282 => ?_)
    · refine lv_iconst (v := 0) hx hb dX12_pieceAt_43 (by decide) ?_
      refine lv_goto (tgt := 52) hx hb dX12_pieceAt_44 (by decide) ?_
      have hP9 := hP.sub (ws' := [(h0, .inr (12, [.int 0, .int 1, .ref h1, .ref h2, .ref h3, .ref h4, .ref h5, .ref h6, .ref h7, .ref h8, .int 0, .int 0, .int 0, .int 0, .int 0, .int 0, .ref h9, .ref h10, .ref h11, .ref h12, .ref h13, .ref h14, .ref h15, .int 0])), (h3, .inl (cI, 4096, .inl (upd (fun _ => 0) 0 1)))]) [0, 1] rfl
      have hD9 := hD.sub (ws' := [(h0, .inr (12, [.int 0, .int 1, .ref h1, .ref h2, .ref h3, .ref h4, .ref h5, .ref h6, .ref h7, .ref h8, .int 0, .int 0, .int 0, .int 0, .int 0, .int 0, .ref h9, .ref h10, .ref h11, .ref h12, .ref h13, .ref h14, .ref h15, .int 0])), (h3, .inl (cI, 4096, .inl (upd (fun _ => 0) 0 1)))]) [0, 1] (by decide) rfl
      subst hAe
      exact W.iret (v := 0) hx hb hr (fun t ht hW => ⟨⟨_, (), rfl, rfl, by rw [ht]; exact hP9, hD9⟩, hS.F ht⟩) hS.2.2 dX12_pieceAt_52
    · refine lv_iload_n hx hb dX12_pieceAt_39 rfl (lv_at hl 1 rfl) ?_
      refine lv_if_ne (tgt := 47) hx hb dX12_pieceAt_40 (by decide) (fun c283 => ?_) (fun c283 => ?_)
      · exact absurd c283 (by decide)
      · refine lv_iconst (v := 0) hx hb dX12_pieceAt_43 (by decide) ?_
        refine lv_goto (tgt := 52) hx hb dX12_pieceAt_44 (by decide) ?_
        have hP9 := hP.sub (ws' := [(h0, .inr (12, [.int 0, .int 1, .ref h1, .ref h2, .ref h3, .ref h4, .ref h5, .ref h6, .ref h7, .ref h8, .int 0, .int 0, .int 0, .int 0, .int 0, .int 0, .ref h9, .ref h10, .ref h11, .ref h12, .ref h13, .ref h14, .ref h15, .int 0])), (h3, .inl (cI, 4096, .inl (upd (fun _ => 0) 0 1)))]) [0, 1] rfl
        have hD9 := hD.sub (ws' := [(h0, .inr (12, [.int 0, .int 1, .ref h1, .ref h2, .ref h3, .ref h4, .ref h5, .ref h6, .ref h7, .ref h8, .int 0, .int 0, .int 0, .int 0, .int 0, .int 0, .ref h9, .ref h10, .ref h11, .ref h12, .ref h13, .ref h14, .ref h15, .int 0])), (h3, .inl (cI, 4096, .inl (upd (fun _ => 0) 0 1)))]) [0, 1] (by decide) rfl
        subst hAe
        exact W.iret (v := 0) hx hb hr (fun t ht hW => ⟨⟨_, (), rfl, rfl, by rw [ht]; exact hP9, hD9⟩, hS.F ht⟩) hS.2.2 dX12_pieceAt_52
  · refine lv_iload_n hx hb dX12_pieceAt_15 rfl (lv_at hl 1 rfl) ?_
    refine lv_if_eq (tgt := 35) hx hb dX12_pieceAt_16 (by decide) (fun c284 => ?_) (fun c284 => ?_)
    · refine lv_iload_n hx hb dX12_pieceAt_35 rfl (lv_at hl 4 rfl) ?_
      refine lv_if_lt (tgt := 43) hx hb dX12_pieceAt_36 (by decide) (fun c285 => ?_) (fun c285 => ?_)
      · exact absurd c285 (show ¬ (x1 < 0) from by have zf1 := mt (lz_le x1 (0 : Int32)).mpr c281; have zn0 : (0 : Int32).toInt = 0 := (by decide); rw [lz_lt]; omega)
      · refine lv_iload_n hx hb dX12_pieceAt_39 rfl (lv_at hl 1 rfl) ?_
        refine lv_if_ne (tgt := 47) hx hb dX12_pieceAt_40 (by decide) (fun c286 => ?_) (fun c286 => ?_)
        · exact absurd c286 (by decide)
        · refine lv_iconst (v := 0) hx hb dX12_pieceAt_43 (by decide) ?_
          refine lv_goto (tgt := 52) hx hb dX12_pieceAt_44 (by decide) ?_
          have hP9 := hP.sub (ws' := [(h0, .inr (12, [.int 0, .int 1, .ref h1, .ref h2, .ref h3, .ref h4, .ref h5, .ref h6, .ref h7, .ref h8, .int 0, .int 0, .int 0, .int 0, .int 0, .int 0, .ref h9, .ref h10, .ref h11, .ref h12, .ref h13, .ref h14, .ref h15, .int 0])), (h3, .inl (cI, 4096, .inl (upd (fun _ => 0) 0 1)))]) [0, 1] rfl
          have hD9 := hD.sub (ws' := [(h0, .inr (12, [.int 0, .int 1, .ref h1, .ref h2, .ref h3, .ref h4, .ref h5, .ref h6, .ref h7, .ref h8, .int 0, .int 0, .int 0, .int 0, .int 0, .int 0, .ref h9, .ref h10, .ref h11, .ref h12, .ref h13, .ref h14, .ref h15, .int 0])), (h3, .inl (cI, 4096, .inl (upd (fun _ => 0) 0 1)))]) [0, 1] (by decide) rfl
          subst hAe
          exact W.iret (v := 0) hx hb hr (fun t ht hW => ⟨⟨_, (), rfl, rfl, by rw [ht]; exact hP9, hD9⟩, hS.F ht⟩) hS.2.2 dX12_pieceAt_52
    · exact absurd c284 (by decide)
set_option maxHeartbeats 4000000 in
set_option maxRecDepth 100000 in
theorem c_X12_piece_0 (l : Launch) (D : va_G) (cI cS : ClassId) (sz : Nat) (h0 h1 h2 h3 h4 h5 h6 h7 h8 h9 h10 h11 h12 h13 h14 h15 : Nat) (x0 x1 x2 : Int32) : Met l yX12_piece wsX12_piece ({ frames := 4, cells := 0, slots := 0, locals := 160 }) (PQ D cI cS [(h0, .inr (12, [.int 0, .int 1, .ref h1, .ref h2, .ref h3, .ref h4, .ref h5, .ref h6, .ref h7, .ref h8, .int 0, .int 0, .int 0, .int 0, .int 0, .int 0, .ref h9, .ref h10, .ref h11, .ref h12, .ref h13, .ref h14, .ref h15, .int 0])), (h3, .inl (cI, 4096, .inl (fun _ => 0)))] sz [.ref h0, .int x0, .int x1, .int x2]) (QI D [(h0, .inr (12, [.int 0, .int 1, .ref h1, .ref h2, .ref h3, .ref h4, .ref h5, .ref h6, .ref h7, .ref h8, .int 0, .int 0, .int 0, .int 0, .int 0, .int 0, .ref h9, .ref h10, .ref h11, .ref h12, .ref h13, .ref h14, .ref h15, .int 0])), (h3, .inl (cI, 4096, .inl (fun _ => 0)))] [] sz (fun r => r = if x0 < 0 then ((-2) : Int32) else (if (1 : Int32) < x0 then ((-2) : Int32) else (if x2 < 0 then ((-2) : Int32) else (if (1 : Int32) < x2 then ((-2) : Int32) else ((-1) : Int32)))))) 0 0 (va_A [(h0, .inr (12, [.int 0, .int 1, .ref h1, .ref h2, .ref h3, .ref h4, .ref h5, .ref h6, .ref h7, .ref h8, .int 0, .int 0, .int 0, .int 0, .int 0, .int 0, .ref h9, .ref h10, .ref h11, .ref h12, .ref h13, .ref h14, .ref h15, .int 0])), (h3, .inl (cI, 4096, .inl (fun _ => 0)))] sz) := by
  refine Met.ofW (cc := cX12_piece) (maxL := 5) (ret := (some .int)) (by decide) rfl ?_
  intro p e s m args below meth c s₁ B hml hv
  obtain ⟨rfl, hsz, hP, hKK, hD0⟩ := hv
  have hx := B.exec
  have hb := B.bytes
  have hr := B.returns
  have hts := atoms_spec (ws := wsX12_piece) B.pre
  have hown : s.vm.findClass RX12 = some m.cls := findClass_of_methodNamed B.named
  have hlocks := B.notSynchronized
  have hK := hKK.1
  have hN := hKK.2
  subst hsz
  have hD := hD0.self (sz := s.heap.size)
  obtain ⟨A, hAe⟩ : ∃ A, A = va_A [(h0, .inr (12, [.int 0, .int 1, .ref h1, .ref h2, .ref h3, .ref h4, .ref h5, .ref h6, .ref h7, .ref h8, .int 0, .int 0, .int 0, .int 0, .int 0, .int 0, .ref h9, .ref h10, .ref h11, .ref h12, .ref h13, .ref h14, .ref h15, .int 0])), (h3, .inl (cI, 4096, .inl (fun _ => 0)))] s.heap.size := ⟨_, rfl⟩
  rw [← hAe] at hD
  have hA : ∀ q : Nat, s.heap.size ≤ q → A q := fun q h => by rw [hAe]; exact Or.inr h
  have hS : va_S A s.heap s.heap [] := va_S.rf
  have hl := lv_entry ([.ref h0, .int x0, .int x1, .int x2]) (n := 5) (Nat.le_of_ble_eq_true rfl)
  rw [lg_entry_eq]
  generalize (lg_sl ([.ref h0, .int x0, .int x1, .int x2]) ++ List.replicate (5 - (lg_sl ([.ref h0, .int x0, .int x1, .int x2])).length) Slot.unset).toArray = ls at hl ⊢
  have hl : lv_has ls 5 [(0, .ref h0), (1, .int x0), (2, .int x1), (3, .int x2)] := hl
  refine lv_iload_n hx hb dX12_piece_0 rfl (lv_at hl 1 rfl) ?_
  refine lv_iconst (v := 0) hx hb dX12_piece_1 (by decide) ?_
  refine lv_iconst (v := 1) hx hb dX12_piece_2 (by decide) ?_
  have hPc := hP.sub (ws' := []) [] rfl
  refine lz_ss (As := [.int x0, .int 0, .int 1]) (rest := []) ⟨hx, hb, hml, hown, hts⟩ (c_X12_in_4 l D cI cS x0) hKK hPc (va_cwS 3 hts gX12_piece_X12_in rfl rfl rfl (by decide +kernel) ⟨Nat.le_of_ble_eq_true rfl, Nat.le_of_ble_eq_true rfl⟩) rfl hl.1 rfl (Nat.le_of_ble_eq_true rfl) dX12_piece_3 ⟨Nat.le_of_ble_eq_true rfl, Nat.le_of_ble_eq_true rfl⟩ (fun r289 hw => ?_)
  by_cases k290 : x0 < 0
  · rw [if_pos k290] at hw
    subst hw
    refine lv_if_eq (tgt := 18) hx hb dX12_piece_6 (by decide) (fun c291 => ?_) (fun c291 => ?_)
    · refine lv_bipush (v := (-2)) hx hb dX12_piece_18 (by decide) ?_
      have hP9 := hP.sub (ws' := []) [] rfl
      have hD9 := hD.sub (ws' := []) [] (by decide) rfl
      subst hAe
      exact W.iret (v := (-2)) hx hb hr (fun t ht hW => ⟨⟨_, (), rfl, by rw [if_pos k290], by rw [ht]; exact hP9, hD9⟩, hS.F ht⟩) hS.2.2 dX12_piece_20
    · exact absurd c291 (by decide)
  · rw [if_neg k290] at hw
    by_cases k292 : (1 : Int32) < x0
    · rw [if_pos k292] at hw
      subst hw
      refine lv_if_eq (tgt := 18) hx hb dX12_piece_6 (by decide) (fun c293 => ?_) (fun c293 => ?_)
      · refine lv_bipush (v := (-2)) hx hb dX12_piece_18 (by decide) ?_
        have hP9 := hP.sub (ws' := []) [] rfl
        have hD9 := hD.sub (ws' := []) [] (by decide) rfl
        subst hAe
        exact W.iret (v := (-2)) hx hb hr (fun t ht hW => ⟨⟨_, (), rfl, by rw [if_neg k290, if_pos k292], by rw [ht]; exact hP9, hD9⟩, hS.F ht⟩) hS.2.2 dX12_piece_20
      · exact absurd c293 (by decide)
    · rw [if_neg k292] at hw
      subst hw
      refine lv_if_eq (tgt := 18) hx hb dX12_piece_6 (by decide) (fun c294 => ?_) (fun c294 => ?_)
      · exact absurd c294 (by decide)
      · refine lv_iload_n hx hb dX12_piece_9 rfl (lv_at hl 3 rfl) ?_
        refine lv_iconst (v := 0) hx hb dX12_piece_10 (by decide) ?_
        refine lv_iconst (v := 1) hx hb dX12_piece_11 (by decide) ?_
        have hPc := hP.sub (ws' := []) [] rfl
        refine lz_ss (As := [.int x2, .int 0, .int 1]) (rest := []) ⟨hx, hb, hml, hown, hts⟩ (c_X12_in_4 l D cI cS x2) hKK hPc (va_cwS 3 hts gX12_piece_X12_in rfl rfl rfl (by decide +kernel) ⟨Nat.le_of_ble_eq_true rfl, Nat.le_of_ble_eq_true rfl⟩) rfl hl.1 rfl (Nat.le_of_ble_eq_true rfl) dX12_piece_12 ⟨Nat.le_of_ble_eq_true rfl, Nat.le_of_ble_eq_true rfl⟩ (fun r295 hw => ?_)
        by_cases k296 : x2 < 0
        · rw [if_pos k296] at hw
          subst hw
          refine lv_if_ne (tgt := 21) hx hb dX12_piece_15 (by decide) (fun c297 => ?_) (fun c297 => ?_)
          · exact absurd c297 (by decide)
          · refine lv_bipush (v := (-2)) hx hb dX12_piece_18 (by decide) ?_
            have hP9 := hP.sub (ws' := []) [] rfl
            have hD9 := hD.sub (ws' := []) [] (by decide) rfl
            subst hAe
            exact W.iret (v := (-2)) hx hb hr (fun t ht hW => ⟨⟨_, (), rfl, by rw [if_neg k290, if_neg k292, if_pos k296], by rw [ht]; exact hP9, hD9⟩, hS.F ht⟩) hS.2.2 dX12_piece_20
        · rw [if_neg k296] at hw
          by_cases k298 : (1 : Int32) < x2
          · rw [if_pos k298] at hw
            subst hw
            refine lv_if_ne (tgt := 21) hx hb dX12_piece_15 (by decide) (fun c299 => ?_) (fun c299 => ?_)
            · exact absurd c299 (by decide)
            · refine lv_bipush (v := (-2)) hx hb dX12_piece_18 (by decide) ?_
              have hP9 := hP.sub (ws' := []) [] rfl
              have hD9 := hD.sub (ws' := []) [] (by decide) rfl
              subst hAe
              exact W.iret (v := (-2)) hx hb hr (fun t ht hW => ⟨⟨_, (), rfl, by rw [if_neg k290, if_neg k292, if_neg k296, if_pos k298], by rw [ht]; exact hP9, hD9⟩, hS.F ht⟩) hS.2.2 dX12_piece_20
          · rw [if_neg k298] at hw
            subst hw
            refine lv_if_ne (tgt := 21) hx hb dX12_piece_15 (by decide) (fun c300 => ?_) (fun c300 => ?_)
            · refine lv_aload_n hx hb dX12_piece_21 rfl (lv_at hl 0 rfl) ?_
              refine lv_iload_n hx hb dX12_piece_22 rfl (lv_at hl 1 rfl) ?_
              refine lv_iload_n hx hb dX12_piece_23 rfl (lv_at hl 2 rfl) ?_
              have hPc := hP.sub (ws' := [(h0, .inr (12, [.int 0, .int 1, .ref h1, .ref h2, .ref h3, .ref h4, .ref h5, .ref h6, .ref h7, .ref h8, .int 0, .int 0, .int 0, .int 0, .int 0, .int 0, .ref h9, .ref h10, .ref h11, .ref h12, .ref h13, .ref h14, .ref h15, .int 0])), (h3, .inl (cI, 4096, .inl (fun _ => 0)))]) [0, 1] rfl
              have hDc := hD.sub (ws' := [(h0, .inr (12, [.int 0, .int 1, .ref h1, .ref h2, .ref h3, .ref h4, .ref h5, .ref h6, .ref h7, .ref h8, .int 0, .int 0, .int 0, .int 0, .int 0, .int 0, .ref h9, .ref h10, .ref h11, .ref h12, .ref h13, .ref h14, .ref h15, .int 0])), (h3, .inl (cI, 4096, .inl (fun _ => 0)))]) [0, 1] (by decide) rfl
              refine lz_qi (wr := []) (w1 := [(h0, .inr (12, [.int 0, .int 1, .ref h1, .ref h2, .ref h3, .ref h4, .ref h5, .ref h6, .ref h7, .ref h8, .int 0, .int 0, .int 0, .int 0, .int 0, .int 0, .ref h9, .ref h10, .ref h11, .ref h12, .ref h13, .ref h14, .ref h15, .int 0])), (h3, .inl (cI, 4096, .inl (upd (fun _ => 0) 0 1)))]) (As := [.int x0, .int x1]) (rest := []) ⟨hx, hb, hml, hown, hts⟩ (c_X12_pieceAt_0 l D cI cS _ h0 h1 h2 h3 h4 h5 h6 h7 h8 h9 h10 h11 h12 h13 h14 h15 x0 x1) hKK hP hD hS hA [0, 1] [] (by decide) rfl rfl (by decide) (by decide) hPc hDc (ci := 12) rfl rfl (cwV 2 hts gX12_piece_X12_pieceAt rfl rfl rfl (by decide +kernel) ⟨Nat.le_of_ble_eq_true rfl, Nat.le_of_ble_eq_true rfl⟩) rfl hl.1 rfl (Nat.le_of_ble_eq_true rfl) dX12_piece_24 ⟨Nat.le_of_ble_eq_true rfl, Nat.le_of_ble_eq_true rfl⟩ (fun r301 H locs hw hP hD hS => ?_)
              have hP : va_P D cls [(h0, .inr (12, [.int 0, .int 1, .ref h1, .ref h2, .ref h3, .ref h4, .ref h5, .ref h6, .ref h7, .ref h8, .int 0, .int 0, .int 0, .int 0, .int 0, .int 0, .ref h9, .ref h10, .ref h11, .ref h12, .ref h13, .ref h14, .ref h15, .int 0])), (h3, .inl (cI, 4096, .inl (upd (fun _ => 0) 0 1)))] H := hP
              have hD : va_D A [(h0, .inr (12, [.int 0, .int 1, .ref h1, .ref h2, .ref h3, .ref h4, .ref h5, .ref h6, .ref h7, .ref h8, .int 0, .int 0, .int 0, .int 0, .int 0, .int 0, .ref h9, .ref h10, .ref h11, .ref h12, .ref h13, .ref h14, .ref h15, .int 0])), (h3, .inl (cI, 4096, .inl (upd (fun _ => 0) 0 1)))] := hD
              subst hw
              refine lv_istore (lv' := [(4, .int 0), (0, .ref h0), (1, .int x0), (2, .int x1), (3, .int x2)]) hx hb dX12_piece_27 hl (by decide) rfl (fun ls hl => ?_)
              refine lv_iload hx hb dX12_piece_29 (lv_at hl 0 rfl) ?_
              refine lv_if_ne (tgt := 38) hx hb dX12_piece_31 (by decide) (fun c302 => ?_) (fun c302 => ?_)
              · exact absurd c302 (by decide)
              · refine lv_iconst (v := (-1)) hx hb dX12_piece_34 (by decide) ?_
                refine lv_goto (tgt := 59) hx hb dX12_piece_35 (by decide) ?_
                have hP9 := hP.sub (ws' := []) [] rfl
                have hD9 := hD.sub (ws' := []) [] (by decide) rfl
                subst hAe
                exact W.iret (v := (-1)) hx hb hr (fun t ht hW => ⟨⟨_, (), rfl, by rw [if_neg k290, if_neg k292, if_neg k296, if_neg k298], by rw [ht]; exact hP9, hD9⟩, hS.F ht⟩) hS.2.2 dX12_piece_59
            · exact absurd c300 (by decide)
set_option maxHeartbeats 4000000 in
set_option maxRecDepth 100000 in
theorem c_X12_isSet_1 (l : Launch) (D : va_G) (cI cS : ClassId) (h0 h1 h2 h3 h4 h5 h6 h7 h8 h9 h10 h11 h12 h13 h14 h15 : Nat) (x0 : Int32) : Met l yX12_isSet wsX12_isSet ({ frames := 1, cells := 0, slots := 0, locals := 40 }) (PS D cI cS [(h0, .inr (12, [.int 0, .int 1, .ref h1, .ref h2, .ref h3, .ref h4, .ref h5, .ref h6, .ref h7, .ref h8, .int 0, .int 0, .int 0, .int 0, .int 0, .int 0, .ref h9, .ref h10, .ref h11, .ref h12, .ref h13, .ref h14, .ref h15, .int 0]))] [.ref h0, .int x0]) (vp_Si (fun r => r = if x0 = 0 then (1 : Int32) else (0 : Int32))) 0 0 (fun _ => False) := by
  refine Met.ofW (cc := cX12_isSet) (maxL := 2) (ret := (some .boolean)) (by decide) rfl ?_
  intro p e s m args below meth c s₁ B hml hv
  obtain ⟨rfl, hP, hKK⟩ := hv
  have hx := B.exec
  have hb := B.bytes
  have hr := B.returns
  have hts := atoms_spec (ws := wsX12_isSet) B.pre
  have hown : s.vm.findClass RX12 = some m.cls := findClass_of_methodNamed B.named
  have hlocks := B.notSynchronized
  have hK := hKK.1
  have hN := hKK.2
  have hl := lv_entry ([.ref h0, .int x0]) (n := 2) (Nat.le_of_ble_eq_true rfl)
  rw [lg_entry_eq]
  generalize (lg_sl ([.ref h0, .int x0]) ++ List.replicate (2 - (lg_sl ([.ref h0, .int x0])).length) Slot.unset).toArray = ls at hl ⊢
  have hl : lv_has ls 2 [(0, .ref h0), (1, .int x0)] := hl
  refine lv_iload_n hx hb dX12_isSet_0 rfl (lv_at hl 1 rfl) ?_
  refine lv_aload_n hx hb dX12_isSet_1 rfl (lv_at hl 0 rfl) ?_
  have hPc := hP.sub (ws' := [(h0, .inr (12, [.int 0, .int 1, .ref h1, .ref h2, .ref h3, .ref h4, .ref h5, .ref h6, .ref h7, .ref h8, .int 0, .int 0, .int 0, .int 0, .int 0, .int 0, .ref h9, .ref h10, .ref h11, .ref h12, .ref h13, .ref h14, .ref h15, .int 0]))]) [0] rfl
  refine lz_sv (As := []) (rest := [.int x0]) ⟨hx, hb, hml, hown, hts⟩ (c_X12_all_0 l D cI cS h0 h1 h2 h3 h4 h5 h6 h7 h8 h9 h10 h11 h12 h13 h14 h15) hKK hPc (ci := 12) rfl rfl (cwV 0 hts gX12_isSet_X12_all rfl rfl rfl (by decide +kernel) ⟨Nat.le_of_ble_eq_true rfl, Nat.le_of_ble_eq_true rfl⟩) rfl hl.1 rfl (Nat.le_of_ble_eq_true rfl) dX12_isSet_2 ⟨Nat.le_of_ble_eq_true rfl, Nat.le_of_ble_eq_true rfl⟩ (fun r306 hw => ?_)
  subst hw
  refine lv_iconst (v := (-1)) hx hb dX12_isSet_5 (by decide) ?_
  refine lv_ixor hx hb dX12_isSet_6 ?_
  refine lz_top (y := (-1)) (by decide) ?_
  refine lv_iand hx hb dX12_isSet_7 ?_
  refine lz_top (y := x0) (by simp) ?_
  refine lv_if_ne (tgt := 15) hx hb dX12_isSet_8 (by decide) (fun c307 => ?_) (fun c307 => ?_)
  · refine lv_iconst (v := 0) hx hb dX12_isSet_15 (by decide) ?_
    exact W.zret (v := 0) hx hb hr (by decide) (fun t ht hW => ⟨_, rfl, by rw [if_neg c307], ht⟩) (fun q hq => absurd hq List.not_mem_nil) dX12_isSet_16
  · subst c307
    refine lv_iconst (v := 1) hx hb dX12_isSet_11 (by decide) ?_
    refine lv_goto (tgt := 16) hx hb dX12_isSet_12 (by decide) ?_
    exact W.zret (v := 1) hx hb hr (by decide) (fun t ht hW => ⟨_, rfl, by rw [if_pos rfl], ht⟩) (fun q hq => absurd hq List.not_mem_nil) dX12_isSet_16
set_option maxHeartbeats 4000000 in
set_option maxRecDepth 100000 in
theorem c_X12_markedSet_3 (l : Launch) (D : va_G) (cI cS : ClassId) (h0 h1 h2 h3 h4 h5 h6 h7 h8 h9 h10 h11 h12 h13 h14 h15 : Nat) : Met l yX12_markedSet wsX12_markedSet ({ frames := 0, cells := 0, slots := 0, locals := 0 }) (PS D cI cS [(h0, .inr (12, [.int 0, .int 1, .ref h1, .ref h2, .ref h3, .ref h4, .ref h5, .ref h6, .ref h7, .ref h8, .int 0, .int 0, .int 0, .int 0, .int 0, .int 0, .ref h9, .ref h10, .ref h11, .ref h12, .ref h13, .ref h14, .ref h15, .int 0]))] [.ref h0, .int 1]) (vp_Si (fun r => r = (0 : Int32))) 0 0 (fun _ => False) := by
  refine Met.ofW (cc := cX12_markedSet) (maxL := 5) (ret := (some .int)) (by decide) rfl ?_
  intro p e s m args below meth c s₁ B hml hv
  obtain ⟨rfl, hP, hKK⟩ := hv
  have hx := B.exec
  have hb := B.bytes
  have hr := B.returns
  have hts := atoms_spec (ws := wsX12_markedSet) B.pre
  have hown : s.vm.findClass RX12 = some m.cls := findClass_of_methodNamed B.named
  have hlocks := B.notSynchronized
  have hK := hKK.1
  have hN := hKK.2
  have hin12 : ∀ w ∈ wsX120, w ∈ wsX12_markedSet := by decide +kernel
  have hl := lv_entry ([.ref h0, .int 1]) (n := 5) (Nat.le_of_ble_eq_true rfl)
  rw [lg_entry_eq]
  generalize (lg_sl ([.ref h0, .int 1]) ++ List.replicate (5 - (lg_sl ([.ref h0, .int 1])).length) Slot.unset).toArray = ls at hl ⊢
  have hl : lv_has ls 5 [(0, .ref h0), (1, .int 1)] := hl
  refine lv_iconst (v := 0) hx hb dX12_markedSet_0 (by decide) ?_
  refine lv_istore_n (lv' := [(2, .int 0), (0, .ref h0), (1, .int 1)]) hx hb dX12_markedSet_1 rfl hl (by decide) rfl (fun ls hl => ?_)
  refine lv_iconst (v := 0) hx hb dX12_markedSet_2 (by decide) ?_
  refine lv_istore_n (lv' := [(3, .int 0), (2, .int 0), (0, .ref h0), (1, .int 1)]) hx hb dX12_markedSet_3 rfl hl (by decide) rfl (fun ls hl => ?_)
  refine lv_iconst (v := 0) hx hb dX12_markedSet_4 (by decide) ?_
  refine lv_istore (lv' := [(4, .int 0), (3, .int 0), (2, .int 0), (0, .ref h0), (1, .int 1)]) hx hb dX12_markedSet_5 hl (by decide) rfl (fun ls hl => ?_)
  refine lv_iload hx hb dX12_markedSet_7 (lv_at hl 0 rfl) ?_
  refine lv_aload_n hx hb dX12_markedSet_9 rfl (lv_at hl 3 rfl) ?_
  refine va_get (D := D) (ci := 12) (v := .int 0) (C := RX12) (T := TX12) (N := 24) hx hb hts hin12 hown hK hP 0 rfl rfl 0 (by decide) (hts (.fieldLink RX12 63 "MissedPointsModel" "many" "I") (by decide +kernel)) (fun _ h9 => h9) rfl dX12_markedSet_10 ?_
  refine lv_icmp_ge (tgt := 65) hx hb dX12_markedSet_13 (by decide) (fun c314 => ?_) (fun c314 => ?_)
  · refine lv_iload_n hx hb dX12_markedSet_65 rfl (lv_at hl 1 rfl) ?_
    refine lv_iload_n hx hb dX12_markedSet_66 rfl (lv_at hl 2 rfl) ?_
    refine lv_iconst (v := (-1)) hx hb dX12_markedSet_67 (by decide) ?_
    refine lv_ixor hx hb dX12_markedSet_68 ?_
    refine lz_top (y := (-1)) (by decide) ?_
    refine lv_iand hx hb dX12_markedSet_69 ?_
    refine lz_top (y := 0) (by decide) ?_
    refine lv_istore (lv' := [(4, .int 0), (3, .int 0), (2, .int 0), (0, .ref h0), (1, .int 1)]) hx hb dX12_markedSet_70 hl (by decide) rfl (fun ls hl => ?_)
    refine lv_iload_n hx hb dX12_markedSet_72 rfl (lv_at hl 4 rfl) ?_
    refine lv_if_ne (tgt := 80) hx hb dX12_markedSet_73 (by decide) (fun c315 => ?_) (fun c315 => ?_)
    · refine lv_iload_n hx hb dX12_markedSet_80 rfl (lv_at hl 4 rfl) ?_
      refine lv_iconst (v := 1) hx hb dX12_markedSet_81 (by decide) ?_
      refine lv_icmp_ne (tgt := 90) hx hb dX12_markedSet_82 (by decide) (fun c316 => ?_) (fun c316 => ?_)
      · exact absurd c316 (by decide)
      · refine lv_iload hx hb dX12_markedSet_85 (lv_at hl 0 rfl) ?_
        refine lv_goto (tgt := 103) hx hb dX12_markedSet_87 (by decide) ?_
        exact W.iret (v := 0) hx hb hr (fun t ht hW => ⟨_, rfl, rfl, ht⟩) (fun q hq => absurd hq List.not_mem_nil) dX12_markedSet_103
    · exact absurd c315 (by decide)
  · exact absurd c314 (by decide)
set_option maxHeartbeats 4000000 in
set_option maxRecDepth 100000 in
theorem c_X12_bits_0 (l : Launch) (D : va_G) (cI cS : ClassId) : Met l yX12_bits wsX12_bits ({ frames := 0, cells := 0, slots := 0, locals := 0 }) (PS D cI cS [] [.int 0]) (vp_Si (fun r => r = (0 : Int32))) 0 0 (fun _ => False) := by
  refine Met.ofW (cc := cX12_bits) (maxL := 3) (ret := (some .int)) (by decide) rfl ?_
  intro p e s m args below meth c s₁ B hml hv
  obtain ⟨rfl, hP, hKK⟩ := hv
  have hx := B.exec
  have hb := B.bytes
  have hr := B.returns
  have hts := atoms_spec (ws := wsX12_bits) B.pre
  have hown : s.vm.findClass RX12 = some m.cls := findClass_of_methodNamed B.named
  have hlocks := B.notSynchronized
  have hK := hKK.1
  have hN := hKK.2
  have hl := lv_entry ([.int 0]) (n := 3) (Nat.le_of_ble_eq_true rfl)
  rw [lg_entry_eq]
  generalize (lg_sl ([.int 0]) ++ List.replicate (3 - (lg_sl ([.int 0])).length) Slot.unset).toArray = ls at hl ⊢
  have hl : lv_has ls 3 [(0, .int 0)] := hl
  refine lv_iconst (v := 0) hx hb dX12_bits_0 (by decide) ?_
  refine lv_istore_n (lv' := [(1, .int 0), (0, .int 0)]) hx hb dX12_bits_1 rfl hl (by decide) rfl (fun ls hl => ?_)
  refine lv_iload_n hx hb dX12_bits_2 rfl (lv_at hl 1 rfl) ?_
  refine lv_istore_n (lv' := [(2, .int 0), (1, .int 0), (0, .int 0)]) hx hb dX12_bits_3 rfl hl (by decide) rfl (fun ls hl => ?_)
  refine lv_iload_n hx hb dX12_bits_4 rfl (lv_at hl 0 rfl) ?_
  refine lv_if_eq (tgt := 20) hx hb dX12_bits_5 (by decide) (fun c320 => ?_) (fun c320 => ?_)
  · refine lv_iload_n hx hb dX12_bits_20 rfl (lv_at hl 1 rfl) ?_
    exact W.iret (v := 0) hx hb hr (fun t ht hW => ⟨_, rfl, rfl, ht⟩) (fun q hq => absurd hq List.not_mem_nil) dX12_bits_21
  · exact absurd c320 (by decide)
set_option maxHeartbeats 4000000 in
set_option maxRecDepth 100000 in
theorem c_X12_surplus_0 (l : Launch) (D : va_G) (cI cS : ClassId) (sz : Nat) (h0 h1 h2 h3 h4 h5 h6 h7 h8 h9 h10 h11 h12 h13 h14 h15 : Nat) (x0 : Int32) : Met l yX12_surplus wsX12_surplus ({ frames := 2, cells := 0, slots := 0, locals := 80 }) (PQ D cI cS [(h0, .inr (12, [.int 0, .int 1, .ref h1, .ref h2, .ref h3, .ref h4, .ref h5, .ref h6, .ref h7, .ref h8, .int 0, .int 0, .int 0, .int 0, .int 0, .int 0, .ref h9, .ref h10, .ref h11, .ref h12, .ref h13, .ref h14, .ref h15, .int 0])), (h3, .inl (cI, 4096, .inl (fun _ => 0)))] sz [.ref h0, .int x0]) (QI D [(h0, .inr (12, [.int 0, .int 1, .ref h1, .ref h2, .ref h3, .ref h4, .ref h5, .ref h6, .ref h7, .ref h8, .int 0, .int 0, .int 0, .int 0, .int 0, .int 0, .ref h9, .ref h10, .ref h11, .ref h12, .ref h13, .ref h14, .ref h15, .int 0])), (h3, .inl (cI, 4096, .inl (fun _ => 0)))] [] sz (fun r => r = if x0 = 0 then (0 : Int32) else ((-2) : Int32))) 0 0 (va_A [(h0, .inr (12, [.int 0, .int 1, .ref h1, .ref h2, .ref h3, .ref h4, .ref h5, .ref h6, .ref h7, .ref h8, .int 0, .int 0, .int 0, .int 0, .int 0, .int 0, .ref h9, .ref h10, .ref h11, .ref h12, .ref h13, .ref h14, .ref h15, .int 0])), (h3, .inl (cI, 4096, .inl (fun _ => 0)))] sz) := by
  refine Met.ofW (cc := cX12_surplus) (maxL := 4) (ret := (some .int)) (by decide) rfl ?_
  intro p e s m args below meth c s₁ B hml hv
  obtain ⟨rfl, hsz, hP, hKK, hD0⟩ := hv
  have hx := B.exec
  have hb := B.bytes
  have hr := B.returns
  have hts := atoms_spec (ws := wsX12_surplus) B.pre
  have hown : s.vm.findClass RX12 = some m.cls := findClass_of_methodNamed B.named
  have hlocks := B.notSynchronized
  have hK := hKK.1
  have hN := hKK.2
  subst hsz
  have hD := hD0.self (sz := s.heap.size)
  obtain ⟨A, hAe⟩ : ∃ A, A = va_A [(h0, .inr (12, [.int 0, .int 1, .ref h1, .ref h2, .ref h3, .ref h4, .ref h5, .ref h6, .ref h7, .ref h8, .int 0, .int 0, .int 0, .int 0, .int 0, .int 0, .ref h9, .ref h10, .ref h11, .ref h12, .ref h13, .ref h14, .ref h15, .int 0])), (h3, .inl (cI, 4096, .inl (fun _ => 0)))] s.heap.size := ⟨_, rfl⟩
  rw [← hAe] at hD
  have hA : ∀ q : Nat, s.heap.size ≤ q → A q := fun q h => by rw [hAe]; exact Or.inr h
  have hS : va_S A s.heap s.heap [] := va_S.rf
  have hl := lv_entry ([.ref h0, .int x0]) (n := 4) (Nat.le_of_ble_eq_true rfl)
  rw [lg_entry_eq]
  generalize (lg_sl ([.ref h0, .int x0]) ++ List.replicate (4 - (lg_sl ([.ref h0, .int x0])).length) Slot.unset).toArray = ls at hl ⊢
  have hl : lv_has ls 4 [(0, .ref h0), (1, .int x0)] := hl
  refine lv_aload_n hx hb dX12_surplus_0 rfl (lv_at hl 0 rfl) ?_
  have hPc := hP.sub (ws' := [(h0, .inr (12, [.int 0, .int 1, .ref h1, .ref h2, .ref h3, .ref h4, .ref h5, .ref h6, .ref h7, .ref h8, .int 0, .int 0, .int 0, .int 0, .int 0, .int 0, .ref h9, .ref h10, .ref h11, .ref h12, .ref h13, .ref h14, .ref h15, .int 0])), (h3, .inl (cI, 4096, .inl (fun _ => 0)))]) [0, 1] rfl
  have hDc := hD.sub (ws' := [(h0, .inr (12, [.int 0, .int 1, .ref h1, .ref h2, .ref h3, .ref h4, .ref h5, .ref h6, .ref h7, .ref h8, .int 0, .int 0, .int 0, .int 0, .int 0, .int 0, .ref h9, .ref h10, .ref h11, .ref h12, .ref h13, .ref h14, .ref h15, .int 0])), (h3, .inl (cI, 4096, .inl (fun _ => 0)))]) [0, 1] (by decide) rfl
  refine lz_qv (wr := []) (w1 := [(h0, .inr (12, [.int 0, .int 1, .ref h1, .ref h2, .ref h3, .ref h4, .ref h5, .ref h6, .ref h7, .ref h8, .int 0, .int 0, .int 0, .int 0, .int 0, .int 0, .ref h9, .ref h10, .ref h11, .ref h12, .ref h13, .ref h14, .ref h15, .int 0])), (h3, .inl (cI, 4096, .inl (upd (fun _ => 0) 0 1)))]) (As := []) (rest := []) ⟨hx, hb, hml, hown, hts⟩ (c_X12_reckons_0 l D cI cS _ h0 h1 h2 h3 h4 h5 h6 h7 h8 h9 h10 h11 h12 h13 h14 h15) hKK hP hD hS hA [0, 1] [] (by decide) rfl rfl (by decide) (by decide) hPc hDc (ci := 12) rfl rfl (cwV 0 hts gX12_surplus_X12_reckons rfl rfl rfl (by decide +kernel) ⟨Nat.le_of_ble_eq_true rfl, Nat.le_of_ble_eq_true rfl⟩) rfl hl.1 rfl (Nat.le_of_ble_eq_true rfl) dX12_surplus_1 ⟨Nat.le_of_ble_eq_true rfl, Nat.le_of_ble_eq_true rfl⟩ (fun H locs hP hD hS => ?_)
  have hP : va_P D cls [(h0, .inr (12, [.int 0, .int 1, .ref h1, .ref h2, .ref h3, .ref h4, .ref h5, .ref h6, .ref h7, .ref h8, .int 0, .int 0, .int 0, .int 0, .int 0, .int 0, .ref h9, .ref h10, .ref h11, .ref h12, .ref h13, .ref h14, .ref h15, .int 0])), (h3, .inl (cI, 4096, .inl (upd (fun _ => 0) 0 1)))] H := hP
  have hD : va_D A [(h0, .inr (12, [.int 0, .int 1, .ref h1, .ref h2, .ref h3, .ref h4, .ref h5, .ref h6, .ref h7, .ref h8, .int 0, .int 0, .int 0, .int 0, .int 0, .int 0, .ref h9, .ref h10, .ref h11, .ref h12, .ref h13, .ref h14, .ref h15, .int 0])), (h3, .inl (cI, 4096, .inl (upd (fun _ => 0) 0 1)))] := hD
  refine lv_aload_n hx hb dX12_surplus_4 rfl (lv_at hl 0 rfl) ?_
  refine lv_iload_n hx hb dX12_surplus_5 rfl (lv_at hl 1 rfl) ?_
  have hPc := hP.sub (ws' := [(h0, .inr (12, [.int 0, .int 1, .ref h1, .ref h2, .ref h3, .ref h4, .ref h5, .ref h6, .ref h7, .ref h8, .int 0, .int 0, .int 0, .int 0, .int 0, .int 0, .ref h9, .ref h10, .ref h11, .ref h12, .ref h13, .ref h14, .ref h15, .int 0]))]) [0] rfl
  refine lz_sv (As := [.int x0]) (rest := []) ⟨hx, hb, hml, hown, hts⟩ (c_X12_isSet_1 l D cI cS h0 h1 h2 h3 h4 h5 h6 h7 h8 h9 h10 h11 h12 h13 h14 h15 x0) hKK hPc (ci := 12) rfl rfl (cwV 1 hts gX12_surplus_X12_isSet rfl rfl rfl (by decide +kernel) ⟨Nat.le_of_ble_eq_true rfl, Nat.le_of_ble_eq_true rfl⟩) rfl hl.1 rfl (Nat.le_of_ble_eq_true rfl) dX12_surplus_6 ⟨Nat.le_of_ble_eq_true rfl, Nat.le_of_ble_eq_true rfl⟩ (fun r326 hw => ?_)
  by_cases k327 : x0 = 0
  · rw [if_pos k327] at hw
    subst k327
    subst hw
    refine lv_if_eq (tgt := 24) hx hb dX12_surplus_9 (by decide) (fun c328 => ?_) (fun c328 => ?_)
    · exact absurd c328 (by decide)
    · refine lv_iload_n hx hb dX12_surplus_12 rfl (lv_at hl 1 rfl) ?_
      refine lv_aload_n hx hb dX12_surplus_13 rfl (lv_at hl 0 rfl) ?_
      refine lv_iconst (v := 1) hx hb dX12_surplus_14 (by decide) ?_
      have hPc := hP.sub (ws' := [(h0, .inr (12, [.int 0, .int 1, .ref h1, .ref h2, .ref h3, .ref h4, .ref h5, .ref h6, .ref h7, .ref h8, .int 0, .int 0, .int 0, .int 0, .int 0, .int 0, .ref h9, .ref h10, .ref h11, .ref h12, .ref h13, .ref h14, .ref h15, .int 0]))]) [0] rfl
      refine lz_sv (As := [.int 1]) (rest := [.int 0]) ⟨hx, hb, hml, hown, hts⟩ (c_X12_markedSet_3 l D cI cS h0 h1 h2 h3 h4 h5 h6 h7 h8 h9 h10 h11 h12 h13 h14 h15) hKK hPc (ci := 12) rfl rfl (cwV 1 hts gX12_surplus_X12_markedSet rfl rfl rfl (by decide +kernel) ⟨Nat.le_of_ble_eq_true rfl, Nat.le_of_ble_eq_true rfl⟩) rfl hl.1 rfl (Nat.le_of_ble_eq_true rfl) dX12_surplus_15 ⟨Nat.le_of_ble_eq_true rfl, Nat.le_of_ble_eq_true rfl⟩ (fun r329 hw => ?_)
      subst hw
      refine lv_iconst (v := (-1)) hx hb dX12_surplus_18 (by decide) ?_
      refine lv_ixor hx hb dX12_surplus_19 ?_
      refine lz_top (y := (-1)) (by decide) ?_
      refine lv_iand hx hb dX12_surplus_20 ?_
      refine lz_top (y := 0) (by decide) ?_
      refine lv_if_eq (tgt := 27) hx hb dX12_surplus_21 (by decide) (fun c330 => ?_) (fun c330 => ?_)
      · refine lv_iload_n hx hb dX12_surplus_27 rfl (lv_at hl 1 rfl) ?_
        have hPc := hP.sub (ws' := []) [] rfl
        refine lz_ss (As := [.int 0]) (rest := []) ⟨hx, hb, hml, hown, hts⟩ (c_X12_bits_0 l D cI cS) hKK hPc (va_cwS 1 hts gX12_surplus_X12_bits rfl rfl rfl (by decide +kernel) ⟨Nat.le_of_ble_eq_true rfl, Nat.le_of_ble_eq_true rfl⟩) rfl hl.1 rfl (Nat.le_of_ble_eq_true rfl) dX12_surplus_28 ⟨Nat.le_of_ble_eq_true rfl, Nat.le_of_ble_eq_true rfl⟩ (fun r331 hw => ?_)
        subst hw
        refine lv_ineg hx hb dX12_surplus_31 ?_
        refine lz_top (y := 0) (by decide) ?_
        refine lv_istore_n (lv' := [(2, .int 0), (0, .ref h0), (1, .int 0)]) hx hb dX12_surplus_32 rfl hl (by decide) rfl (fun ls hl => ?_)
        refine lv_aload_n hx hb dX12_surplus_33 rfl (lv_at hl 1 rfl) ?_
        refine lv_iconst (v := 0) hx hb dX12_surplus_34 (by decide) ?_
        have hPc := hP.sub (ws' := [(h0, .inr (12, [.int 0, .int 1, .ref h1, .ref h2, .ref h3, .ref h4, .ref h5, .ref h6, .ref h7, .ref h8, .int 0, .int 0, .int 0, .int 0, .int 0, .int 0, .ref h9, .ref h10, .ref h11, .ref h12, .ref h13, .ref h14, .ref h15, .int 0]))]) [0] rfl
        refine lz_sv (As := [.int 0]) (rest := []) ⟨hx, hb, hml, hown, hts⟩ (c_X12_markedSet_2 l D cI cS h0 h1 h2 h3 h4 h5 h6 h7 h8 h9 h10 h11 h12 h13 h14 h15) hKK hPc (ci := 12) rfl rfl (cwV 1 hts gX12_surplus_X12_markedSet rfl rfl rfl (by decide +kernel) ⟨Nat.le_of_ble_eq_true rfl, Nat.le_of_ble_eq_true rfl⟩) rfl hl.1 rfl (Nat.le_of_ble_eq_true rfl) dX12_surplus_35 ⟨Nat.le_of_ble_eq_true rfl, Nat.le_of_ble_eq_true rfl⟩ (fun r332 hw => ?_)
        subst hw
        refine lv_istore_n (lv' := [(3, .int 0), (2, .int 0), (0, .ref h0), (1, .int 0)]) hx hb dX12_surplus_38 rfl hl (by decide) rfl (fun ls hl => ?_)
        refine lv_iload_n hx hb dX12_surplus_39 rfl (lv_at hl 0 rfl) ?_
        refine lv_if_eq (tgt := 78) hx hb dX12_surplus_40 (by decide) (fun c333 => ?_) (fun c333 => ?_)
        · refine lv_iload_n hx hb dX12_surplus_78 rfl (lv_at hl 1 rfl) ?_
          have hP9 := hP.sub (ws' := []) [] rfl
          have hD9 := hD.sub (ws' := []) [] (by decide) rfl
          subst hAe
          exact W.iret (v := 0) hx hb hr (fun t ht hW => ⟨⟨_, (), rfl, by rw [if_pos rfl], by rw [ht]; exact hP9, hD9⟩, hS.F ht⟩) hS.2.2 dX12_surplus_79
        · exact absurd c333 (by decide)
      · exact absurd c330 (by decide)
  · rw [if_neg k327] at hw
    subst hw
    refine lv_if_eq (tgt := 24) hx hb dX12_surplus_9 (by decide) (fun c334 => ?_) (fun c334 => ?_)
    · refine lv_bipush (v := (-2)) hx hb dX12_surplus_24 (by decide) ?_
      have hP9 := hP.sub (ws' := []) [] rfl
      have hD9 := hD.sub (ws' := []) [] (by decide) rfl
      subst hAe
      exact W.iret (v := (-2)) hx hb hr (fun t ht hW => ⟨⟨_, (), rfl, by rw [if_neg k327], by rw [ht]; exact hP9, hD9⟩, hS.F ht⟩) hS.2.2 dX12_surplus_26
    · exact absurd c334 (by decide)
set_option maxHeartbeats 4000000 in
set_option maxRecDepth 100000 in
theorem c_X12_oddOf_0 (l : Launch) (D : va_G) (cI cS : ClassId) (h0 h1 h2 h3 h4 h5 h6 h7 h8 h9 h10 h11 h12 h13 h14 h15 : Nat) : Met l yX12_oddOf wsX12_oddOf ({ frames := 1, cells := 0, slots := 0, locals := 40 }) (PS D cI cS [(h0, .inr (12, [.int 0, .int 1, .ref h1, .ref h2, .ref h3, .ref h4, .ref h5, .ref h6, .ref h7, .ref h8, .int 0, .int 0, .int 0, .int 0, .int 0, .int 0, .ref h9, .ref h10, .ref h11, .ref h12, .ref h13, .ref h14, .ref h15, .int 0]))] [.ref h0, .int 0]) (vp_Si (fun r => r = (0 : Int32))) 0 0 (fun _ => False) := by
  refine Met.ofW (cc := cX12_oddOf) (maxL := 4) (ret := (some .int)) (by decide) rfl ?_
  intro p e s m args below meth c s₁ B hml hv
  obtain ⟨rfl, hP, hKK⟩ := hv
  have hx := B.exec
  have hb := B.bytes
  have hr := B.returns
  have hts := atoms_spec (ws := wsX12_oddOf) B.pre
  have hown : s.vm.findClass RX12 = some m.cls := findClass_of_methodNamed B.named
  have hlocks := B.notSynchronized
  have hK := hKK.1
  have hN := hKK.2
  have hl := lv_entry ([.ref h0, .int 0]) (n := 4) (Nat.le_of_ble_eq_true rfl)
  rw [lg_entry_eq]
  generalize (lg_sl ([.ref h0, .int 0]) ++ List.replicate (4 - (lg_sl ([.ref h0, .int 0])).length) Slot.unset).toArray = ls at hl ⊢
  have hl : lv_has ls 4 [(0, .ref h0), (1, .int 0)] := hl
  refine lv_iconst (v := 0) hx hb dX12_oddOf_0 (by decide) ?_
  refine lv_istore_n (lv' := [(2, .int 0), (0, .ref h0), (1, .int 0)]) hx hb dX12_oddOf_1 rfl hl (by decide) rfl (fun ls hl => ?_)
  refine lv_aload_n hx hb dX12_oddOf_2 rfl (lv_at hl 1 rfl) ?_
  have hPc := hP.sub (ws' := [(h0, .inr (12, [.int 0, .int 1, .ref h1, .ref h2, .ref h3, .ref h4, .ref h5, .ref h6, .ref h7, .ref h8, .int 0, .int 0, .int 0, .int 0, .int 0, .int 0, .ref h9, .ref h10, .ref h11, .ref h12, .ref h13, .ref h14, .ref h15, .int 0]))]) [0] rfl
  refine lz_sv (As := []) (rest := []) ⟨hx, hb, hml, hown, hts⟩ (c_X12_all_1 l D cI cS h0 h1 h2 h3 h4 h5 h6 h7 h8 h9 h10 h11 h12 h13 h14 h15) hKK hPc (ci := 12) rfl rfl (cwV 0 hts gX12_oddOf_X12_all rfl rfl rfl (by decide +kernel) ⟨Nat.le_of_ble_eq_true rfl, Nat.le_of_ble_eq_true rfl⟩) rfl hl.1 rfl (Nat.le_of_ble_eq_true rfl) dX12_oddOf_3 ⟨Nat.le_of_ble_eq_true rfl, Nat.le_of_ble_eq_true rfl⟩ (fun r340 hw => ?_)
  subst hw
  refine lv_iload_n hx hb dX12_oddOf_6 rfl (lv_at hl 2 rfl) ?_
  refine lv_iconst (v := (-1)) hx hb dX12_oddOf_7 (by decide) ?_
  refine lv_ixor hx hb dX12_oddOf_8 ?_
  refine lz_top (y := (-1)) (by decide) ?_
  refine lv_iand hx hb dX12_oddOf_9 ?_
  refine lz_top (y := 0) (by decide) ?_
  refine lv_istore_n (lv' := [(3, .int 0), (2, .int 0), (0, .ref h0), (1, .int 0)]) hx hb dX12_oddOf_10 rfl hl (by decide) rfl (fun ls hl => ?_)
  refine lv_iload_n hx hb dX12_oddOf_11 rfl (lv_at hl 0 rfl) ?_
  refine lv_if_eq (tgt := 41) hx hb dX12_oddOf_12 (by decide) (fun c341 => ?_) (fun c341 => ?_)
  · refine lv_iload_n hx hb dX12_oddOf_41 rfl (lv_at hl 1 rfl) ?_
    exact W.iret (v := 0) hx hb hr (fun t ht hW => ⟨_, rfl, rfl, ht⟩) (fun q hq => absurd hq List.not_mem_nil) dX12_oddOf_42
  · exact absurd c341 (by decide)
set_option maxHeartbeats 4000000 in
set_option maxRecDepth 100000 in
theorem c_X12_odd_0 (l : Launch) (D : va_G) (cI cS : ClassId) (h0 h1 h2 h3 h4 h5 h6 h7 h8 h9 h10 h11 h12 h13 h14 h15 : Nat) (x0 : Int32) : Met l yX12_odd wsX12_odd ({ frames := 2, cells := 0, slots := 0, locals := 80 }) (PS D cI cS [(h0, .inr (12, [.int 0, .int 1, .ref h1, .ref h2, .ref h3, .ref h4, .ref h5, .ref h6, .ref h7, .ref h8, .int 0, .int 0, .int 0, .int 0, .int 0, .int 0, .ref h9, .ref h10, .ref h11, .ref h12, .ref h13, .ref h14, .ref h15, .int 0]))] [.ref h0, .int x0]) (vp_Si (fun r => r = if x0 = 0 then (0 : Int32) else ((-2) : Int32))) 0 0 (fun _ => False) := by
  refine Met.ofW (cc := cX12_odd) (maxL := 2) (ret := (some .int)) (by decide) rfl ?_
  intro p e s m args below meth c s₁ B hml hv
  obtain ⟨rfl, hP, hKK⟩ := hv
  have hx := B.exec
  have hb := B.bytes
  have hr := B.returns
  have hts := atoms_spec (ws := wsX12_odd) B.pre
  have hown : s.vm.findClass RX12 = some m.cls := findClass_of_methodNamed B.named
  have hlocks := B.notSynchronized
  have hK := hKK.1
  have hN := hKK.2
  have hl := lv_entry ([.ref h0, .int x0]) (n := 2) (Nat.le_of_ble_eq_true rfl)
  rw [lg_entry_eq]
  generalize (lg_sl ([.ref h0, .int x0]) ++ List.replicate (2 - (lg_sl ([.ref h0, .int x0])).length) Slot.unset).toArray = ls at hl ⊢
  have hl : lv_has ls 2 [(0, .ref h0), (1, .int x0)] := hl
  refine lv_aload_n hx hb dX12_odd_0 rfl (lv_at hl 0 rfl) ?_
  refine lv_iload_n hx hb dX12_odd_1 rfl (lv_at hl 1 rfl) ?_
  have hPc := hP.sub (ws' := [(h0, .inr (12, [.int 0, .int 1, .ref h1, .ref h2, .ref h3, .ref h4, .ref h5, .ref h6, .ref h7, .ref h8, .int 0, .int 0, .int 0, .int 0, .int 0, .int 0, .ref h9, .ref h10, .ref h11, .ref h12, .ref h13, .ref h14, .ref h15, .int 0]))]) [0] rfl
  refine lz_sv (As := [.int x0]) (rest := []) ⟨hx, hb, hml, hown, hts⟩ (c_X12_isSet_0 l D cI cS h0 h1 h2 h3 h4 h5 h6 h7 h8 h9 h10 h11 h12 h13 h14 h15 x0) hKK hPc (ci := 12) rfl rfl (cwV 1 hts gX12_odd_X12_isSet rfl rfl rfl (by decide +kernel) ⟨Nat.le_of_ble_eq_true rfl, Nat.le_of_ble_eq_true rfl⟩) rfl hl.1 rfl (Nat.le_of_ble_eq_true rfl) dX12_odd_2 ⟨Nat.le_of_ble_eq_true rfl, Nat.le_of_ble_eq_true rfl⟩ (fun r344 hw => ?_)
  by_cases k345 : x0 = 0
  · rw [if_pos k345] at hw
    subst k345
    subst hw
    refine lv_if_eq (tgt := 16) hx hb dX12_odd_5 (by decide) (fun c346 => ?_) (fun c346 => ?_)
    · exact absurd c346 (by decide)
    · refine lv_aload_n hx hb dX12_odd_8 rfl (lv_at hl 0 rfl) ?_
      refine lv_iload_n hx hb dX12_odd_9 rfl (lv_at hl 1 rfl) ?_
      have hPc := hP.sub (ws' := [(h0, .inr (12, [.int 0, .int 1, .ref h1, .ref h2, .ref h3, .ref h4, .ref h5, .ref h6, .ref h7, .ref h8, .int 0, .int 0, .int 0, .int 0, .int 0, .int 0, .ref h9, .ref h10, .ref h11, .ref h12, .ref h13, .ref h14, .ref h15, .int 0]))]) [0] rfl
      refine lz_sv (As := [.int 0]) (rest := []) ⟨hx, hb, hml, hown, hts⟩ (c_X12_oddOf_0 l D cI cS h0 h1 h2 h3 h4 h5 h6 h7 h8 h9 h10 h11 h12 h13 h14 h15) hKK hPc (ci := 12) rfl rfl (cwV 1 hts gX12_odd_X12_oddOf rfl rfl rfl (by decide +kernel) ⟨Nat.le_of_ble_eq_true rfl, Nat.le_of_ble_eq_true rfl⟩) rfl hl.1 rfl (Nat.le_of_ble_eq_true rfl) dX12_odd_10 ⟨Nat.le_of_ble_eq_true rfl, Nat.le_of_ble_eq_true rfl⟩ (fun r347 hw => ?_)
      subst hw
      refine lv_goto (tgt := 18) hx hb dX12_odd_13 (by decide) ?_
      exact W.iret (v := 0) hx hb hr (fun t ht hW => ⟨_, rfl, by rw [if_pos rfl], ht⟩) (fun q hq => absurd hq List.not_mem_nil) dX12_odd_18
  · rw [if_neg k345] at hw
    subst hw
    refine lv_if_eq (tgt := 16) hx hb dX12_odd_5 (by decide) (fun c348 => ?_) (fun c348 => ?_)
    · refine lv_bipush (v := (-2)) hx hb dX12_odd_16 (by decide) ?_
      exact W.iret (v := (-2)) hx hb hr (fun t ht hW => ⟨_, rfl, by rw [if_neg k345], ht⟩) (fun q hq => absurd hq List.not_mem_nil) dX12_odd_18
    · exact absurd c348 (by decide)
set_option maxHeartbeats 4000000 in
set_option maxRecDepth 100000 in
theorem c_X12_barrier_0 (l : Launch) (D : va_G) (cI cS : ClassId) (sz : Nat) (h0 h1 h2 h3 h4 h5 h6 h7 h8 h9 h10 h11 h12 h13 h14 h15 : Nat) (x0 : Int32) : Met l yX12_barrier wsX12_barrier ({ frames := 4, cells := 0, slots := 0, locals := 160 }) (PQ D cI cS [(h0, .inr (12, [.int 0, .int 1, .ref h1, .ref h2, .ref h3, .ref h4, .ref h5, .ref h6, .ref h7, .ref h8, .int 0, .int 0, .int 0, .int 0, .int 0, .int 0, .ref h9, .ref h10, .ref h11, .ref h12, .ref h13, .ref h14, .ref h15, .int 0])), (h2, .inl (cI, 4096, .inl (fun _ => 0))), (h3, .inl (cI, 4096, .inl (fun _ => 0)))] sz [.ref h0, .int x0]) (QI D [(h0, .inr (12, [.int 0, .int 1, .ref h1, .ref h2, .ref h3, .ref h4, .ref h5, .ref h6, .ref h7, .ref h8, .int 0, .int 0, .int 0, .int 0, .int 0, .int 0, .ref h9, .ref h10, .ref h11, .ref h12, .ref h13, .ref h14, .ref h15, .int 0])), (h2, .inl (cI, 4096, .inl (fun _ => 0))), (h3, .inl (cI, 4096, .inl (fun _ => 0)))] [] sz (fun r => r = if x0 = 0 then (1 : Int32) else ((-2) : Int32))) 0 0 (va_A [(h0, .inr (12, [.int 0, .int 1, .ref h1, .ref h2, .ref h3, .ref h4, .ref h5, .ref h6, .ref h7, .ref h8, .int 0, .int 0, .int 0, .int 0, .int 0, .int 0, .ref h9, .ref h10, .ref h11, .ref h12, .ref h13, .ref h14, .ref h15, .int 0])), (h2, .inl (cI, 4096, .inl (fun _ => 0))), (h3, .inl (cI, 4096, .inl (fun _ => 0)))] sz) := by
  refine Met.ofW (cc := cX12_barrier) (maxL := 2) (ret := (some .int)) (by decide) rfl ?_
  intro p e s m args below meth c s₁ B hml hv
  obtain ⟨rfl, hsz, hP, hKK, hD0⟩ := hv
  have hx := B.exec
  have hb := B.bytes
  have hr := B.returns
  have hts := atoms_spec (ws := wsX12_barrier) B.pre
  have hown : s.vm.findClass RX12 = some m.cls := findClass_of_methodNamed B.named
  have hlocks := B.notSynchronized
  have hK := hKK.1
  have hN := hKK.2
  subst hsz
  have hD := hD0.self (sz := s.heap.size)
  obtain ⟨A, hAe⟩ : ∃ A, A = va_A [(h0, .inr (12, [.int 0, .int 1, .ref h1, .ref h2, .ref h3, .ref h4, .ref h5, .ref h6, .ref h7, .ref h8, .int 0, .int 0, .int 0, .int 0, .int 0, .int 0, .ref h9, .ref h10, .ref h11, .ref h12, .ref h13, .ref h14, .ref h15, .int 0])), (h2, .inl (cI, 4096, .inl (fun _ => 0))), (h3, .inl (cI, 4096, .inl (fun _ => 0)))] s.heap.size := ⟨_, rfl⟩
  rw [← hAe] at hD
  have hA : ∀ q : Nat, s.heap.size ≤ q → A q := fun q h => by rw [hAe]; exact Or.inr h
  have hS : va_S A s.heap s.heap [] := va_S.rf
  have hl := lv_entry ([.ref h0, .int x0]) (n := 2) (Nat.le_of_ble_eq_true rfl)
  rw [lg_entry_eq]
  generalize (lg_sl ([.ref h0, .int x0]) ++ List.replicate (2 - (lg_sl ([.ref h0, .int x0])).length) Slot.unset).toArray = ls at hl ⊢
  have hl : lv_has ls 2 [(0, .ref h0), (1, .int x0)] := hl
  refine lv_aload_n hx hb dX12_barrier_0 rfl (lv_at hl 0 rfl) ?_
  refine lv_iload_n hx hb dX12_barrier_1 rfl (lv_at hl 1 rfl) ?_
  have hPc := hP.sub (ws' := [(h0, .inr (12, [.int 0, .int 1, .ref h1, .ref h2, .ref h3, .ref h4, .ref h5, .ref h6, .ref h7, .ref h8, .int 0, .int 0, .int 0, .int 0, .int 0, .int 0, .ref h9, .ref h10, .ref h11, .ref h12, .ref h13, .ref h14, .ref h15, .int 0]))]) [0] rfl
  refine lz_sv (As := [.int x0]) (rest := []) ⟨hx, hb, hml, hown, hts⟩ (c_X12_isSet_0 l D cI cS h0 h1 h2 h3 h4 h5 h6 h7 h8 h9 h10 h11 h12 h13 h14 h15 x0) hKK hPc (ci := 12) rfl rfl (cwV 1 hts gX12_barrier_X12_isSet rfl rfl rfl (by decide +kernel) ⟨Nat.le_of_ble_eq_true rfl, Nat.le_of_ble_eq_true rfl⟩) rfl hl.1 rfl (Nat.le_of_ble_eq_true rfl) dX12_barrier_2 ⟨Nat.le_of_ble_eq_true rfl, Nat.le_of_ble_eq_true rfl⟩ (fun r357 hw => ?_)
  by_cases k358 : x0 = 0
  · rw [if_pos k358] at hw
    subst k358
    subst hw
    refine lv_if_ne (tgt := 13) hx hb dX12_barrier_5 (by decide) (fun c359 => ?_) (fun c359 => ?_)
    · refine lv_aload_n hx hb dX12_barrier_13 rfl (lv_at hl 0 rfl) ?_
      refine lv_iload_n hx hb dX12_barrier_14 rfl (lv_at hl 1 rfl) ?_
      have hPc := hP.sub (ws' := [(h0, .inr (12, [.int 0, .int 1, .ref h1, .ref h2, .ref h3, .ref h4, .ref h5, .ref h6, .ref h7, .ref h8, .int 0, .int 0, .int 0, .int 0, .int 0, .int 0, .ref h9, .ref h10, .ref h11, .ref h12, .ref h13, .ref h14, .ref h15, .int 0]))]) [0] rfl
      refine lz_sv (As := [.int 0]) (rest := []) ⟨hx, hb, hml, hown, hts⟩ (c_X12_oddOf_0 l D cI cS h0 h1 h2 h3 h4 h5 h6 h7 h8 h9 h10 h11 h12 h13 h14 h15) hKK hPc (ci := 12) rfl rfl (cwV 1 hts gX12_barrier_X12_oddOf rfl rfl rfl (by decide +kernel) ⟨Nat.le_of_ble_eq_true rfl, Nat.le_of_ble_eq_true rfl⟩) rfl hl.1 rfl (Nat.le_of_ble_eq_true rfl) dX12_barrier_15 ⟨Nat.le_of_ble_eq_true rfl, Nat.le_of_ble_eq_true rfl⟩ (fun r360 hw => ?_)
      subst hw
      refine lv_iload_n hx hb dX12_barrier_18 rfl (lv_at hl 1 rfl) ?_
      have hPc := hP.sub (ws' := []) [] rfl
      refine lz_ss (As := [.int 0]) (rest := [.int 0]) ⟨hx, hb, hml, hown, hts⟩ (c_X12_bits_0 l D cI cS) hKK hPc (va_cwS 1 hts gX12_barrier_X12_bits rfl rfl rfl (by decide +kernel) ⟨Nat.le_of_ble_eq_true rfl, Nat.le_of_ble_eq_true rfl⟩) rfl hl.1 rfl (Nat.le_of_ble_eq_true rfl) dX12_barrier_19 ⟨Nat.le_of_ble_eq_true rfl, Nat.le_of_ble_eq_true rfl⟩ (fun r361 hw => ?_)
      subst hw
      refine lv_isub hx hb dX12_barrier_22 ?_
      refine lz_top (y := 0) (by decide) ?_
      refine lv_aload_n hx hb dX12_barrier_23 rfl (lv_at hl 0 rfl) ?_
      have hPc := hP.sub (ws' := [(h0, .inr (12, [.int 0, .int 1, .ref h1, .ref h2, .ref h3, .ref h4, .ref h5, .ref h6, .ref h7, .ref h8, .int 0, .int 0, .int 0, .int 0, .int 0, .int 0, .ref h9, .ref h10, .ref h11, .ref h12, .ref h13, .ref h14, .ref h15, .int 0])), (h2, .inl (cI, 4096, .inl (fun _ => 0))), (h3, .inl (cI, 4096, .inl (fun _ => 0)))]) [0, 1, 2] rfl
      have hDc := hD.sub (ws' := [(h0, .inr (12, [.int 0, .int 1, .ref h1, .ref h2, .ref h3, .ref h4, .ref h5, .ref h6, .ref h7, .ref h8, .int 0, .int 0, .int 0, .int 0, .int 0, .int 0, .ref h9, .ref h10, .ref h11, .ref h12, .ref h13, .ref h14, .ref h15, .int 0])), (h2, .inl (cI, 4096, .inl (fun _ => 0))), (h3, .inl (cI, 4096, .inl (fun _ => 0)))]) [0, 1, 2] (by decide) rfl
      refine lz_qi (wr := []) (w1 := [(h2, .inl (cI, 4096, .inl (fun _ => 0))), (h0, .inr (12, [.int 0, .int 1, .ref h1, .ref h2, .ref h3, .ref h4, .ref h5, .ref h6, .ref h7, .ref h8, .int 0, .int 0, .int 0, .int 0, .int 0, .int 0, .ref h9, .ref h10, .ref h11, .ref h12, .ref h13, .ref h14, .ref h15, .int 0])), (h3, .inl (cI, 4096, .inl (upd (fun _ => 0) 0 1)))]) (As := []) (rest := [.int 0]) ⟨hx, hb, hml, hown, hts⟩ (c_X12_lack_0 l D cI cS _ h0 h1 h2 h3 h4 h5 h6 h7 h8 h9 h10 h11 h12 h13 h14 h15) hKK hP hD hS hA [0, 1, 2] [] (by decide) rfl rfl (by decide) (by decide) hPc hDc (ci := 12) rfl rfl (cwV 0 hts gX12_barrier_X12_lack rfl rfl rfl (by decide +kernel) ⟨Nat.le_of_ble_eq_true rfl, Nat.le_of_ble_eq_true rfl⟩) rfl hl.1 rfl (Nat.le_of_ble_eq_true rfl) dX12_barrier_24 ⟨Nat.le_of_ble_eq_true rfl, Nat.le_of_ble_eq_true rfl⟩ (fun r362 H locs hw hP hD hS => ?_)
      have hP : va_P D cls [(h2, .inl (cI, 4096, .inl (fun _ => 0))), (h0, .inr (12, [.int 0, .int 1, .ref h1, .ref h2, .ref h3, .ref h4, .ref h5, .ref h6, .ref h7, .ref h8, .int 0, .int 0, .int 0, .int 0, .int 0, .int 0, .ref h9, .ref h10, .ref h11, .ref h12, .ref h13, .ref h14, .ref h15, .int 0])), (h3, .inl (cI, 4096, .inl (upd (fun _ => 0) 0 1)))] H := hP
      have hD : va_D A [(h2, .inl (cI, 4096, .inl (fun _ => 0))), (h0, .inr (12, [.int 0, .int 1, .ref h1, .ref h2, .ref h3, .ref h4, .ref h5, .ref h6, .ref h7, .ref h8, .int 0, .int 0, .int 0, .int 0, .int 0, .int 0, .ref h9, .ref h10, .ref h11, .ref h12, .ref h13, .ref h14, .ref h15, .int 0])), (h3, .inl (cI, 4096, .inl (upd (fun _ => 0) 0 1)))] := hD
      subst hw
      refine lv_icmp_ne (tgt := 34) hx hb dX12_barrier_27 (by decide) (fun c363 => ?_) (fun c363 => ?_)
      · exact absurd c363 (by decide)
      · refine lv_iconst (v := 1) hx hb dX12_barrier_30 (by decide) ?_
        refine lv_goto (tgt := 35) hx hb dX12_barrier_31 (by decide) ?_
        have hP9 := hP.sub (ws' := []) [] rfl
        have hD9 := hD.sub (ws' := []) [] (by decide) rfl
        subst hAe
        exact W.iret (v := 1) hx hb hr (fun t ht hW => ⟨⟨_, (), rfl, by rw [if_pos rfl], by rw [ht]; exact hP9, hD9⟩, hS.F ht⟩) hS.2.2 dX12_barrier_35
    · exact absurd c359 (by decide)
  · rw [if_neg k358] at hw
    subst hw
    refine lv_if_ne (tgt := 13) hx hb dX12_barrier_5 (by decide) (fun c364 => ?_) (fun c364 => ?_)
    · exact absurd c364 (by decide)
    · refine lv_bipush (v := (-2)) hx hb dX12_barrier_8 (by decide) ?_
      refine lv_goto (tgt := 35) hx hb dX12_barrier_10 (by decide) ?_
      have hP9 := hP.sub (ws' := []) [] rfl
      have hD9 := hD.sub (ws' := []) [] (by decide) rfl
      subst hAe
      exact W.iret (v := (-2)) hx hb hr (fun t ht hW => ⟨⟨_, (), rfl, by rw [if_neg k358], by rw [ht]; exact hP9, hD9⟩, hS.F ht⟩) hS.2.2 dX12_barrier_35
set_option maxHeartbeats 4000000 in
set_option maxRecDepth 100000 in
theorem c_X12_oddOf_1 (l : Launch) (D : va_G) (cI cS : ClassId) (h0 h1 h2 h3 h4 h5 h6 h7 h8 h9 h10 h11 h12 h13 h14 h15 : Nat) : Met l yX12_oddOf wsX12_oddOf ({ frames := 1, cells := 0, slots := 0, locals := 40 }) (PS D cI cS [(h0, .inr (12, [.int 0, .int 1, .ref h1, .ref h2, .ref h3, .ref h4, .ref h5, .ref h6, .ref h7, .ref h8, .int 0, .int 0, .int 0, .int 0, .int 0, .int 0, .ref h9, .ref h10, .ref h11, .ref h12, .ref h13, .ref h14, .ref h15, .int 0]))] [.ref h0, .int 0]) (vp_Si (fun r => r = (0 : Int32))) 0 0 (fun _ => False) := by
  refine Met.ofW (cc := cX12_oddOf) (maxL := 4) (ret := (some .int)) (by decide) rfl ?_
  intro p e s m args below meth c s₁ B hml hv
  obtain ⟨rfl, hP, hKK⟩ := hv
  have hx := B.exec
  have hb := B.bytes
  have hr := B.returns
  have hts := atoms_spec (ws := wsX12_oddOf) B.pre
  have hown : s.vm.findClass RX12 = some m.cls := findClass_of_methodNamed B.named
  have hlocks := B.notSynchronized
  have hK := hKK.1
  have hN := hKK.2
  have hl := lv_entry ([.ref h0, .int 0]) (n := 4) (Nat.le_of_ble_eq_true rfl)
  rw [lg_entry_eq]
  generalize (lg_sl ([.ref h0, .int 0]) ++ List.replicate (4 - (lg_sl ([.ref h0, .int 0])).length) Slot.unset).toArray = ls at hl ⊢
  have hl : lv_has ls 4 [(0, .ref h0), (1, .int 0)] := hl
  refine lv_iconst (v := 0) hx hb dX12_oddOf_0 (by decide) ?_
  refine lv_istore_n (lv' := [(2, .int 0), (0, .ref h0), (1, .int 0)]) hx hb dX12_oddOf_1 rfl hl (by decide) rfl (fun ls hl => ?_)
  refine lv_aload_n hx hb dX12_oddOf_2 rfl (lv_at hl 1 rfl) ?_
  have hPc := hP.sub (ws' := [(h0, .inr (12, [.int 0, .int 1, .ref h1, .ref h2, .ref h3, .ref h4, .ref h5, .ref h6, .ref h7, .ref h8, .int 0, .int 0, .int 0, .int 0, .int 0, .int 0, .ref h9, .ref h10, .ref h11, .ref h12, .ref h13, .ref h14, .ref h15, .int 0]))]) [0] rfl
  refine lz_sv (As := []) (rest := []) ⟨hx, hb, hml, hown, hts⟩ (c_X12_all_0 l D cI cS h0 h1 h2 h3 h4 h5 h6 h7 h8 h9 h10 h11 h12 h13 h14 h15) hKK hPc (ci := 12) rfl rfl (cwV 0 hts gX12_oddOf_X12_all rfl rfl rfl (by decide +kernel) ⟨Nat.le_of_ble_eq_true rfl, Nat.le_of_ble_eq_true rfl⟩) rfl hl.1 rfl (Nat.le_of_ble_eq_true rfl) dX12_oddOf_3 ⟨Nat.le_of_ble_eq_true rfl, Nat.le_of_ble_eq_true rfl⟩ (fun r377 hw => ?_)
  subst hw
  refine lv_iload_n hx hb dX12_oddOf_6 rfl (lv_at hl 2 rfl) ?_
  refine lv_iconst (v := (-1)) hx hb dX12_oddOf_7 (by decide) ?_
  refine lv_ixor hx hb dX12_oddOf_8 ?_
  refine lz_top (y := (-1)) (by decide) ?_
  refine lv_iand hx hb dX12_oddOf_9 ?_
  refine lz_top (y := 0) (by decide) ?_
  refine lv_istore_n (lv' := [(3, .int 0), (2, .int 0), (0, .ref h0), (1, .int 0)]) hx hb dX12_oddOf_10 rfl hl (by decide) rfl (fun ls hl => ?_)
  refine lv_iload_n hx hb dX12_oddOf_11 rfl (lv_at hl 0 rfl) ?_
  refine lv_if_eq (tgt := 41) hx hb dX12_oddOf_12 (by decide) (fun c378 => ?_) (fun c378 => ?_)
  · refine lv_iload_n hx hb dX12_oddOf_41 rfl (lv_at hl 1 rfl) ?_
    exact W.iret (v := 0) hx hb hr (fun t ht hW => ⟨_, rfl, rfl, ht⟩) (fun q hq => absurd hq List.not_mem_nil) dX12_oddOf_42
  · exact absurd c378 (by decide)
set_option maxHeartbeats 4000000 in
set_option maxRecDepth 100000 in
theorem c_X12_barriers_0 (l : Launch) (D : va_G) (cI cS : ClassId) (sz : Nat) (h0 h1 h2 h3 h4 h5 h6 h7 h8 h9 h10 h11 h12 h13 h14 h15 : Nat) (x0 : Int32) : Met l yX12_barriers wsX12_barriers ({ frames := 4, cells := 0, slots := 0, locals := 160 }) (PQ D cI cS [(h0, .inr (12, [.int 0, .int 1, .ref h1, .ref h2, .ref h3, .ref h4, .ref h5, .ref h6, .ref h7, .ref h8, .int 0, .int 0, .int 0, .int 0, .int 0, .int 0, .ref h9, .ref h10, .ref h11, .ref h12, .ref h13, .ref h14, .ref h15, .int 0])), (h2, .inl (cI, 4096, .inl (fun _ => 0))), (h3, .inl (cI, 4096, .inl (fun _ => 0)))] sz [.ref h0, .int x0]) (QI D [(h0, .inr (12, [.int 0, .int 1, .ref h1, .ref h2, .ref h3, .ref h4, .ref h5, .ref h6, .ref h7, .ref h8, .int 0, .int 0, .int 0, .int 0, .int 0, .int 0, .ref h9, .ref h10, .ref h11, .ref h12, .ref h13, .ref h14, .ref h15, .int 0])), (h2, .inl (cI, 4096, .inl (fun _ => 0))), (h3, .inl (cI, 4096, .inl (fun _ => 0)))] [] sz (fun r => r = if x0 < 0 then ((-2) : Int32) else (if (2 : Int32) < x0 then ((-2) : Int32) else (if x0 = 0 then (1 : Int32) else (0 : Int32))))) 0 0 (va_A [(h0, .inr (12, [.int 0, .int 1, .ref h1, .ref h2, .ref h3, .ref h4, .ref h5, .ref h6, .ref h7, .ref h8, .int 0, .int 0, .int 0, .int 0, .int 0, .int 0, .ref h9, .ref h10, .ref h11, .ref h12, .ref h13, .ref h14, .ref h15, .int 0])), (h2, .inl (cI, 4096, .inl (fun _ => 0))), (h3, .inl (cI, 4096, .inl (fun _ => 0)))] sz) := by
  refine Met.ofW (cc := cX12_barriers) (maxL := 7) (ret := (some .int)) (by decide) rfl ?_
  intro p e s m args below meth c s₁ B hml hv
  obtain ⟨rfl, hsz, hP, hKK, hD0⟩ := hv
  have hx := B.exec
  have hb := B.bytes
  have hr := B.returns
  have hts := atoms_spec (ws := wsX12_barriers) B.pre
  have hown : s.vm.findClass RX12 = some m.cls := findClass_of_methodNamed B.named
  have hlocks := B.notSynchronized
  have hK := hKK.1
  have hN := hKK.2
  subst hsz
  have hD := hD0.self (sz := s.heap.size)
  obtain ⟨A, hAe⟩ : ∃ A, A = va_A [(h0, .inr (12, [.int 0, .int 1, .ref h1, .ref h2, .ref h3, .ref h4, .ref h5, .ref h6, .ref h7, .ref h8, .int 0, .int 0, .int 0, .int 0, .int 0, .int 0, .ref h9, .ref h10, .ref h11, .ref h12, .ref h13, .ref h14, .ref h15, .int 0])), (h2, .inl (cI, 4096, .inl (fun _ => 0))), (h3, .inl (cI, 4096, .inl (fun _ => 0)))] s.heap.size := ⟨_, rfl⟩
  rw [← hAe] at hD
  have hA : ∀ q : Nat, s.heap.size ≤ q → A q := fun q h => by rw [hAe]; exact Or.inr h
  have hS : va_S A s.heap s.heap [] := va_S.rf
  have hl := lv_entry ([.ref h0, .int x0]) (n := 7) (Nat.le_of_ble_eq_true rfl)
  rw [lg_entry_eq]
  generalize (lg_sl ([.ref h0, .int x0]) ++ List.replicate (7 - (lg_sl ([.ref h0, .int x0])).length) Slot.unset).toArray = ls at hl ⊢
  have hl : lv_has ls 7 [(0, .ref h0), (1, .int x0)] := hl
  refine lv_iload_n hx hb dX12_barriers_0 rfl (lv_at hl 1 rfl) ?_
  refine lv_iconst (v := 0) hx hb dX12_barriers_1 (by decide) ?_
  refine lv_iconst (v := 2) hx hb dX12_barriers_2 (by decide) ?_
  have hPc := hP.sub (ws' := []) [] rfl
  refine lz_ss (As := [.int x0, .int 0, .int 2]) (rest := []) ⟨hx, hb, hml, hown, hts⟩ (c_X12_in_3 l D cI cS x0) hKK hPc (va_cwS 3 hts gX12_barriers_X12_in rfl rfl rfl (by decide +kernel) ⟨Nat.le_of_ble_eq_true rfl, Nat.le_of_ble_eq_true rfl⟩) rfl hl.1 rfl (Nat.le_of_ble_eq_true rfl) dX12_barriers_3 ⟨Nat.le_of_ble_eq_true rfl, Nat.le_of_ble_eq_true rfl⟩ (fun r387 hw => ?_)
  by_cases k388 : x0 < 0
  · rw [if_pos k388] at hw
    subst hw
    refine lv_if_ne (tgt := 12) hx hb dX12_barriers_6 (by decide) (fun c389 => ?_) (fun c389 => ?_)
    · exact absurd c389 (by decide)
    · refine lv_bipush (v := (-2)) hx hb dX12_barriers_9 (by decide) ?_
      have hP9 := hP.sub (ws' := []) [] rfl
      have hD9 := hD.sub (ws' := []) [] (by decide) rfl
      subst hAe
      exact W.iret (v := (-2)) hx hb hr (fun t ht hW => ⟨⟨_, (), rfl, by rw [if_pos k388], by rw [ht]; exact hP9, hD9⟩, hS.F ht⟩) hS.2.2 dX12_barriers_11
  · rw [if_neg k388] at hw
    by_cases k390 : (2 : Int32) < x0
    · rw [if_pos k390] at hw
      subst hw
      refine lv_if_ne (tgt := 12) hx hb dX12_barriers_6 (by decide) (fun c391 => ?_) (fun c391 => ?_)
      · exact absurd c391 (by decide)
      · refine lv_bipush (v := (-2)) hx hb dX12_barriers_9 (by decide) ?_
        have hP9 := hP.sub (ws' := []) [] rfl
        have hD9 := hD.sub (ws' := []) [] (by decide) rfl
        subst hAe
        exact W.iret (v := (-2)) hx hb hr (fun t ht hW => ⟨⟨_, (), rfl, by rw [if_neg k388, if_pos k390], by rw [ht]; exact hP9, hD9⟩, hS.F ht⟩) hS.2.2 dX12_barriers_11
    · rw [if_neg k390] at hw
      subst hw
      refine lv_if_ne (tgt := 12) hx hb dX12_barriers_6 (by decide) (fun c392 => ?_) (fun c392 => ?_)
      · refine lv_aload_n hx hb dX12_barriers_12 rfl (lv_at hl 0 rfl) ?_
        have hPc := hP.sub (ws' := [(h0, .inr (12, [.int 0, .int 1, .ref h1, .ref h2, .ref h3, .ref h4, .ref h5, .ref h6, .ref h7, .ref h8, .int 0, .int 0, .int 0, .int 0, .int 0, .int 0, .ref h9, .ref h10, .ref h11, .ref h12, .ref h13, .ref h14, .ref h15, .int 0])), (h2, .inl (cI, 4096, .inl (fun _ => 0))), (h3, .inl (cI, 4096, .inl (fun _ => 0)))]) [0, 1, 2] rfl
        have hDc := hD.sub (ws' := [(h0, .inr (12, [.int 0, .int 1, .ref h1, .ref h2, .ref h3, .ref h4, .ref h5, .ref h6, .ref h7, .ref h8, .int 0, .int 0, .int 0, .int 0, .int 0, .int 0, .ref h9, .ref h10, .ref h11, .ref h12, .ref h13, .ref h14, .ref h15, .int 0])), (h2, .inl (cI, 4096, .inl (fun _ => 0))), (h3, .inl (cI, 4096, .inl (fun _ => 0)))]) [0, 1, 2] (by decide) rfl
        refine lz_qi (wr := []) (w1 := [(h2, .inl (cI, 4096, .inl (fun _ => 0))), (h0, .inr (12, [.int 0, .int 1, .ref h1, .ref h2, .ref h3, .ref h4, .ref h5, .ref h6, .ref h7, .ref h8, .int 0, .int 0, .int 0, .int 0, .int 0, .int 0, .ref h9, .ref h10, .ref h11, .ref h12, .ref h13, .ref h14, .ref h15, .int 0])), (h3, .inl (cI, 4096, .inl (upd (fun _ => 0) 0 1)))]) (As := []) (rest := []) ⟨hx, hb, hml, hown, hts⟩ (c_X12_lack_0 l D cI cS _ h0 h1 h2 h3 h4 h5 h6 h7 h8 h9 h10 h11 h12 h13 h14 h15) hKK hP hD hS hA [0, 1, 2] [] (by decide) rfl rfl (by decide) (by decide) hPc hDc (ci := 12) rfl rfl (cwV 0 hts gX12_barriers_X12_lack rfl rfl rfl (by decide +kernel) ⟨Nat.le_of_ble_eq_true rfl, Nat.le_of_ble_eq_true rfl⟩) rfl hl.1 rfl (Nat.le_of_ble_eq_true rfl) dX12_barriers_13 ⟨Nat.le_of_ble_eq_true rfl, Nat.le_of_ble_eq_true rfl⟩ (fun r393 H locs hw hP hD hS => ?_)
        have hP : va_P D cls [(h2, .inl (cI, 4096, .inl (fun _ => 0))), (h0, .inr (12, [.int 0, .int 1, .ref h1, .ref h2, .ref h3, .ref h4, .ref h5, .ref h6, .ref h7, .ref h8, .int 0, .int 0, .int 0, .int 0, .int 0, .int 0, .ref h9, .ref h10, .ref h11, .ref h12, .ref h13, .ref h14, .ref h15, .int 0])), (h3, .inl (cI, 4096, .inl (upd (fun _ => 0) 0 1)))] H := hP
        have hD : va_D A [(h2, .inl (cI, 4096, .inl (fun _ => 0))), (h0, .inr (12, [.int 0, .int 1, .ref h1, .ref h2, .ref h3, .ref h4, .ref h5, .ref h6, .ref h7, .ref h8, .int 0, .int 0, .int 0, .int 0, .int 0, .int 0, .ref h9, .ref h10, .ref h11, .ref h12, .ref h13, .ref h14, .ref h15, .int 0])), (h3, .inl (cI, 4096, .inl (upd (fun _ => 0) 0 1)))] := hD
        subst hw
        refine lv_istore_n (lv' := [(2, .int 0), (0, .ref h0), (1, .int x0)]) hx hb dX12_barriers_16 rfl hl (by decide) rfl (fun ls hl => ?_)
        refine lv_iconst (v := 0) hx hb dX12_barriers_17 (by decide) ?_
        refine lv_istore_n (lv' := [(3, .int 0), (2, .int 0), (0, .ref h0), (1, .int x0)]) hx hb dX12_barriers_18 rfl hl (by decide) rfl (fun ls hl => ?_)
        refine lv_iconst (v := (-1)) hx hb dX12_barriers_19 (by decide) ?_
        refine lv_istore (lv' := [(4, .int (-1)), (3, .int 0), (2, .int 0), (0, .ref h0), (1, .int x0)]) hx hb dX12_barriers_20 hl (by decide) rfl (fun ls hl => ?_)
        refine lv_aload_n hx hb dX12_barriers_22 rfl (lv_at hl 3 rfl) ?_
        have hPc := hP.sub (ws' := [(h0, .inr (12, [.int 0, .int 1, .ref h1, .ref h2, .ref h3, .ref h4, .ref h5, .ref h6, .ref h7, .ref h8, .int 0, .int 0, .int 0, .int 0, .int 0, .int 0, .ref h9, .ref h10, .ref h11, .ref h12, .ref h13, .ref h14, .ref h15, .int 0]))]) [1] rfl
        refine lz_sv (As := []) (rest := []) ⟨hx, hb, hml, hown, hts⟩ (c_X12_all_0 l D cI cS h0 h1 h2 h3 h4 h5 h6 h7 h8 h9 h10 h11 h12 h13 h14 h15) hKK hPc (ci := 12) rfl rfl (cwV 0 hts gX12_barriers_X12_all rfl rfl rfl (by decide +kernel) ⟨Nat.le_of_ble_eq_true rfl, Nat.le_of_ble_eq_true rfl⟩) rfl hl.1 rfl (Nat.le_of_ble_eq_true rfl) dX12_barriers_23 ⟨Nat.le_of_ble_eq_true rfl, Nat.le_of_ble_eq_true rfl⟩ (fun r394 hw => ?_)
        subst hw
        refine lv_istore (lv' := [(5, .int 0), (4, .int (-1)), (3, .int 0), (2, .int 0), (0, .ref h0), (1, .int x0)]) hx hb dX12_barriers_26 hl (by decide) rfl (fun ls hl => ?_)
        refine lv_iconst (v := 0) hx hb dX12_barriers_28 (by decide) ?_
        refine lv_istore (lv' := [(6, .int 0), (5, .int 0), (4, .int (-1)), (3, .int 0), (2, .int 0), (0, .ref h0), (1, .int x0)]) hx hb dX12_barriers_29 hl (by decide) rfl (fun ls hl => ?_)
        refine lv_iload hx hb dX12_barriers_31 (lv_at hl 0 rfl) ?_
        refine lv_aload_n hx hb dX12_barriers_33 rfl (lv_at hl 5 rfl) ?_
        have hPc := hP.sub (ws' := [(h0, .inr (12, [.int 0, .int 1, .ref h1, .ref h2, .ref h3, .ref h4, .ref h5, .ref h6, .ref h7, .ref h8, .int 0, .int 0, .int 0, .int 0, .int 0, .int 0, .ref h9, .ref h10, .ref h11, .ref h12, .ref h13, .ref h14, .ref h15, .int 0]))]) [1] rfl
        refine lz_sv (As := []) (rest := [.int 0]) ⟨hx, hb, hml, hown, hts⟩ (c_X12_all_0 l D cI cS h0 h1 h2 h3 h4 h5 h6 h7 h8 h9 h10 h11 h12 h13 h14 h15) hKK hPc (ci := 12) rfl rfl (cwV 0 hts gX12_barriers_X12_all rfl rfl rfl (by decide +kernel) ⟨Nat.le_of_ble_eq_true rfl, Nat.le_of_ble_eq_true rfl⟩) rfl hl.1 rfl (Nat.le_of_ble_eq_true rfl) dX12_barriers_34 ⟨Nat.le_of_ble_eq_true rfl, Nat.le_of_ble_eq_true rfl⟩ (fun r395 hw => ?_)
        subst hw
        refine lv_icmp_gt (tgt := 103) hx hb dX12_barriers_37 (by decide) (fun c396 => ?_) (fun c396 => ?_)
        · exact absurd c396 (by decide)
        · refine lv_aload_n hx hb dX12_barriers_40 rfl (lv_at hl 5 rfl) ?_
          refine lv_iload hx hb dX12_barriers_41 (lv_at hl 0 rfl) ?_
          have hPc := hP.sub (ws' := [(h0, .inr (12, [.int 0, .int 1, .ref h1, .ref h2, .ref h3, .ref h4, .ref h5, .ref h6, .ref h7, .ref h8, .int 0, .int 0, .int 0, .int 0, .int 0, .int 0, .ref h9, .ref h10, .ref h11, .ref h12, .ref h13, .ref h14, .ref h15, .int 0]))]) [1] rfl
          refine lz_sv (As := [.int 0]) (rest := []) ⟨hx, hb, hml, hown, hts⟩ (c_X12_oddOf_1 l D cI cS h0 h1 h2 h3 h4 h5 h6 h7 h8 h9 h10 h11 h12 h13 h14 h15) hKK hPc (ci := 12) rfl rfl (cwV 1 hts gX12_barriers_X12_oddOf rfl rfl rfl (by decide +kernel) ⟨Nat.le_of_ble_eq_true rfl, Nat.le_of_ble_eq_true rfl⟩) rfl hl.1 rfl (Nat.le_of_ble_eq_true rfl) dX12_barriers_43 ⟨Nat.le_of_ble_eq_true rfl, Nat.le_of_ble_eq_true rfl⟩ (fun r397 hw => ?_)
          subst hw
          refine lv_iload hx hb dX12_barriers_46 (lv_at hl 0 rfl) ?_
          have hPc := hP.sub (ws' := []) [] rfl
          refine lz_ss (As := [.int 0]) (rest := [.int 0]) ⟨hx, hb, hml, hown, hts⟩ (c_X12_bits_0 l D cI cS) hKK hPc (va_cwS 1 hts gX12_barriers_X12_bits rfl rfl rfl (by decide +kernel) ⟨Nat.le_of_ble_eq_true rfl, Nat.le_of_ble_eq_true rfl⟩) rfl hl.1 rfl (Nat.le_of_ble_eq_true rfl) dX12_barriers_48 ⟨Nat.le_of_ble_eq_true rfl, Nat.le_of_ble_eq_true rfl⟩ (fun r398 hw => ?_)
          subst hw
          refine lv_isub hx hb dX12_barriers_51 ?_
          refine lz_top (y := 0) (by decide) ?_
          refine lv_iload_n hx hb dX12_barriers_52 rfl (lv_at hl 4 rfl) ?_
          refine lv_icmp_eq (tgt := 59) hx hb dX12_barriers_53 (by decide) (fun c399 => ?_) (fun c399 => ?_)
          · refine lv_iinc (v := 1) (lv' := [(3, .int 1), (6, .int 0), (5, .int 0), (4, .int (-1)), (2, .int 0), (0, .ref h0), (1, .int x0)]) hx hb dX12_barriers_59 hl (k := 3) rfl (by decide) (by decide) rfl (fun ls hl => ?_)
            refine lv_iload hx hb dX12_barriers_62 (lv_at hl 3 rfl) ?_
            refine lv_iconst (v := (-1)) hx hb dX12_barriers_64 (by decide) ?_
            refine lv_icmp_eq (tgt := 81) hx hb dX12_barriers_65 (by decide) (fun c400 => ?_) (fun c400 => ?_)
            · refine lv_iload hx hb dX12_barriers_81 (lv_at hl 1 rfl) ?_
              refine lv_goto (tgt := 88) hx hb dX12_barriers_83 (by decide) ?_
              refine lv_istore (lv' := [(4, .int 0), (3, .int 1), (6, .int 0), (5, .int 0), (2, .int 0), (0, .ref h0), (1, .int x0)]) hx hb dX12_barriers_88 hl (by decide) rfl (fun ls hl => ?_)
              refine lv_iload hx hb dX12_barriers_90 (lv_at hl 3 rfl) ?_
              refine lv_iload hx hb dX12_barriers_92 (lv_at hl 2 rfl) ?_
              refine lv_iand hx hb dX12_barriers_94 ?_
              refine lz_top (y := 0) (by decide) ?_
              refine lv_istore (lv' := [(5, .int 0), (4, .int 0), (3, .int 1), (6, .int 0), (2, .int 0), (0, .ref h0), (1, .int x0)]) hx hb dX12_barriers_95 hl (by decide) rfl (fun ls hl => ?_)
              refine lv_iinc (v := 1) (lv' := [(6, .int 1), (5, .int 0), (4, .int 0), (3, .int 1), (2, .int 0), (0, .ref h0), (1, .int x0)]) hx hb dX12_barriers_97 hl (k := 3) rfl (by decide) (by decide) rfl (fun ls hl => ?_)
              refine lv_goto (tgt := 31) hx hb dX12_barriers_100 (by decide) ?_
              refine lv_iload hx hb dX12_barriers_31 (lv_at hl 0 rfl) ?_
              refine lv_aload_n hx hb dX12_barriers_33 rfl (lv_at hl 5 rfl) ?_
              have hPc := hP.sub (ws' := [(h0, .inr (12, [.int 0, .int 1, .ref h1, .ref h2, .ref h3, .ref h4, .ref h5, .ref h6, .ref h7, .ref h8, .int 0, .int 0, .int 0, .int 0, .int 0, .int 0, .ref h9, .ref h10, .ref h11, .ref h12, .ref h13, .ref h14, .ref h15, .int 0]))]) [1] rfl
              refine lz_sv (As := []) (rest := [.int 1]) ⟨hx, hb, hml, hown, hts⟩ (c_X12_all_0 l D cI cS h0 h1 h2 h3 h4 h5 h6 h7 h8 h9 h10 h11 h12 h13 h14 h15) hKK hPc (ci := 12) rfl rfl (cwV 0 hts gX12_barriers_X12_all rfl rfl rfl (by decide +kernel) ⟨Nat.le_of_ble_eq_true rfl, Nat.le_of_ble_eq_true rfl⟩) rfl hl.1 rfl (Nat.le_of_ble_eq_true rfl) dX12_barriers_34 ⟨Nat.le_of_ble_eq_true rfl, Nat.le_of_ble_eq_true rfl⟩ (fun r401 hw => ?_)
              subst hw
              refine lv_icmp_gt (tgt := 103) hx hb dX12_barriers_37 (by decide) (fun c402 => ?_) (fun c402 => ?_)
              · refine lv_iload_n hx hb dX12_barriers_103 rfl (lv_at hl 6 rfl) ?_
                refine lv_if_ne (tgt := 111) hx hb dX12_barriers_104 (by decide) (fun c403 => ?_) (fun c403 => ?_)
                · refine lv_iload_n hx hb dX12_barriers_111 rfl (lv_at hl 6 rfl) ?_
                  refine lv_iconst (v := 1) hx hb dX12_barriers_112 (by decide) ?_
                  refine lv_icmp_ne (tgt := 121) hx hb dX12_barriers_113 (by decide) (fun c404 => ?_) (fun c404 => ?_)
                  · refine lv_iload hx hb dX12_barriers_121 (lv_at hl 1 rfl) ?_
                    have hP9 := hP.sub (ws' := []) [] rfl
                    have hD9 := hD.sub (ws' := []) [] (by decide) rfl
                    subst hAe
                    exact W.iret (v := 0) hx hb hr (fun t ht hW => ⟨⟨_, (), rfl, by rw [if_neg k388, if_neg k390, if_neg c403], by rw [ht]; exact hP9, hD9⟩, hS.F ht⟩) hS.2.2 dX12_barriers_123
                  · subst c404
                    refine lv_iload hx hb dX12_barriers_116 (lv_at hl 2 rfl) ?_
                    refine lv_goto (tgt := 123) hx hb dX12_barriers_118 (by decide) ?_
                    have hP9 := hP.sub (ws' := []) [] rfl
                    have hD9 := hD.sub (ws' := []) [] (by decide) rfl
                    subst hAe
                    exact W.iret (v := 0) hx hb hr (fun t ht hW => ⟨⟨_, (), rfl, by rw [if_neg k388, if_neg k390, if_neg c403], by rw [ht]; exact hP9, hD9⟩, hS.F ht⟩) hS.2.2 dX12_barriers_123
                · subst c403
                  refine lv_iload_n hx hb dX12_barriers_107 rfl (lv_at hl 3 rfl) ?_
                  refine lv_goto (tgt := 123) hx hb dX12_barriers_108 (by decide) ?_
                  have hP9 := hP.sub (ws' := []) [] rfl
                  have hD9 := hD.sub (ws' := []) [] (by decide) rfl
                  subst hAe
                  exact W.iret (v := 1) hx hb hr (fun t ht hW => ⟨⟨_, (), rfl, by rw [if_neg k388, if_neg k390, if_pos rfl], by rw [ht]; exact hP9, hD9⟩, hS.F ht⟩) hS.2.2 dX12_barriers_123
              · exact absurd c402 (by decide)
            · exact absurd c400 (by decide)
          · exact absurd c399 (by decide)
      · exact absurd c392 (by decide)
set_option maxHeartbeats 4000000 in
set_option maxRecDepth 100000 in
theorem c_X12_isCritical_0 (l : Launch) (D : va_G) (cI cS : ClassId) (h0 h1 h2 h3 h4 h5 h6 h7 h8 h9 h10 h11 h12 h13 h14 h15 : Nat) : Met l yX12_isCritical wsX12_isCritical ({ frames := 1, cells := 0, slots := 0, locals := 40 }) (PS D cI cS [(h0, .inr (12, [.int 0, .int 1, .ref h1, .ref h2, .ref h3, .ref h4, .ref h5, .ref h6, .ref h7, .ref h8, .int 0, .int 0, .int 0, .int 0, .int 0, .int 0, .ref h9, .ref h10, .ref h11, .ref h12, .ref h13, .ref h14, .ref h15, .int 0]))] [.ref h0, .int 0]) (vp_Si (fun r => r = (0 : Int32))) 0 0 (fun _ => False) := by
  refine Met.ofW (cc := cX12_isCritical) (maxL := 4) (ret := (some .boolean)) (by decide) rfl ?_
  intro p e s m args below meth c s₁ B hml hv
  obtain ⟨rfl, hP, hKK⟩ := hv
  have hx := B.exec
  have hb := B.bytes
  have hr := B.returns
  have hts := atoms_spec (ws := wsX12_isCritical) B.pre
  have hown : s.vm.findClass RX12 = some m.cls := findClass_of_methodNamed B.named
  have hlocks := B.notSynchronized
  have hK := hKK.1
  have hN := hKK.2
  have hin12 : ∀ w ∈ wsX120, w ∈ wsX12_isCritical := by decide +kernel
  have hl := lv_entry ([.ref h0, .int 0]) (n := 4) (Nat.le_of_ble_eq_true rfl)
  rw [lg_entry_eq]
  generalize (lg_sl ([.ref h0, .int 0]) ++ List.replicate (4 - (lg_sl ([.ref h0, .int 0])).length) Slot.unset).toArray = ls at hl ⊢
  have hl : lv_has ls 4 [(0, .ref h0), (1, .int 0)] := hl
  refine lv_iload_n hx hb dX12_isCritical_0 rfl (lv_at hl 1 rfl) ?_
  have hPc := hP.sub (ws' := []) [] rfl
  refine lz_ss (As := [.int 0]) (rest := []) ⟨hx, hb, hml, hown, hts⟩ (c_X12_bits_0 l D cI cS) hKK hPc (va_cwS 1 hts gX12_isCritical_X12_bits rfl rfl rfl (by decide +kernel) ⟨Nat.le_of_ble_eq_true rfl, Nat.le_of_ble_eq_true rfl⟩) rfl hl.1 rfl (Nat.le_of_ble_eq_true rfl) dX12_isCritical_1 ⟨Nat.le_of_ble_eq_true rfl, Nat.le_of_ble_eq_true rfl⟩ (fun r412 hw => ?_)
  subst hw
  refine lv_iconst (v := 2) hx hb dX12_isCritical_4 (by decide) ?_
  refine lv_irem hx hb dX12_isCritical_5 (by decide) ?_
  refine lz_top (y := 0) (by decide) ?_
  refine lv_iconst (v := 1) hx hb dX12_isCritical_6 (by decide) ?_
  refine lv_icmp_ne (tgt := 14) hx hb dX12_isCritical_7 (by decide) (fun c413 => ?_) (fun c413 => ?_)
  · refine lv_iconst (v := 0) hx hb dX12_isCritical_14 (by decide) ?_
    refine lv_istore_n (lv' := [(2, .int 0), (0, .ref h0), (1, .int 0)]) hx hb dX12_isCritical_15 rfl hl (by decide) rfl (fun ls hl => ?_)
    refine lv_iconst (v := 0) hx hb dX12_isCritical_16 (by decide) ?_
    refine lv_istore_n (lv' := [(3, .int 0), (2, .int 0), (0, .ref h0), (1, .int 0)]) hx hb dX12_isCritical_17 rfl hl (by decide) rfl (fun ls hl => ?_)
    refine lv_iload_n hx hb dX12_isCritical_18 rfl (lv_at hl 0 rfl) ?_
    refine lv_aload_n hx hb dX12_isCritical_19 rfl (lv_at hl 2 rfl) ?_
    refine va_get (D := D) (ci := 12) (v := .int 0) (C := RX12) (T := TX12) (N := 24) hx hb hts hin12 hown hK hP 0 rfl rfl 0 (by decide) (hts (.fieldLink RX12 63 "MissedPointsModel" "many" "I") (by decide +kernel)) (fun _ h9 => h9) rfl dX12_isCritical_20 ?_
    refine lv_icmp_ge (tgt := 73) hx hb dX12_isCritical_23 (by decide) (fun c414 => ?_) (fun c414 => ?_)
    · refine lv_iload_n hx hb dX12_isCritical_73 rfl (lv_at hl 1 rfl) ?_
      exact W.zret (v := 0) hx hb hr (by decide) (fun t ht hW => ⟨_, rfl, rfl, ht⟩) (fun q hq => absurd hq List.not_mem_nil) dX12_isCritical_74
    · exact absurd c414 (by decide)
  · exact absurd c413 (by decide)
set_option maxHeartbeats 4000000 in
set_option maxRecDepth 100000 in
theorem c_X12_critical_0 (l : Launch) (D : va_G) (cI cS : ClassId) (sz : Nat) (h0 h1 h2 h3 h4 h5 h6 h7 h8 h9 h10 h11 h12 h13 h14 h15 : Nat) (x0 : Int32) : Met l yX12_critical wsX12_critical ({ frames := 2, cells := 0, slots := 0, locals := 80 }) (PQ D cI cS [(h0, .inr (12, [.int 0, .int 1, .ref h1, .ref h2, .ref h3, .ref h4, .ref h5, .ref h6, .ref h7, .ref h8, .int 0, .int 0, .int 0, .int 0, .int 0, .int 0, .ref h9, .ref h10, .ref h11, .ref h12, .ref h13, .ref h14, .ref h15, .int 0])), (h3, .inl (cI, 4096, .inl (fun _ => 0)))] sz [.ref h0, .int x0]) (QI D [(h0, .inr (12, [.int 0, .int 1, .ref h1, .ref h2, .ref h3, .ref h4, .ref h5, .ref h6, .ref h7, .ref h8, .int 0, .int 0, .int 0, .int 0, .int 0, .int 0, .ref h9, .ref h10, .ref h11, .ref h12, .ref h13, .ref h14, .ref h15, .int 0])), (h3, .inl (cI, 4096, .inl (fun _ => 0)))] [] sz (fun r => r = if x0 = 0 then (0 : Int32) else ((-2) : Int32))) 0 0 (va_A [(h0, .inr (12, [.int 0, .int 1, .ref h1, .ref h2, .ref h3, .ref h4, .ref h5, .ref h6, .ref h7, .ref h8, .int 0, .int 0, .int 0, .int 0, .int 0, .int 0, .ref h9, .ref h10, .ref h11, .ref h12, .ref h13, .ref h14, .ref h15, .int 0])), (h3, .inl (cI, 4096, .inl (fun _ => 0)))] sz) := by
  refine Met.ofW (cc := cX12_critical) (maxL := 2) (ret := (some .int)) (by decide) rfl ?_
  intro p e s m args below meth c s₁ B hml hv
  obtain ⟨rfl, hsz, hP, hKK, hD0⟩ := hv
  have hx := B.exec
  have hb := B.bytes
  have hr := B.returns
  have hts := atoms_spec (ws := wsX12_critical) B.pre
  have hown : s.vm.findClass RX12 = some m.cls := findClass_of_methodNamed B.named
  have hlocks := B.notSynchronized
  have hK := hKK.1
  have hN := hKK.2
  subst hsz
  have hD := hD0.self (sz := s.heap.size)
  obtain ⟨A, hAe⟩ : ∃ A, A = va_A [(h0, .inr (12, [.int 0, .int 1, .ref h1, .ref h2, .ref h3, .ref h4, .ref h5, .ref h6, .ref h7, .ref h8, .int 0, .int 0, .int 0, .int 0, .int 0, .int 0, .ref h9, .ref h10, .ref h11, .ref h12, .ref h13, .ref h14, .ref h15, .int 0])), (h3, .inl (cI, 4096, .inl (fun _ => 0)))] s.heap.size := ⟨_, rfl⟩
  rw [← hAe] at hD
  have hA : ∀ q : Nat, s.heap.size ≤ q → A q := fun q h => by rw [hAe]; exact Or.inr h
  have hS : va_S A s.heap s.heap [] := va_S.rf
  have hl := lv_entry ([.ref h0, .int x0]) (n := 2) (Nat.le_of_ble_eq_true rfl)
  rw [lg_entry_eq]
  generalize (lg_sl ([.ref h0, .int x0]) ++ List.replicate (2 - (lg_sl ([.ref h0, .int x0])).length) Slot.unset).toArray = ls at hl ⊢
  have hl : lv_has ls 2 [(0, .ref h0), (1, .int x0)] := hl
  refine lv_aload_n hx hb dX12_critical_0 rfl (lv_at hl 0 rfl) ?_
  refine lv_iload_n hx hb dX12_critical_1 rfl (lv_at hl 1 rfl) ?_
  have hPc := hP.sub (ws' := [(h0, .inr (12, [.int 0, .int 1, .ref h1, .ref h2, .ref h3, .ref h4, .ref h5, .ref h6, .ref h7, .ref h8, .int 0, .int 0, .int 0, .int 0, .int 0, .int 0, .ref h9, .ref h10, .ref h11, .ref h12, .ref h13, .ref h14, .ref h15, .int 0]))]) [0] rfl
  refine lz_sv (As := [.int x0]) (rest := []) ⟨hx, hb, hml, hown, hts⟩ (c_X12_isSet_0 l D cI cS h0 h1 h2 h3 h4 h5 h6 h7 h8 h9 h10 h11 h12 h13 h14 h15 x0) hKK hPc (ci := 12) rfl rfl (cwV 1 hts gX12_critical_X12_isSet rfl rfl rfl (by decide +kernel) ⟨Nat.le_of_ble_eq_true rfl, Nat.le_of_ble_eq_true rfl⟩) rfl hl.1 rfl (Nat.le_of_ble_eq_true rfl) dX12_critical_2 ⟨Nat.le_of_ble_eq_true rfl, Nat.le_of_ble_eq_true rfl⟩ (fun r418 hw => ?_)
  by_cases k419 : x0 = 0
  · rw [if_pos k419] at hw
    subst k419
    subst hw
    refine lv_if_ne (tgt := 11) hx hb dX12_critical_5 (by decide) (fun c420 => ?_) (fun c420 => ?_)
    · refine lv_aload_n hx hb dX12_critical_11 rfl (lv_at hl 0 rfl) ?_
      have hPc := hP.sub (ws' := [(h0, .inr (12, [.int 0, .int 1, .ref h1, .ref h2, .ref h3, .ref h4, .ref h5, .ref h6, .ref h7, .ref h8, .int 0, .int 0, .int 0, .int 0, .int 0, .int 0, .ref h9, .ref h10, .ref h11, .ref h12, .ref h13, .ref h14, .ref h15, .int 0])), (h3, .inl (cI, 4096, .inl (fun _ => 0)))]) [0, 1] rfl
      have hDc := hD.sub (ws' := [(h0, .inr (12, [.int 0, .int 1, .ref h1, .ref h2, .ref h3, .ref h4, .ref h5, .ref h6, .ref h7, .ref h8, .int 0, .int 0, .int 0, .int 0, .int 0, .int 0, .ref h9, .ref h10, .ref h11, .ref h12, .ref h13, .ref h14, .ref h15, .int 0])), (h3, .inl (cI, 4096, .inl (fun _ => 0)))]) [0, 1] (by decide) rfl
      refine lz_qv (wr := []) (w1 := [(h0, .inr (12, [.int 0, .int 1, .ref h1, .ref h2, .ref h3, .ref h4, .ref h5, .ref h6, .ref h7, .ref h8, .int 0, .int 0, .int 0, .int 0, .int 0, .int 0, .ref h9, .ref h10, .ref h11, .ref h12, .ref h13, .ref h14, .ref h15, .int 0])), (h3, .inl (cI, 4096, .inl (upd (fun _ => 0) 0 1)))]) (As := []) (rest := []) ⟨hx, hb, hml, hown, hts⟩ (c_X12_reckons_0 l D cI cS _ h0 h1 h2 h3 h4 h5 h6 h7 h8 h9 h10 h11 h12 h13 h14 h15) hKK hP hD hS hA [0, 1] [] (by decide) rfl rfl (by decide) (by decide) hPc hDc (ci := 12) rfl rfl (cwV 0 hts gX12_critical_X12_reckons rfl rfl rfl (by decide +kernel) ⟨Nat.le_of_ble_eq_true rfl, Nat.le_of_ble_eq_true rfl⟩) rfl hl.1 rfl (Nat.le_of_ble_eq_true rfl) dX12_critical_12 ⟨Nat.le_of_ble_eq_true rfl, Nat.le_of_ble_eq_true rfl⟩ (fun H locs hP hD hS => ?_)
      have hP : va_P D cls [(h0, .inr (12, [.int 0, .int 1, .ref h1, .ref h2, .ref h3, .ref h4, .ref h5, .ref h6, .ref h7, .ref h8, .int 0, .int 0, .int 0, .int 0, .int 0, .int 0, .ref h9, .ref h10, .ref h11, .ref h12, .ref h13, .ref h14, .ref h15, .int 0])), (h3, .inl (cI, 4096, .inl (upd (fun _ => 0) 0 1)))] H := hP
      have hD : va_D A [(h0, .inr (12, [.int 0, .int 1, .ref h1, .ref h2, .ref h3, .ref h4, .ref h5, .ref h6, .ref h7, .ref h8, .int 0, .int 0, .int 0, .int 0, .int 0, .int 0, .ref h9, .ref h10, .ref h11, .ref h12, .ref h13, .ref h14, .ref h15, .int 0])), (h3, .inl (cI, 4096, .inl (upd (fun _ => 0) 0 1)))] := hD
      refine lv_aload_n hx hb dX12_critical_15 rfl (lv_at hl 0 rfl) ?_
      refine lv_iload_n hx hb dX12_critical_16 rfl (lv_at hl 1 rfl) ?_
      have hPc := hP.sub (ws' := [(h0, .inr (12, [.int 0, .int 1, .ref h1, .ref h2, .ref h3, .ref h4, .ref h5, .ref h6, .ref h7, .ref h8, .int 0, .int 0, .int 0, .int 0, .int 0, .int 0, .ref h9, .ref h10, .ref h11, .ref h12, .ref h13, .ref h14, .ref h15, .int 0]))]) [0] rfl
      refine lz_sv (As := [.int 0]) (rest := []) ⟨hx, hb, hml, hown, hts⟩ (c_X12_isCritical_0 l D cI cS h0 h1 h2 h3 h4 h5 h6 h7 h8 h9 h10 h11 h12 h13 h14 h15) hKK hPc (ci := 12) rfl rfl (cwV 1 hts gX12_critical_X12_isCritical rfl rfl rfl (by decide +kernel) ⟨Nat.le_of_ble_eq_true rfl, Nat.le_of_ble_eq_true rfl⟩) rfl hl.1 rfl (Nat.le_of_ble_eq_true rfl) dX12_critical_17 ⟨Nat.le_of_ble_eq_true rfl, Nat.le_of_ble_eq_true rfl⟩ (fun r422 hw => ?_)
      subst hw
      refine lv_if_eq (tgt := 27) hx hb dX12_critical_20 (by decide) (fun c423 => ?_) (fun c423 => ?_)
      · refine lv_iconst (v := 0) hx hb dX12_critical_27 (by decide) ?_
        have hP9 := hP.sub (ws' := []) [] rfl
        have hD9 := hD.sub (ws' := []) [] (by decide) rfl
        subst hAe
        exact W.iret (v := 0) hx hb hr (fun t ht hW => ⟨⟨_, (), rfl, by rw [if_pos rfl], by rw [ht]; exact hP9, hD9⟩, hS.F ht⟩) hS.2.2 dX12_critical_28
      · exact absurd c423 (by decide)
    · exact absurd c420 (by decide)
  · rw [if_neg k419] at hw
    subst hw
    refine lv_if_ne (tgt := 11) hx hb dX12_critical_5 (by decide) (fun c424 => ?_) (fun c424 => ?_)
    · exact absurd c424 (by decide)
    · refine lv_bipush (v := (-2)) hx hb dX12_critical_8 (by decide) ?_
      have hP9 := hP.sub (ws' := []) [] rfl
      have hD9 := hD.sub (ws' := []) [] (by decide) rfl
      subst hAe
      exact W.iret (v := (-2)) hx hb hr (fun t ht hW => ⟨⟨_, (), rfl, by rw [if_neg k419], by rw [ht]; exact hP9, hD9⟩, hS.F ht⟩) hS.2.2 dX12_critical_10
set_option maxHeartbeats 4000000 in
set_option maxRecDepth 100000 in
theorem c_X12_ear_0 (l : Launch) (D : va_G) (cI cS : ClassId) (sz : Nat) (h0 h1 h2 h3 h4 h5 h6 h7 h8 h9 h10 h11 h12 h13 h14 h15 : Nat) (x0 x1 : Int32) : Met l yX12_ear wsX12_ear ({ frames := 2, cells := 0, slots := 0, locals := 80 }) (PQ D cI cS [(h0, .inr (12, [.int 0, .int 1, .ref h1, .ref h2, .ref h3, .ref h4, .ref h5, .ref h6, .ref h7, .ref h8, .int 0, .int 0, .int 0, .int 0, .int 0, .int 0, .ref h9, .ref h10, .ref h11, .ref h12, .ref h13, .ref h14, .ref h15, .int 0])), (h3, .inl (cI, 4096, .inl (fun _ => 0)))] sz [.ref h0, .int x0, .int x1]) (QI D [(h0, .inr (12, [.int 0, .int 1, .ref h1, .ref h2, .ref h3, .ref h4, .ref h5, .ref h6, .ref h7, .ref h8, .int 0, .int 0, .int 0, .int 0, .int 0, .int 0, .ref h9, .ref h10, .ref h11, .ref h12, .ref h13, .ref h14, .ref h15, .int 0])), (h3, .inl (cI, 4096, .inl (fun _ => 0)))] [] sz (fun r => r = if x0 = 0 then ((-3) : Int32) else ((-2) : Int32))) 0 0 (va_A [(h0, .inr (12, [.int 0, .int 1, .ref h1, .ref h2, .ref h3, .ref h4, .ref h5, .ref h6, .ref h7, .ref h8, .int 0, .int 0, .int 0, .int 0, .int 0, .int 0, .ref h9, .ref h10, .ref h11, .ref h12, .ref h13, .ref h14, .ref h15, .int 0])), (h3, .inl (cI, 4096, .inl (fun _ => 0)))] sz) := by
  refine Met.ofW (cc := cX12_ear) (maxL := 6) (ret := (some .int)) (by decide) rfl ?_
  intro p e s m args below meth c s₁ B hml hv
  obtain ⟨rfl, hsz, hP, hKK, hD0⟩ := hv
  have hx := B.exec
  have hb := B.bytes
  have hr := B.returns
  have hts := atoms_spec (ws := wsX12_ear) B.pre
  have hown : s.vm.findClass RX12 = some m.cls := findClass_of_methodNamed B.named
  have hlocks := B.notSynchronized
  have hK := hKK.1
  have hN := hKK.2
  subst hsz
  have hD := hD0.self (sz := s.heap.size)
  obtain ⟨A, hAe⟩ : ∃ A, A = va_A [(h0, .inr (12, [.int 0, .int 1, .ref h1, .ref h2, .ref h3, .ref h4, .ref h5, .ref h6, .ref h7, .ref h8, .int 0, .int 0, .int 0, .int 0, .int 0, .int 0, .ref h9, .ref h10, .ref h11, .ref h12, .ref h13, .ref h14, .ref h15, .int 0])), (h3, .inl (cI, 4096, .inl (fun _ => 0)))] s.heap.size := ⟨_, rfl⟩
  rw [← hAe] at hD
  have hA : ∀ q : Nat, s.heap.size ≤ q → A q := fun q h => by rw [hAe]; exact Or.inr h
  have hS : va_S A s.heap s.heap [] := va_S.rf
  have hl := lv_entry ([.ref h0, .int x0, .int x1]) (n := 6) (Nat.le_of_ble_eq_true rfl)
  rw [lg_entry_eq]
  generalize (lg_sl ([.ref h0, .int x0, .int x1]) ++ List.replicate (6 - (lg_sl ([.ref h0, .int x0, .int x1])).length) Slot.unset).toArray = ls at hl ⊢
  have hl : lv_has ls 6 [(0, .ref h0), (1, .int x0), (2, .int x1)] := hl
  refine lv_aload_n hx hb dX12_ear_0 rfl (lv_at hl 0 rfl) ?_
  refine lv_iload_n hx hb dX12_ear_1 rfl (lv_at hl 1 rfl) ?_
  have hPc := hP.sub (ws' := [(h0, .inr (12, [.int 0, .int 1, .ref h1, .ref h2, .ref h3, .ref h4, .ref h5, .ref h6, .ref h7, .ref h8, .int 0, .int 0, .int 0, .int 0, .int 0, .int 0, .ref h9, .ref h10, .ref h11, .ref h12, .ref h13, .ref h14, .ref h15, .int 0]))]) [0] rfl
  refine lz_sv (As := [.int x0]) (rest := []) ⟨hx, hb, hml, hown, hts⟩ (c_X12_isSet_0 l D cI cS h0 h1 h2 h3 h4 h5 h6 h7 h8 h9 h10 h11 h12 h13 h14 h15 x0) hKK hPc (ci := 12) rfl rfl (cwV 1 hts gX12_ear_X12_isSet rfl rfl rfl (by decide +kernel) ⟨Nat.le_of_ble_eq_true rfl, Nat.le_of_ble_eq_true rfl⟩) rfl hl.1 rfl (Nat.le_of_ble_eq_true rfl) dX12_ear_2 ⟨Nat.le_of_ble_eq_true rfl, Nat.le_of_ble_eq_true rfl⟩ (fun r432 hw => ?_)
  by_cases k433 : x0 = 0
  · rw [if_pos k433] at hw
    subst k433
    subst hw
    refine lv_if_ne (tgt := 11) hx hb dX12_ear_5 (by decide) (fun c434 => ?_) (fun c434 => ?_)
    · refine lv_aload_n hx hb dX12_ear_11 rfl (lv_at hl 0 rfl) ?_
      have hPc := hP.sub (ws' := [(h0, .inr (12, [.int 0, .int 1, .ref h1, .ref h2, .ref h3, .ref h4, .ref h5, .ref h6, .ref h7, .ref h8, .int 0, .int 0, .int 0, .int 0, .int 0, .int 0, .ref h9, .ref h10, .ref h11, .ref h12, .ref h13, .ref h14, .ref h15, .int 0])), (h3, .inl (cI, 4096, .inl (fun _ => 0)))]) [0, 1] rfl
      have hDc := hD.sub (ws' := [(h0, .inr (12, [.int 0, .int 1, .ref h1, .ref h2, .ref h3, .ref h4, .ref h5, .ref h6, .ref h7, .ref h8, .int 0, .int 0, .int 0, .int 0, .int 0, .int 0, .ref h9, .ref h10, .ref h11, .ref h12, .ref h13, .ref h14, .ref h15, .int 0])), (h3, .inl (cI, 4096, .inl (fun _ => 0)))]) [0, 1] (by decide) rfl
      refine lz_qv (wr := []) (w1 := [(h0, .inr (12, [.int 0, .int 1, .ref h1, .ref h2, .ref h3, .ref h4, .ref h5, .ref h6, .ref h7, .ref h8, .int 0, .int 0, .int 0, .int 0, .int 0, .int 0, .ref h9, .ref h10, .ref h11, .ref h12, .ref h13, .ref h14, .ref h15, .int 0])), (h3, .inl (cI, 4096, .inl (upd (fun _ => 0) 0 1)))]) (As := []) (rest := []) ⟨hx, hb, hml, hown, hts⟩ (c_X12_reckons_0 l D cI cS _ h0 h1 h2 h3 h4 h5 h6 h7 h8 h9 h10 h11 h12 h13 h14 h15) hKK hP hD hS hA [0, 1] [] (by decide) rfl rfl (by decide) (by decide) hPc hDc (ci := 12) rfl rfl (cwV 0 hts gX12_ear_X12_reckons rfl rfl rfl (by decide +kernel) ⟨Nat.le_of_ble_eq_true rfl, Nat.le_of_ble_eq_true rfl⟩) rfl hl.1 rfl (Nat.le_of_ble_eq_true rfl) dX12_ear_12 ⟨Nat.le_of_ble_eq_true rfl, Nat.le_of_ble_eq_true rfl⟩ (fun H locs hP hD hS => ?_)
      have hP : va_P D cls [(h0, .inr (12, [.int 0, .int 1, .ref h1, .ref h2, .ref h3, .ref h4, .ref h5, .ref h6, .ref h7, .ref h8, .int 0, .int 0, .int 0, .int 0, .int 0, .int 0, .ref h9, .ref h10, .ref h11, .ref h12, .ref h13, .ref h14, .ref h15, .int 0])), (h3, .inl (cI, 4096, .inl (upd (fun _ => 0) 0 1)))] H := hP
      have hD : va_D A [(h0, .inr (12, [.int 0, .int 1, .ref h1, .ref h2, .ref h3, .ref h4, .ref h5, .ref h6, .ref h7, .ref h8, .int 0, .int 0, .int 0, .int 0, .int 0, .int 0, .ref h9, .ref h10, .ref h11, .ref h12, .ref h13, .ref h14, .ref h15, .int 0])), (h3, .inl (cI, 4096, .inl (upd (fun _ => 0) 0 1)))] := hD
      refine lv_aload_n hx hb dX12_ear_15 rfl (lv_at hl 0 rfl) ?_
      refine lv_iload_n hx hb dX12_ear_16 rfl (lv_at hl 1 rfl) ?_
      have hPc := hP.sub (ws' := [(h0, .inr (12, [.int 0, .int 1, .ref h1, .ref h2, .ref h3, .ref h4, .ref h5, .ref h6, .ref h7, .ref h8, .int 0, .int 0, .int 0, .int 0, .int 0, .int 0, .ref h9, .ref h10, .ref h11, .ref h12, .ref h13, .ref h14, .ref h15, .int 0]))]) [0] rfl
      refine lz_sv (As := [.int 0]) (rest := []) ⟨hx, hb, hml, hown, hts⟩ (c_X12_isCritical_0 l D cI cS h0 h1 h2 h3 h4 h5 h6 h7 h8 h9 h10 h11 h12 h13 h14 h15) hKK hPc (ci := 12) rfl rfl (cwV 1 hts gX12_ear_X12_isCritical rfl rfl rfl (by decide +kernel) ⟨Nat.le_of_ble_eq_true rfl, Nat.le_of_ble_eq_true rfl⟩) rfl hl.1 rfl (Nat.le_of_ble_eq_true rfl) dX12_ear_17 ⟨Nat.le_of_ble_eq_true rfl, Nat.le_of_ble_eq_true rfl⟩ (fun r436 hw => ?_)
      subst hw
      refine lv_if_ne (tgt := 26) hx hb dX12_ear_20 (by decide) (fun c437 => ?_) (fun c437 => ?_)
      · exact absurd c437 (by decide)
      · refine lv_bipush (v := (-3)) hx hb dX12_ear_23 (by decide) ?_
        have hP9 := hP.sub (ws' := []) [] rfl
        have hD9 := hD.sub (ws' := []) [] (by decide) rfl
        subst hAe
        exact W.iret (v := (-3)) hx hb hr (fun t ht hW => ⟨⟨_, (), rfl, by rw [if_pos rfl], by rw [ht]; exact hP9, hD9⟩, hS.F ht⟩) hS.2.2 dX12_ear_25
    · exact absurd c434 (by decide)
  · rw [if_neg k433] at hw
    subst hw
    refine lv_if_ne (tgt := 11) hx hb dX12_ear_5 (by decide) (fun c438 => ?_) (fun c438 => ?_)
    · exact absurd c438 (by decide)
    · refine lv_bipush (v := (-2)) hx hb dX12_ear_8 (by decide) ?_
      have hP9 := hP.sub (ws' := []) [] rfl
      have hD9 := hD.sub (ws' := []) [] (by decide) rfl
      subst hAe
      exact W.iret (v := (-2)) hx hb hr (fun t ht hW => ⟨⟨_, (), rfl, by rw [if_neg k433], by rw [ht]; exact hP9, hD9⟩, hS.F ht⟩) hS.2.2 dX12_ear_10
set_option maxHeartbeats 4000000 in
set_option maxRecDepth 100000 in
theorem c_X12_verdict_0 (l : Launch) (D : va_G) (cI cS : ClassId) (h0 h1 h2 h3 h4 h5 h6 h7 h8 h9 h10 h11 h12 h13 h14 h15 : Nat) (x0 x1 : Int32) : Met l yX12_verdict wsX12_verdict ({ frames := 3, cells := 0, slots := 0, locals := 120 }) (PS D cI cS [(h0, .inr (12, [.int 0, .int 1, .ref h1, .ref h2, .ref h3, .ref h4, .ref h5, .ref h6, .ref h7, .ref h8, .int 0, .int 0, .int 0, .int 0, .int 0, .int 0, .ref h9, .ref h10, .ref h11, .ref h12, .ref h13, .ref h14, .ref h15, .int 0]))] [.ref h0, .int x0, .int x1]) (vp_Si (fun r => r = ((-2) : Int32))) 0 0 (fun _ => False) := by
  refine Met.ofW (cc := cX12_verdict) (maxL := 3) (ret := (some .int)) (by decide) rfl ?_
  intro p e s m args below meth c s₁ B hml hv
  obtain ⟨rfl, hP, hKK⟩ := hv
  have hx := B.exec
  have hb := B.bytes
  have hr := B.returns
  have hts := atoms_spec (ws := wsX12_verdict) B.pre
  have hown : s.vm.findClass RX12 = some m.cls := findClass_of_methodNamed B.named
  have hlocks := B.notSynchronized
  have hK := hKK.1
  have hN := hKK.2
  have hl := lv_entry ([.ref h0, .int x0, .int x1]) (n := 3) (Nat.le_of_ble_eq_true rfl)
  rw [lg_entry_eq]
  generalize (lg_sl ([.ref h0, .int x0, .int x1]) ++ List.replicate (3 - (lg_sl ([.ref h0, .int x0, .int x1])).length) Slot.unset).toArray = ls at hl ⊢
  have hl : lv_has ls 3 [(0, .ref h0), (1, .int x0), (2, .int x1)] := hl
  refine lv_aload_n hx hb dX12_verdict_0 rfl (lv_at hl 0 rfl) ?_
  refine lv_iload_n hx hb dX12_verdict_1 rfl (lv_at hl 1 rfl) ?_
  refine lv_iload_n hx hb dX12_verdict_2 rfl (lv_at hl 2 rfl) ?_
  have hPc := hP.sub (ws' := [(h0, .inr (12, [.int 0, .int 1, .ref h1, .ref h2, .ref h3, .ref h4, .ref h5, .ref h6, .ref h7, .ref h8, .int 0, .int 0, .int 0, .int 0, .int 0, .int 0, .ref h9, .ref h10, .ref h11, .ref h12, .ref h13, .ref h14, .ref h15, .int 0]))]) [0] rfl
  refine lz_sv (As := [.int x0, .int x1]) (rest := []) ⟨hx, hb, hml, hown, hts⟩ (c_X12_areTwo_0 l D cI cS h0 h1 h2 h3 h4 h5 h6 h7 h8 h9 h10 h11 h12 h13 h14 h15 x0 x1) hKK hPc (ci := 12) rfl rfl (cwV 2 hts gX12_verdict_X12_areTwo rfl rfl rfl (by decide +kernel) ⟨Nat.le_of_ble_eq_true rfl, Nat.le_of_ble_eq_true rfl⟩) rfl hl.1 rfl (Nat.le_of_ble_eq_true rfl) dX12_verdict_3 ⟨Nat.le_of_ble_eq_true rfl, Nat.le_of_ble_eq_true rfl⟩ (fun r441 hw => ?_)
  subst hw
  refine lv_if_ne (tgt := 12) hx hb dX12_verdict_6 (by decide) (fun c442 => ?_) (fun c442 => ?_)
  · exact absurd c442 (by decide)
  · refine lv_bipush (v := (-2)) hx hb dX12_verdict_9 (by decide) ?_
    exact W.iret (v := (-2)) hx hb hr (fun t ht hW => ⟨_, rfl, rfl, ht⟩) (fun q hq => absurd hq List.not_mem_nil) dX12_verdict_11
set_option maxHeartbeats 4000000 in
set_option maxRecDepth 100000 in
theorem c_X12_twos_0 (l : Launch) (D : va_G) (cI cS : ClassId) (sz : Nat) (h0 h1 h2 h3 h4 h5 h6 h7 h8 h9 h10 h11 h12 h13 h14 h15 : Nat) (x0 : Int32) : Met l yX12_twos wsX12_twos ({ frames := 2, cells := 0, slots := 0, locals := 80 }) (PQ D cI cS [(h0, .inr (12, [.int 0, .int 1, .ref h1, .ref h2, .ref h3, .ref h4, .ref h5, .ref h6, .ref h7, .ref h8, .int 0, .int 0, .int 0, .int 0, .int 0, .int 0, .ref h9, .ref h10, .ref h11, .ref h12, .ref h13, .ref h14, .ref h15, .int 0])), (h3, .inl (cI, 4096, .inl (fun _ => 0)))] sz [.ref h0, .int 1, .int x0, .int 1]) (QI D [(h0, .inr (12, [.int 0, .int 1, .ref h1, .ref h2, .ref h3, .ref h4, .ref h5, .ref h6, .ref h7, .ref h8, .int 0, .int 0, .int 0, .int 0, .int 0, .int 0, .ref h9, .ref h10, .ref h11, .ref h12, .ref h13, .ref h14, .ref h15, .int 0])), (h3, .inl (cI, 4096, .inl (fun _ => 0)))] [(h0, .inr (12, [.int 0, .int 1, .ref h1, .ref h2, .ref h3, .ref h4, .ref h5, .ref h6, .ref h7, .ref h8, .int 0, .int 0, .int 0, .int 0, .int 0, .int 0, .ref h9, .ref h10, .ref h11, .ref h12, .ref h13, .ref h14, .ref h15, .int 0])), (h3, .inl (cI, 4096, .inl (upd (fun _ => 0) 0 1)))] sz (fun r => r = (0 : Int32))) 0 0 (va_A [(h0, .inr (12, [.int 0, .int 1, .ref h1, .ref h2, .ref h3, .ref h4, .ref h5, .ref h6, .ref h7, .ref h8, .int 0, .int 0, .int 0, .int 0, .int 0, .int 0, .ref h9, .ref h10, .ref h11, .ref h12, .ref h13, .ref h14, .ref h15, .int 0])), (h3, .inl (cI, 4096, .inl (fun _ => 0)))] sz) := by
  refine Met.ofW (cc := cX12_twos) (maxL := 8) (ret := (some .int)) (by decide) rfl ?_
  intro p e s m args below meth c s₁ B hml hv
  obtain ⟨rfl, hsz, hP, hKK, hD0⟩ := hv
  have hx := B.exec
  have hb := B.bytes
  have hr := B.returns
  have hts := atoms_spec (ws := wsX12_twos) B.pre
  have hown : s.vm.findClass RX12 = some m.cls := findClass_of_methodNamed B.named
  have hlocks := B.notSynchronized
  have hK := hKK.1
  have hN := hKK.2
  have hin12 : ∀ w ∈ wsX120, w ∈ wsX12_twos := by decide +kernel
  subst hsz
  have hD := hD0.self (sz := s.heap.size)
  obtain ⟨A, hAe⟩ : ∃ A, A = va_A [(h0, .inr (12, [.int 0, .int 1, .ref h1, .ref h2, .ref h3, .ref h4, .ref h5, .ref h6, .ref h7, .ref h8, .int 0, .int 0, .int 0, .int 0, .int 0, .int 0, .ref h9, .ref h10, .ref h11, .ref h12, .ref h13, .ref h14, .ref h15, .int 0])), (h3, .inl (cI, 4096, .inl (fun _ => 0)))] s.heap.size := ⟨_, rfl⟩
  rw [← hAe] at hD
  have hA : ∀ q : Nat, s.heap.size ≤ q → A q := fun q h => by rw [hAe]; exact Or.inr h
  have hS : va_S A s.heap s.heap [] := va_S.rf
  have hl := lv_entry ([.ref h0, .int 1, .int x0, .int 1]) (n := 8) (Nat.le_of_ble_eq_true rfl)
  rw [lg_entry_eq]
  generalize (lg_sl ([.ref h0, .int 1, .int x0, .int 1]) ++ List.replicate (8 - (lg_sl ([.ref h0, .int 1, .int x0, .int 1])).length) Slot.unset).toArray = ls at hl ⊢
  have hl : lv_has ls 8 [(0, .ref h0), (1, .int 1), (2, .int x0), (3, .int 1)] := hl
  refine lv_aload_n hx hb dX12_twos_0 rfl (lv_at hl 0 rfl) ?_
  have hPc := hP.sub (ws' := [(h0, .inr (12, [.int 0, .int 1, .ref h1, .ref h2, .ref h3, .ref h4, .ref h5, .ref h6, .ref h7, .ref h8, .int 0, .int 0, .int 0, .int 0, .int 0, .int 0, .ref h9, .ref h10, .ref h11, .ref h12, .ref h13, .ref h14, .ref h15, .int 0])), (h3, .inl (cI, 4096, .inl (fun _ => 0)))]) [0, 1] rfl
  have hDc := hD.sub (ws' := [(h0, .inr (12, [.int 0, .int 1, .ref h1, .ref h2, .ref h3, .ref h4, .ref h5, .ref h6, .ref h7, .ref h8, .int 0, .int 0, .int 0, .int 0, .int 0, .int 0, .ref h9, .ref h10, .ref h11, .ref h12, .ref h13, .ref h14, .ref h15, .int 0])), (h3, .inl (cI, 4096, .inl (fun _ => 0)))]) [0, 1] (by decide) rfl
  refine lz_qv (wr := []) (w1 := [(h0, .inr (12, [.int 0, .int 1, .ref h1, .ref h2, .ref h3, .ref h4, .ref h5, .ref h6, .ref h7, .ref h8, .int 0, .int 0, .int 0, .int 0, .int 0, .int 0, .ref h9, .ref h10, .ref h11, .ref h12, .ref h13, .ref h14, .ref h15, .int 0])), (h3, .inl (cI, 4096, .inl (upd (fun _ => 0) 0 1)))]) (As := []) (rest := []) ⟨hx, hb, hml, hown, hts⟩ (c_X12_reckons_0 l D cI cS _ h0 h1 h2 h3 h4 h5 h6 h7 h8 h9 h10 h11 h12 h13 h14 h15) hKK hP hD hS hA [0, 1] [] (by decide) rfl rfl (by decide) (by decide) hPc hDc (ci := 12) rfl rfl (cwV 0 hts gX12_twos_X12_reckons rfl rfl rfl (by decide +kernel) ⟨Nat.le_of_ble_eq_true rfl, Nat.le_of_ble_eq_true rfl⟩) rfl hl.1 rfl (Nat.le_of_ble_eq_true rfl) dX12_twos_1 ⟨Nat.le_of_ble_eq_true rfl, Nat.le_of_ble_eq_true rfl⟩ (fun H locs hP hD hS => ?_)
  have hP : va_P D cls [(h0, .inr (12, [.int 0, .int 1, .ref h1, .ref h2, .ref h3, .ref h4, .ref h5, .ref h6, .ref h7, .ref h8, .int 0, .int 0, .int 0, .int 0, .int 0, .int 0, .ref h9, .ref h10, .ref h11, .ref h12, .ref h13, .ref h14, .ref h15, .int 0])), (h3, .inl (cI, 4096, .inl (upd (fun _ => 0) 0 1)))] H := hP
  have hD : va_D A [(h0, .inr (12, [.int 0, .int 1, .ref h1, .ref h2, .ref h3, .ref h4, .ref h5, .ref h6, .ref h7, .ref h8, .int 0, .int 0, .int 0, .int 0, .int 0, .int 0, .ref h9, .ref h10, .ref h11, .ref h12, .ref h13, .ref h14, .ref h15, .int 0])), (h3, .inl (cI, 4096, .inl (upd (fun _ => 0) 0 1)))] := hD
  refine lv_iconst (v := (-1)) hx hb dX12_twos_4 (by decide) ?_
  refine lv_istore (lv' := [(4, .int (-1)), (0, .ref h0), (1, .int 1), (2, .int x0), (3, .int 1)]) hx hb dX12_twos_5 hl (by decide) rfl (fun ls hl => ?_)
  refine lv_iconst (v := 0) hx hb dX12_twos_7 (by decide) ?_
  refine lv_istore (lv' := [(5, .int 0), (4, .int (-1)), (0, .ref h0), (1, .int 1), (2, .int x0), (3, .int 1)]) hx hb dX12_twos_8 hl (by decide) rfl (fun ls hl => ?_)
  refine lv_iconst (v := 0) hx hb dX12_twos_10 (by decide) ?_
  refine lv_istore (lv' := [(6, .int 0), (5, .int 0), (4, .int (-1)), (0, .ref h0), (1, .int 1), (2, .int x0), (3, .int 1)]) hx hb dX12_twos_11 hl (by decide) rfl (fun ls hl => ?_)
  refine lv_iload hx hb dX12_twos_13 (lv_at hl 0 rfl) ?_
  refine lv_aload_n hx hb dX12_twos_15 rfl (lv_at hl 3 rfl) ?_
  refine va_get (D := D) (ci := 12) (v := .int 0) (C := RX12) (T := TX12) (N := 24) hx hb hts hin12 hown hK hP 0 rfl rfl 0 (by decide) (hts (.fieldLink RX12 63 "MissedPointsModel" "many" "I") (by decide +kernel)) (fun _ h9 => h9) rfl dX12_twos_16 ?_
  refine lv_icmp_ge (tgt := 145) hx hb dX12_twos_19 (by decide) (fun c453 => ?_) (fun c453 => ?_)
  · refine lv_iload_n hx hb dX12_twos_145 rfl (lv_at hl 6 rfl) ?_
    refine lv_if_ne (tgt := 154) hx hb dX12_twos_146 (by decide) (fun c454 => ?_) (fun c454 => ?_)
    · refine lv_iload hx hb dX12_twos_154 (lv_at hl 1 rfl) ?_
      have hP9 := hP.sub (ws' := [(h0, .inr (12, [.int 0, .int 1, .ref h1, .ref h2, .ref h3, .ref h4, .ref h5, .ref h6, .ref h7, .ref h8, .int 0, .int 0, .int 0, .int 0, .int 0, .int 0, .ref h9, .ref h10, .ref h11, .ref h12, .ref h13, .ref h14, .ref h15, .int 0])), (h3, .inl (cI, 4096, .inl (upd (fun _ => 0) 0 1)))]) [0, 1] rfl
      have hD9 := hD.sub (ws' := [(h0, .inr (12, [.int 0, .int 1, .ref h1, .ref h2, .ref h3, .ref h4, .ref h5, .ref h6, .ref h7, .ref h8, .int 0, .int 0, .int 0, .int 0, .int 0, .int 0, .ref h9, .ref h10, .ref h11, .ref h12, .ref h13, .ref h14, .ref h15, .int 0])), (h3, .inl (cI, 4096, .inl (upd (fun _ => 0) 0 1)))]) [0, 1] (by decide) rfl
      subst hAe
      exact W.iret (v := 0) hx hb hr (fun t ht hW => ⟨⟨_, (), rfl, rfl, by rw [ht]; exact hP9, hD9⟩, hS.F ht⟩) hS.2.2 dX12_twos_156
    · exact absurd c454 (by decide)
  · exact absurd c453 (by decide)
set_option maxHeartbeats 4000000 in
set_option maxRecDepth 100000 in
theorem c_X12_verdicts_0 (l : Launch) (D : va_G) (cI cS : ClassId) (sz : Nat) (h0 h1 h2 h3 h4 h5 h6 h7 h8 h9 h10 h11 h12 h13 h14 h15 : Nat) (x0 : Int32) : Met l yX12_verdicts wsX12_verdicts ({ frames := 3, cells := 0, slots := 0, locals := 120 }) (PQ D cI cS [(h0, .inr (12, [.int 0, .int 1, .ref h1, .ref h2, .ref h3, .ref h4, .ref h5, .ref h6, .ref h7, .ref h8, .int 0, .int 0, .int 0, .int 0, .int 0, .int 0, .ref h9, .ref h10, .ref h11, .ref h12, .ref h13, .ref h14, .ref h15, .int 0])), (h3, .inl (cI, 4096, .inl (fun _ => 0)))] sz [.ref h0, .int x0]) (QI D [(h0, .inr (12, [.int 0, .int 1, .ref h1, .ref h2, .ref h3, .ref h4, .ref h5, .ref h6, .ref h7, .ref h8, .int 0, .int 0, .int 0, .int 0, .int 0, .int 0, .ref h9, .ref h10, .ref h11, .ref h12, .ref h13, .ref h14, .ref h15, .int 0])), (h3, .inl (cI, 4096, .inl (fun _ => 0)))] [] sz (fun r => r = if x0 < 0 then ((-2) : Int32) else (if (2 : Int32) < x0 then ((-2) : Int32) else (0 : Int32)))) 0 0 (va_A [(h0, .inr (12, [.int 0, .int 1, .ref h1, .ref h2, .ref h3, .ref h4, .ref h5, .ref h6, .ref h7, .ref h8, .int 0, .int 0, .int 0, .int 0, .int 0, .int 0, .ref h9, .ref h10, .ref h11, .ref h12, .ref h13, .ref h14, .ref h15, .int 0])), (h3, .inl (cI, 4096, .inl (fun _ => 0)))] sz) := by
  refine Met.ofW (cc := cX12_verdicts) (maxL := 2) (ret := (some .int)) (by decide) rfl ?_
  intro p e s m args below meth c s₁ B hml hv
  obtain ⟨rfl, hsz, hP, hKK, hD0⟩ := hv
  have hx := B.exec
  have hb := B.bytes
  have hr := B.returns
  have hts := atoms_spec (ws := wsX12_verdicts) B.pre
  have hown : s.vm.findClass RX12 = some m.cls := findClass_of_methodNamed B.named
  have hlocks := B.notSynchronized
  have hK := hKK.1
  have hN := hKK.2
  subst hsz
  have hD := hD0.self (sz := s.heap.size)
  obtain ⟨A, hAe⟩ : ∃ A, A = va_A [(h0, .inr (12, [.int 0, .int 1, .ref h1, .ref h2, .ref h3, .ref h4, .ref h5, .ref h6, .ref h7, .ref h8, .int 0, .int 0, .int 0, .int 0, .int 0, .int 0, .ref h9, .ref h10, .ref h11, .ref h12, .ref h13, .ref h14, .ref h15, .int 0])), (h3, .inl (cI, 4096, .inl (fun _ => 0)))] s.heap.size := ⟨_, rfl⟩
  rw [← hAe] at hD
  have hA : ∀ q : Nat, s.heap.size ≤ q → A q := fun q h => by rw [hAe]; exact Or.inr h
  have hS : va_S A s.heap s.heap [] := va_S.rf
  have hl := lv_entry ([.ref h0, .int x0]) (n := 2) (Nat.le_of_ble_eq_true rfl)
  rw [lg_entry_eq]
  generalize (lg_sl ([.ref h0, .int x0]) ++ List.replicate (2 - (lg_sl ([.ref h0, .int x0])).length) Slot.unset).toArray = ls at hl ⊢
  have hl : lv_has ls 2 [(0, .ref h0), (1, .int x0)] := hl
  refine lv_iload_n hx hb dX12_verdicts_0 rfl (lv_at hl 1 rfl) ?_
  refine lv_iconst (v := 0) hx hb dX12_verdicts_1 (by decide) ?_
  refine lv_iconst (v := 2) hx hb dX12_verdicts_2 (by decide) ?_
  have hPc := hP.sub (ws' := []) [] rfl
  refine lz_ss (As := [.int x0, .int 0, .int 2]) (rest := []) ⟨hx, hb, hml, hown, hts⟩ (c_X12_in_3 l D cI cS x0) hKK hPc (va_cwS 3 hts gX12_verdicts_X12_in rfl rfl rfl (by decide +kernel) ⟨Nat.le_of_ble_eq_true rfl, Nat.le_of_ble_eq_true rfl⟩) rfl hl.1 rfl (Nat.le_of_ble_eq_true rfl) dX12_verdicts_3 ⟨Nat.le_of_ble_eq_true rfl, Nat.le_of_ble_eq_true rfl⟩ (fun r456 hw => ?_)
  by_cases k457 : x0 < 0
  · rw [if_pos k457] at hw
    subst hw
    refine lv_if_eq (tgt := 19) hx hb dX12_verdicts_6 (by decide) (fun c458 => ?_) (fun c458 => ?_)
    · refine lv_bipush (v := (-2)) hx hb dX12_verdicts_19 (by decide) ?_
      have hP9 := hP.sub (ws' := []) [] rfl
      have hD9 := hD.sub (ws' := []) [] (by decide) rfl
      subst hAe
      exact W.iret (v := (-2)) hx hb hr (fun t ht hW => ⟨⟨_, (), rfl, by rw [if_pos k457], by rw [ht]; exact hP9, hD9⟩, hS.F ht⟩) hS.2.2 dX12_verdicts_21
    · exact absurd c458 (by decide)
  · rw [if_neg k457] at hw
    by_cases k459 : (2 : Int32) < x0
    · rw [if_pos k459] at hw
      subst hw
      refine lv_if_eq (tgt := 19) hx hb dX12_verdicts_6 (by decide) (fun c460 => ?_) (fun c460 => ?_)
      · refine lv_bipush (v := (-2)) hx hb dX12_verdicts_19 (by decide) ?_
        have hP9 := hP.sub (ws' := []) [] rfl
        have hD9 := hD.sub (ws' := []) [] (by decide) rfl
        subst hAe
        exact W.iret (v := (-2)) hx hb hr (fun t ht hW => ⟨⟨_, (), rfl, by rw [if_neg k457, if_pos k459], by rw [ht]; exact hP9, hD9⟩, hS.F ht⟩) hS.2.2 dX12_verdicts_21
      · exact absurd c460 (by decide)
    · rw [if_neg k459] at hw
      subst hw
      refine lv_if_eq (tgt := 19) hx hb dX12_verdicts_6 (by decide) (fun c461 => ?_) (fun c461 => ?_)
      · exact absurd c461 (by decide)
      · refine lv_aload_n hx hb dX12_verdicts_9 rfl (lv_at hl 0 rfl) ?_
        refine lv_iconst (v := 1) hx hb dX12_verdicts_10 (by decide) ?_
        refine lv_iload_n hx hb dX12_verdicts_11 rfl (lv_at hl 1 rfl) ?_
        refine lv_iconst (v := 1) hx hb dX12_verdicts_12 (by decide) ?_
        have hPc := hP.sub (ws' := [(h0, .inr (12, [.int 0, .int 1, .ref h1, .ref h2, .ref h3, .ref h4, .ref h5, .ref h6, .ref h7, .ref h8, .int 0, .int 0, .int 0, .int 0, .int 0, .int 0, .ref h9, .ref h10, .ref h11, .ref h12, .ref h13, .ref h14, .ref h15, .int 0])), (h3, .inl (cI, 4096, .inl (fun _ => 0)))]) [0, 1] rfl
        have hDc := hD.sub (ws' := [(h0, .inr (12, [.int 0, .int 1, .ref h1, .ref h2, .ref h3, .ref h4, .ref h5, .ref h6, .ref h7, .ref h8, .int 0, .int 0, .int 0, .int 0, .int 0, .int 0, .ref h9, .ref h10, .ref h11, .ref h12, .ref h13, .ref h14, .ref h15, .int 0])), (h3, .inl (cI, 4096, .inl (fun _ => 0)))]) [0, 1] (by decide) rfl
        refine lz_qi (wr := []) (w1 := [(h0, .inr (12, [.int 0, .int 1, .ref h1, .ref h2, .ref h3, .ref h4, .ref h5, .ref h6, .ref h7, .ref h8, .int 0, .int 0, .int 0, .int 0, .int 0, .int 0, .ref h9, .ref h10, .ref h11, .ref h12, .ref h13, .ref h14, .ref h15, .int 0])), (h3, .inl (cI, 4096, .inl (upd (fun _ => 0) 0 1)))]) (As := [.int 1, .int x0, .int 1]) (rest := []) ⟨hx, hb, hml, hown, hts⟩ (c_X12_twos_0 l D cI cS _ h0 h1 h2 h3 h4 h5 h6 h7 h8 h9 h10 h11 h12 h13 h14 h15 x0) hKK hP hD hS hA [0, 1] [] (by decide) rfl rfl (by decide) (by decide) hPc hDc (ci := 12) rfl rfl (cwV 3 hts gX12_verdicts_X12_twos rfl rfl rfl (by decide +kernel) ⟨Nat.le_of_ble_eq_true rfl, Nat.le_of_ble_eq_true rfl⟩) rfl hl.1 rfl (Nat.le_of_ble_eq_true rfl) dX12_verdicts_13 ⟨Nat.le_of_ble_eq_true rfl, Nat.le_of_ble_eq_true rfl⟩ (fun r462 H locs hw hP hD hS => ?_)
        have hP : va_P D cls [(h0, .inr (12, [.int 0, .int 1, .ref h1, .ref h2, .ref h3, .ref h4, .ref h5, .ref h6, .ref h7, .ref h8, .int 0, .int 0, .int 0, .int 0, .int 0, .int 0, .ref h9, .ref h10, .ref h11, .ref h12, .ref h13, .ref h14, .ref h15, .int 0])), (h3, .inl (cI, 4096, .inl (upd (fun _ => 0) 0 1)))] H := hP
        have hD : va_D A [(h0, .inr (12, [.int 0, .int 1, .ref h1, .ref h2, .ref h3, .ref h4, .ref h5, .ref h6, .ref h7, .ref h8, .int 0, .int 0, .int 0, .int 0, .int 0, .int 0, .ref h9, .ref h10, .ref h11, .ref h12, .ref h13, .ref h14, .ref h15, .int 0])), (h3, .inl (cI, 4096, .inl (upd (fun _ => 0) 0 1)))] := hD
        subst hw
        refine lv_goto (tgt := 21) hx hb dX12_verdicts_16 (by decide) ?_
        have hP9 := hP.sub (ws' := []) [] rfl
        have hD9 := hD.sub (ws' := []) [] (by decide) rfl
        subst hAe
        exact W.iret (v := 0) hx hb hr (fun t ht hW => ⟨⟨_, (), rfl, by rw [if_neg k457, if_neg k459], by rw [ht]; exact hP9, hD9⟩, hS.F ht⟩) hS.2.2 dX12_verdicts_21
set_option maxHeartbeats 4000000 in
set_option maxRecDepth 100000 in
theorem c_X12_without_0 (l : Launch) (D : va_G) (cI cS : ClassId) (h0 h1 h2 h3 h4 h5 h6 h7 h8 h9 h10 h11 h12 h13 h14 h15 : Nat) (x0 : Int32) : Met l yX12_without wsX12_without ({ frames := 2, cells := 0, slots := 0, locals := 80 }) (PS D cI cS [(h0, .inr (12, [.int 0, .int 1, .ref h1, .ref h2, .ref h3, .ref h4, .ref h5, .ref h6, .ref h7, .ref h8, .int 0, .int 0, .int 0, .int 0, .int 0, .int 0, .ref h9, .ref h10, .ref h11, .ref h12, .ref h13, .ref h14, .ref h15, .int 0]))] [.ref h0, .int x0]) (vp_Si (fun r => r = ((-2) : Int32))) 0 0 (fun _ => False) := by
  refine Met.ofW (cc := cX12_without) (maxL := 2) (ret := (some .int)) (by decide) rfl ?_
  intro p e s m args below meth c s₁ B hml hv
  obtain ⟨rfl, hP, hKK⟩ := hv
  have hx := B.exec
  have hb := B.bytes
  have hr := B.returns
  have hts := atoms_spec (ws := wsX12_without) B.pre
  have hown : s.vm.findClass RX12 = some m.cls := findClass_of_methodNamed B.named
  have hlocks := B.notSynchronized
  have hK := hKK.1
  have hN := hKK.2
  have hl := lv_entry ([.ref h0, .int x0]) (n := 2) (Nat.le_of_ble_eq_true rfl)
  rw [lg_entry_eq]
  generalize (lg_sl ([.ref h0, .int x0]) ++ List.replicate (2 - (lg_sl ([.ref h0, .int x0])).length) Slot.unset).toArray = ls at hl ⊢
  have hl : lv_has ls 2 [(0, .ref h0), (1, .int x0)] := hl
  refine lv_aload_n hx hb dX12_without_0 rfl (lv_at hl 0 rfl) ?_
  refine lv_iload_n hx hb dX12_without_1 rfl (lv_at hl 1 rfl) ?_
  have hPc := hP.sub (ws' := [(h0, .inr (12, [.int 0, .int 1, .ref h1, .ref h2, .ref h3, .ref h4, .ref h5, .ref h6, .ref h7, .ref h8, .int 0, .int 0, .int 0, .int 0, .int 0, .int 0, .ref h9, .ref h10, .ref h11, .ref h12, .ref h13, .ref h14, .ref h15, .int 0]))]) [0] rfl
  refine lz_sv (As := [.int x0]) (rest := []) ⟨hx, hb, hml, hown, hts⟩ (c_X12_isPoint_0 l D cI cS h0 h1 h2 h3 h4 h5 h6 h7 h8 h9 h10 h11 h12 h13 h14 h15 x0) hKK hPc (ci := 12) rfl rfl (cwV 1 hts gX12_without_X12_isPoint rfl rfl rfl (by decide +kernel) ⟨Nat.le_of_ble_eq_true rfl, Nat.le_of_ble_eq_true rfl⟩) rfl hl.1 rfl (Nat.le_of_ble_eq_true rfl) dX12_without_2 ⟨Nat.le_of_ble_eq_true rfl, Nat.le_of_ble_eq_true rfl⟩ (fun r465 hw => ?_)
  subst hw
  refine lv_if_ne (tgt := 11) hx hb dX12_without_5 (by decide) (fun c466 => ?_) (fun c466 => ?_)
  · exact absurd c466 (by decide)
  · refine lv_bipush (v := (-2)) hx hb dX12_without_8 (by decide) ?_
    exact W.iret (v := (-2)) hx hb hr (fun t ht hW => ⟨_, rfl, rfl, ht⟩) (fun q hq => absurd hq List.not_mem_nil) dX12_without_10
set_option maxHeartbeats 4000000 in
set_option maxRecDepth 100000 in
theorem c_X12_twos_1 (l : Launch) (D : va_G) (cI cS : ClassId) (sz : Nat) (h0 h1 h2 h3 h4 h5 h6 h7 h8 h9 h10 h11 h12 h13 h14 h15 : Nat) (x0 : Int32) : Met l yX12_twos wsX12_twos ({ frames := 2, cells := 0, slots := 0, locals := 80 }) (PQ D cI cS [(h0, .inr (12, [.int 0, .int 1, .ref h1, .ref h2, .ref h3, .ref h4, .ref h5, .ref h6, .ref h7, .ref h8, .int 0, .int 0, .int 0, .int 0, .int 0, .int 0, .ref h9, .ref h10, .ref h11, .ref h12, .ref h13, .ref h14, .ref h15, .int 0])), (h3, .inl (cI, 4096, .inl (fun _ => 0)))] sz [.ref h0, .int 0, .int 0, .int x0]) (QI D [(h0, .inr (12, [.int 0, .int 1, .ref h1, .ref h2, .ref h3, .ref h4, .ref h5, .ref h6, .ref h7, .ref h8, .int 0, .int 0, .int 0, .int 0, .int 0, .int 0, .ref h9, .ref h10, .ref h11, .ref h12, .ref h13, .ref h14, .ref h15, .int 0])), (h3, .inl (cI, 4096, .inl (fun _ => 0)))] [(h0, .inr (12, [.int 0, .int 1, .ref h1, .ref h2, .ref h3, .ref h4, .ref h5, .ref h6, .ref h7, .ref h8, .int 0, .int 0, .int 0, .int 0, .int 0, .int 0, .ref h9, .ref h10, .ref h11, .ref h12, .ref h13, .ref h14, .ref h15, .int 0])), (h3, .inl (cI, 4096, .inl (upd (fun _ => 0) 0 1)))] sz (fun r => r = if x0 = 0 then ((-1) : Int32) else (0 : Int32))) 0 0 (va_A [(h0, .inr (12, [.int 0, .int 1, .ref h1, .ref h2, .ref h3, .ref h4, .ref h5, .ref h6, .ref h7, .ref h8, .int 0, .int 0, .int 0, .int 0, .int 0, .int 0, .ref h9, .ref h10, .ref h11, .ref h12, .ref h13, .ref h14, .ref h15, .int 0])), (h3, .inl (cI, 4096, .inl (fun _ => 0)))] sz) := by
  refine Met.ofW (cc := cX12_twos) (maxL := 8) (ret := (some .int)) (by decide) rfl ?_
  intro p e s m args below meth c s₁ B hml hv
  obtain ⟨rfl, hsz, hP, hKK, hD0⟩ := hv
  have hx := B.exec
  have hb := B.bytes
  have hr := B.returns
  have hts := atoms_spec (ws := wsX12_twos) B.pre
  have hown : s.vm.findClass RX12 = some m.cls := findClass_of_methodNamed B.named
  have hlocks := B.notSynchronized
  have hK := hKK.1
  have hN := hKK.2
  have hin12 : ∀ w ∈ wsX120, w ∈ wsX12_twos := by decide +kernel
  subst hsz
  have hD := hD0.self (sz := s.heap.size)
  obtain ⟨A, hAe⟩ : ∃ A, A = va_A [(h0, .inr (12, [.int 0, .int 1, .ref h1, .ref h2, .ref h3, .ref h4, .ref h5, .ref h6, .ref h7, .ref h8, .int 0, .int 0, .int 0, .int 0, .int 0, .int 0, .ref h9, .ref h10, .ref h11, .ref h12, .ref h13, .ref h14, .ref h15, .int 0])), (h3, .inl (cI, 4096, .inl (fun _ => 0)))] s.heap.size := ⟨_, rfl⟩
  rw [← hAe] at hD
  have hA : ∀ q : Nat, s.heap.size ≤ q → A q := fun q h => by rw [hAe]; exact Or.inr h
  have hS : va_S A s.heap s.heap [] := va_S.rf
  have hl := lv_entry ([.ref h0, .int 0, .int 0, .int x0]) (n := 8) (Nat.le_of_ble_eq_true rfl)
  rw [lg_entry_eq]
  generalize (lg_sl ([.ref h0, .int 0, .int 0, .int x0]) ++ List.replicate (8 - (lg_sl ([.ref h0, .int 0, .int 0, .int x0])).length) Slot.unset).toArray = ls at hl ⊢
  have hl : lv_has ls 8 [(0, .ref h0), (1, .int 0), (2, .int 0), (3, .int x0)] := hl
  refine lv_aload_n hx hb dX12_twos_0 rfl (lv_at hl 0 rfl) ?_
  have hPc := hP.sub (ws' := [(h0, .inr (12, [.int 0, .int 1, .ref h1, .ref h2, .ref h3, .ref h4, .ref h5, .ref h6, .ref h7, .ref h8, .int 0, .int 0, .int 0, .int 0, .int 0, .int 0, .ref h9, .ref h10, .ref h11, .ref h12, .ref h13, .ref h14, .ref h15, .int 0])), (h3, .inl (cI, 4096, .inl (fun _ => 0)))]) [0, 1] rfl
  have hDc := hD.sub (ws' := [(h0, .inr (12, [.int 0, .int 1, .ref h1, .ref h2, .ref h3, .ref h4, .ref h5, .ref h6, .ref h7, .ref h8, .int 0, .int 0, .int 0, .int 0, .int 0, .int 0, .ref h9, .ref h10, .ref h11, .ref h12, .ref h13, .ref h14, .ref h15, .int 0])), (h3, .inl (cI, 4096, .inl (fun _ => 0)))]) [0, 1] (by decide) rfl
  refine lz_qv (wr := []) (w1 := [(h0, .inr (12, [.int 0, .int 1, .ref h1, .ref h2, .ref h3, .ref h4, .ref h5, .ref h6, .ref h7, .ref h8, .int 0, .int 0, .int 0, .int 0, .int 0, .int 0, .ref h9, .ref h10, .ref h11, .ref h12, .ref h13, .ref h14, .ref h15, .int 0])), (h3, .inl (cI, 4096, .inl (upd (fun _ => 0) 0 1)))]) (As := []) (rest := []) ⟨hx, hb, hml, hown, hts⟩ (c_X12_reckons_0 l D cI cS _ h0 h1 h2 h3 h4 h5 h6 h7 h8 h9 h10 h11 h12 h13 h14 h15) hKK hP hD hS hA [0, 1] [] (by decide) rfl rfl (by decide) (by decide) hPc hDc (ci := 12) rfl rfl (cwV 0 hts gX12_twos_X12_reckons rfl rfl rfl (by decide +kernel) ⟨Nat.le_of_ble_eq_true rfl, Nat.le_of_ble_eq_true rfl⟩) rfl hl.1 rfl (Nat.le_of_ble_eq_true rfl) dX12_twos_1 ⟨Nat.le_of_ble_eq_true rfl, Nat.le_of_ble_eq_true rfl⟩ (fun H locs hP hD hS => ?_)
  have hP : va_P D cls [(h0, .inr (12, [.int 0, .int 1, .ref h1, .ref h2, .ref h3, .ref h4, .ref h5, .ref h6, .ref h7, .ref h8, .int 0, .int 0, .int 0, .int 0, .int 0, .int 0, .ref h9, .ref h10, .ref h11, .ref h12, .ref h13, .ref h14, .ref h15, .int 0])), (h3, .inl (cI, 4096, .inl (upd (fun _ => 0) 0 1)))] H := hP
  have hD : va_D A [(h0, .inr (12, [.int 0, .int 1, .ref h1, .ref h2, .ref h3, .ref h4, .ref h5, .ref h6, .ref h7, .ref h8, .int 0, .int 0, .int 0, .int 0, .int 0, .int 0, .ref h9, .ref h10, .ref h11, .ref h12, .ref h13, .ref h14, .ref h15, .int 0])), (h3, .inl (cI, 4096, .inl (upd (fun _ => 0) 0 1)))] := hD
  refine lv_iconst (v := (-1)) hx hb dX12_twos_4 (by decide) ?_
  refine lv_istore (lv' := [(4, .int (-1)), (0, .ref h0), (1, .int 0), (2, .int 0), (3, .int x0)]) hx hb dX12_twos_5 hl (by decide) rfl (fun ls hl => ?_)
  refine lv_iconst (v := 0) hx hb dX12_twos_7 (by decide) ?_
  refine lv_istore (lv' := [(5, .int 0), (4, .int (-1)), (0, .ref h0), (1, .int 0), (2, .int 0), (3, .int x0)]) hx hb dX12_twos_8 hl (by decide) rfl (fun ls hl => ?_)
  refine lv_iconst (v := 0) hx hb dX12_twos_10 (by decide) ?_
  refine lv_istore (lv' := [(6, .int 0), (5, .int 0), (4, .int (-1)), (0, .ref h0), (1, .int 0), (2, .int 0), (3, .int x0)]) hx hb dX12_twos_11 hl (by decide) rfl (fun ls hl => ?_)
  refine lv_iload hx hb dX12_twos_13 (lv_at hl 0 rfl) ?_
  refine lv_aload_n hx hb dX12_twos_15 rfl (lv_at hl 3 rfl) ?_
  refine va_get (D := D) (ci := 12) (v := .int 0) (C := RX12) (T := TX12) (N := 24) hx hb hts hin12 hown hK hP 0 rfl rfl 0 (by decide) (hts (.fieldLink RX12 63 "MissedPointsModel" "many" "I") (by decide +kernel)) (fun _ h9 => h9) rfl dX12_twos_16 ?_
  refine lv_icmp_ge (tgt := 145) hx hb dX12_twos_19 (by decide) (fun c477 => ?_) (fun c477 => ?_)
  · refine lv_iload_n hx hb dX12_twos_145 rfl (lv_at hl 6 rfl) ?_
    refine lv_if_ne (tgt := 154) hx hb dX12_twos_146 (by decide) (fun c478 => ?_) (fun c478 => ?_)
    · refine lv_iload hx hb dX12_twos_154 (lv_at hl 1 rfl) ?_
      have hP9 := hP.sub (ws' := [(h0, .inr (12, [.int 0, .int 1, .ref h1, .ref h2, .ref h3, .ref h4, .ref h5, .ref h6, .ref h7, .ref h8, .int 0, .int 0, .int 0, .int 0, .int 0, .int 0, .ref h9, .ref h10, .ref h11, .ref h12, .ref h13, .ref h14, .ref h15, .int 0])), (h3, .inl (cI, 4096, .inl (upd (fun _ => 0) 0 1)))]) [0, 1] rfl
      have hD9 := hD.sub (ws' := [(h0, .inr (12, [.int 0, .int 1, .ref h1, .ref h2, .ref h3, .ref h4, .ref h5, .ref h6, .ref h7, .ref h8, .int 0, .int 0, .int 0, .int 0, .int 0, .int 0, .ref h9, .ref h10, .ref h11, .ref h12, .ref h13, .ref h14, .ref h15, .int 0])), (h3, .inl (cI, 4096, .inl (upd (fun _ => 0) 0 1)))]) [0, 1] (by decide) rfl
      subst hAe
      exact W.iret (v := 0) hx hb hr (fun t ht hW => ⟨⟨_, (), rfl, by rw [if_neg c478], by rw [ht]; exact hP9, hD9⟩, hS.F ht⟩) hS.2.2 dX12_twos_156
    · subst c478
      refine lv_iload hx hb dX12_twos_149 (lv_at hl 2 rfl) ?_
      refine lv_goto (tgt := 156) hx hb dX12_twos_151 (by decide) ?_
      have hP9 := hP.sub (ws' := [(h0, .inr (12, [.int 0, .int 1, .ref h1, .ref h2, .ref h3, .ref h4, .ref h5, .ref h6, .ref h7, .ref h8, .int 0, .int 0, .int 0, .int 0, .int 0, .int 0, .ref h9, .ref h10, .ref h11, .ref h12, .ref h13, .ref h14, .ref h15, .int 0])), (h3, .inl (cI, 4096, .inl (upd (fun _ => 0) 0 1)))]) [0, 1] rfl
      have hD9 := hD.sub (ws' := [(h0, .inr (12, [.int 0, .int 1, .ref h1, .ref h2, .ref h3, .ref h4, .ref h5, .ref h6, .ref h7, .ref h8, .int 0, .int 0, .int 0, .int 0, .int 0, .int 0, .ref h9, .ref h10, .ref h11, .ref h12, .ref h13, .ref h14, .ref h15, .int 0])), (h3, .inl (cI, 4096, .inl (upd (fun _ => 0) 0 1)))]) [0, 1] (by decide) rfl
      subst hAe
      exact W.iret (v := (-1)) hx hb hr (fun t ht hW => ⟨⟨_, (), rfl, by rw [if_pos rfl], by rw [ht]; exact hP9, hD9⟩, hS.F ht⟩) hS.2.2 dX12_twos_156
  · exact absurd c477 (by decide)
set_option maxHeartbeats 4000000 in
set_option maxRecDepth 100000 in
theorem c_X12_mends_0 (l : Launch) (D : va_G) (cI cS : ClassId) (sz : Nat) (h0 h1 h2 h3 h4 h5 h6 h7 h8 h9 h10 h11 h12 h13 h14 h15 : Nat) (x0 : Int32) : Met l yX12_mends wsX12_mends ({ frames := 3, cells := 0, slots := 0, locals := 120 }) (PQ D cI cS [(h0, .inr (12, [.int 0, .int 1, .ref h1, .ref h2, .ref h3, .ref h4, .ref h5, .ref h6, .ref h7, .ref h8, .int 0, .int 0, .int 0, .int 0, .int 0, .int 0, .ref h9, .ref h10, .ref h11, .ref h12, .ref h13, .ref h14, .ref h15, .int 0])), (h3, .inl (cI, 4096, .inl (fun _ => 0)))] sz [.ref h0, .int x0]) (QI D [(h0, .inr (12, [.int 0, .int 1, .ref h1, .ref h2, .ref h3, .ref h4, .ref h5, .ref h6, .ref h7, .ref h8, .int 0, .int 0, .int 0, .int 0, .int 0, .int 0, .ref h9, .ref h10, .ref h11, .ref h12, .ref h13, .ref h14, .ref h15, .int 0])), (h3, .inl (cI, 4096, .inl (fun _ => 0)))] [] sz (fun r => r = if x0 < 0 then ((-2) : Int32) else (if (1 : Int32) < x0 then ((-2) : Int32) else (if x0 = 0 then ((-1) : Int32) else (0 : Int32))))) 0 0 (va_A [(h0, .inr (12, [.int 0, .int 1, .ref h1, .ref h2, .ref h3, .ref h4, .ref h5, .ref h6, .ref h7, .ref h8, .int 0, .int 0, .int 0, .int 0, .int 0, .int 0, .ref h9, .ref h10, .ref h11, .ref h12, .ref h13, .ref h14, .ref h15, .int 0])), (h3, .inl (cI, 4096, .inl (fun _ => 0)))] sz) := by
  refine Met.ofW (cc := cX12_mends) (maxL := 2) (ret := (some .int)) (by decide) rfl ?_
  intro p e s m args below meth c s₁ B hml hv
  obtain ⟨rfl, hsz, hP, hKK, hD0⟩ := hv
  have hx := B.exec
  have hb := B.bytes
  have hr := B.returns
  have hts := atoms_spec (ws := wsX12_mends) B.pre
  have hown : s.vm.findClass RX12 = some m.cls := findClass_of_methodNamed B.named
  have hlocks := B.notSynchronized
  have hK := hKK.1
  have hN := hKK.2
  subst hsz
  have hD := hD0.self (sz := s.heap.size)
  obtain ⟨A, hAe⟩ : ∃ A, A = va_A [(h0, .inr (12, [.int 0, .int 1, .ref h1, .ref h2, .ref h3, .ref h4, .ref h5, .ref h6, .ref h7, .ref h8, .int 0, .int 0, .int 0, .int 0, .int 0, .int 0, .ref h9, .ref h10, .ref h11, .ref h12, .ref h13, .ref h14, .ref h15, .int 0])), (h3, .inl (cI, 4096, .inl (fun _ => 0)))] s.heap.size := ⟨_, rfl⟩
  rw [← hAe] at hD
  have hA : ∀ q : Nat, s.heap.size ≤ q → A q := fun q h => by rw [hAe]; exact Or.inr h
  have hS : va_S A s.heap s.heap [] := va_S.rf
  have hl := lv_entry ([.ref h0, .int x0]) (n := 2) (Nat.le_of_ble_eq_true rfl)
  rw [lg_entry_eq]
  generalize (lg_sl ([.ref h0, .int x0]) ++ List.replicate (2 - (lg_sl ([.ref h0, .int x0])).length) Slot.unset).toArray = ls at hl ⊢
  have hl : lv_has ls 2 [(0, .ref h0), (1, .int x0)] := hl
  refine lv_iload_n hx hb dX12_mends_0 rfl (lv_at hl 1 rfl) ?_
  refine lv_iconst (v := 0) hx hb dX12_mends_1 (by decide) ?_
  refine lv_iconst (v := 1) hx hb dX12_mends_2 (by decide) ?_
  have hPc := hP.sub (ws' := []) [] rfl
  refine lz_ss (As := [.int x0, .int 0, .int 1]) (rest := []) ⟨hx, hb, hml, hown, hts⟩ (c_X12_in_4 l D cI cS x0) hKK hPc (va_cwS 3 hts gX12_mends_X12_in rfl rfl rfl (by decide +kernel) ⟨Nat.le_of_ble_eq_true rfl, Nat.le_of_ble_eq_true rfl⟩) rfl hl.1 rfl (Nat.le_of_ble_eq_true rfl) dX12_mends_3 ⟨Nat.le_of_ble_eq_true rfl, Nat.le_of_ble_eq_true rfl⟩ (fun r481 hw => ?_)
  by_cases k482 : x0 < 0
  · rw [if_pos k482] at hw
    subst hw
    refine lv_if_eq (tgt := 19) hx hb dX12_mends_6 (by decide) (fun c483 => ?_) (fun c483 => ?_)
    · refine lv_bipush (v := (-2)) hx hb dX12_mends_19 (by decide) ?_
      have hP9 := hP.sub (ws' := []) [] rfl
      have hD9 := hD.sub (ws' := []) [] (by decide) rfl
      subst hAe
      exact W.iret (v := (-2)) hx hb hr (fun t ht hW => ⟨⟨_, (), rfl, by rw [if_pos k482], by rw [ht]; exact hP9, hD9⟩, hS.F ht⟩) hS.2.2 dX12_mends_21
    · exact absurd c483 (by decide)
  · rw [if_neg k482] at hw
    by_cases k484 : (1 : Int32) < x0
    · rw [if_pos k484] at hw
      subst hw
      refine lv_if_eq (tgt := 19) hx hb dX12_mends_6 (by decide) (fun c485 => ?_) (fun c485 => ?_)
      · refine lv_bipush (v := (-2)) hx hb dX12_mends_19 (by decide) ?_
        have hP9 := hP.sub (ws' := []) [] rfl
        have hD9 := hD.sub (ws' := []) [] (by decide) rfl
        subst hAe
        exact W.iret (v := (-2)) hx hb hr (fun t ht hW => ⟨⟨_, (), rfl, by rw [if_neg k482, if_pos k484], by rw [ht]; exact hP9, hD9⟩, hS.F ht⟩) hS.2.2 dX12_mends_21
      · exact absurd c485 (by decide)
    · rw [if_neg k484] at hw
      subst hw
      refine lv_if_eq (tgt := 19) hx hb dX12_mends_6 (by decide) (fun c486 => ?_) (fun c486 => ?_)
      · exact absurd c486 (by decide)
      · refine lv_aload_n hx hb dX12_mends_9 rfl (lv_at hl 0 rfl) ?_
        refine lv_iconst (v := 0) hx hb dX12_mends_10 (by decide) ?_
        refine lv_iconst (v := 0) hx hb dX12_mends_11 (by decide) ?_
        refine lv_iload_n hx hb dX12_mends_12 rfl (lv_at hl 1 rfl) ?_
        have hPc := hP.sub (ws' := [(h0, .inr (12, [.int 0, .int 1, .ref h1, .ref h2, .ref h3, .ref h4, .ref h5, .ref h6, .ref h7, .ref h8, .int 0, .int 0, .int 0, .int 0, .int 0, .int 0, .ref h9, .ref h10, .ref h11, .ref h12, .ref h13, .ref h14, .ref h15, .int 0])), (h3, .inl (cI, 4096, .inl (fun _ => 0)))]) [0, 1] rfl
        have hDc := hD.sub (ws' := [(h0, .inr (12, [.int 0, .int 1, .ref h1, .ref h2, .ref h3, .ref h4, .ref h5, .ref h6, .ref h7, .ref h8, .int 0, .int 0, .int 0, .int 0, .int 0, .int 0, .ref h9, .ref h10, .ref h11, .ref h12, .ref h13, .ref h14, .ref h15, .int 0])), (h3, .inl (cI, 4096, .inl (fun _ => 0)))]) [0, 1] (by decide) rfl
        refine lz_qi (wr := []) (w1 := [(h0, .inr (12, [.int 0, .int 1, .ref h1, .ref h2, .ref h3, .ref h4, .ref h5, .ref h6, .ref h7, .ref h8, .int 0, .int 0, .int 0, .int 0, .int 0, .int 0, .ref h9, .ref h10, .ref h11, .ref h12, .ref h13, .ref h14, .ref h15, .int 0])), (h3, .inl (cI, 4096, .inl (upd (fun _ => 0) 0 1)))]) (As := [.int 0, .int 0, .int x0]) (rest := []) ⟨hx, hb, hml, hown, hts⟩ (c_X12_twos_1 l D cI cS _ h0 h1 h2 h3 h4 h5 h6 h7 h8 h9 h10 h11 h12 h13 h14 h15 x0) hKK hP hD hS hA [0, 1] [] (by decide) rfl rfl (by decide) (by decide) hPc hDc (ci := 12) rfl rfl (cwV 3 hts gX12_mends_X12_twos rfl rfl rfl (by decide +kernel) ⟨Nat.le_of_ble_eq_true rfl, Nat.le_of_ble_eq_true rfl⟩) rfl hl.1 rfl (Nat.le_of_ble_eq_true rfl) dX12_mends_13 ⟨Nat.le_of_ble_eq_true rfl, Nat.le_of_ble_eq_true rfl⟩ (fun r487 H locs hw hP hD hS => ?_)
        have hP : va_P D cls [(h0, .inr (12, [.int 0, .int 1, .ref h1, .ref h2, .ref h3, .ref h4, .ref h5, .ref h6, .ref h7, .ref h8, .int 0, .int 0, .int 0, .int 0, .int 0, .int 0, .ref h9, .ref h10, .ref h11, .ref h12, .ref h13, .ref h14, .ref h15, .int 0])), (h3, .inl (cI, 4096, .inl (upd (fun _ => 0) 0 1)))] H := hP
        have hD : va_D A [(h0, .inr (12, [.int 0, .int 1, .ref h1, .ref h2, .ref h3, .ref h4, .ref h5, .ref h6, .ref h7, .ref h8, .int 0, .int 0, .int 0, .int 0, .int 0, .int 0, .ref h9, .ref h10, .ref h11, .ref h12, .ref h13, .ref h14, .ref h15, .int 0])), (h3, .inl (cI, 4096, .inl (upd (fun _ => 0) 0 1)))] := hD
        by_cases k488 : x0 = 0
        · rw [if_pos k488] at hw
          subst k488
          subst hw
          refine lv_goto (tgt := 21) hx hb dX12_mends_16 (by decide) ?_
          have hP9 := hP.sub (ws' := []) [] rfl
          have hD9 := hD.sub (ws' := []) [] (by decide) rfl
          subst hAe
          exact W.iret (v := (-1)) hx hb hr (fun t ht hW => ⟨⟨_, (), rfl, by rw [if_neg k482, if_neg k484, if_pos rfl], by rw [ht]; exact hP9, hD9⟩, hS.F ht⟩) hS.2.2 dX12_mends_21
        · rw [if_neg k488] at hw
          subst hw
          refine lv_goto (tgt := 21) hx hb dX12_mends_16 (by decide) ?_
          have hP9 := hP.sub (ws' := []) [] rfl
          have hD9 := hD.sub (ws' := []) [] (by decide) rfl
          subst hAe
          exact W.iret (v := 0) hx hb hr (fun t ht hW => ⟨⟨_, (), rfl, by rw [if_neg k482, if_neg k484, if_neg k488], by rw [ht]; exact hP9, hD9⟩, hS.F ht⟩) hS.2.2 dX12_mends_21
set_option maxHeartbeats 4000000 in
set_option maxRecDepth 100000 in
theorem c_X12_twos_2 (l : Launch) (D : va_G) (cI cS : ClassId) (sz : Nat) (h0 h1 h2 h3 h4 h5 h6 h7 h8 h9 h10 h11 h12 h13 h14 h15 : Nat) (x0 : Int32) : Met l yX12_twos wsX12_twos ({ frames := 2, cells := 0, slots := 0, locals := 80 }) (PQ D cI cS [(h0, .inr (12, [.int 0, .int 1, .ref h1, .ref h2, .ref h3, .ref h4, .ref h5, .ref h6, .ref h7, .ref h8, .int 0, .int 0, .int 0, .int 0, .int 0, .int 0, .ref h9, .ref h10, .ref h11, .ref h12, .ref h13, .ref h14, .ref h15, .int 0])), (h3, .inl (cI, 4096, .inl (fun _ => 0)))] sz [.ref h0, .int 1, .int 2, .int x0]) (QI D [(h0, .inr (12, [.int 0, .int 1, .ref h1, .ref h2, .ref h3, .ref h4, .ref h5, .ref h6, .ref h7, .ref h8, .int 0, .int 0, .int 0, .int 0, .int 0, .int 0, .ref h9, .ref h10, .ref h11, .ref h12, .ref h13, .ref h14, .ref h15, .int 0])), (h3, .inl (cI, 4096, .inl (fun _ => 0)))] [(h0, .inr (12, [.int 0, .int 1, .ref h1, .ref h2, .ref h3, .ref h4, .ref h5, .ref h6, .ref h7, .ref h8, .int 0, .int 0, .int 0, .int 0, .int 0, .int 0, .ref h9, .ref h10, .ref h11, .ref h12, .ref h13, .ref h14, .ref h15, .int 0])), (h3, .inl (cI, 4096, .inl (upd (fun _ => 0) 0 1)))] sz (fun r => r = if x0 = 0 then ((-1) : Int32) else (0 : Int32))) 0 0 (va_A [(h0, .inr (12, [.int 0, .int 1, .ref h1, .ref h2, .ref h3, .ref h4, .ref h5, .ref h6, .ref h7, .ref h8, .int 0, .int 0, .int 0, .int 0, .int 0, .int 0, .ref h9, .ref h10, .ref h11, .ref h12, .ref h13, .ref h14, .ref h15, .int 0])), (h3, .inl (cI, 4096, .inl (fun _ => 0)))] sz) := by
  refine Met.ofW (cc := cX12_twos) (maxL := 8) (ret := (some .int)) (by decide) rfl ?_
  intro p e s m args below meth c s₁ B hml hv
  obtain ⟨rfl, hsz, hP, hKK, hD0⟩ := hv
  have hx := B.exec
  have hb := B.bytes
  have hr := B.returns
  have hts := atoms_spec (ws := wsX12_twos) B.pre
  have hown : s.vm.findClass RX12 = some m.cls := findClass_of_methodNamed B.named
  have hlocks := B.notSynchronized
  have hK := hKK.1
  have hN := hKK.2
  have hin12 : ∀ w ∈ wsX120, w ∈ wsX12_twos := by decide +kernel
  subst hsz
  have hD := hD0.self (sz := s.heap.size)
  obtain ⟨A, hAe⟩ : ∃ A, A = va_A [(h0, .inr (12, [.int 0, .int 1, .ref h1, .ref h2, .ref h3, .ref h4, .ref h5, .ref h6, .ref h7, .ref h8, .int 0, .int 0, .int 0, .int 0, .int 0, .int 0, .ref h9, .ref h10, .ref h11, .ref h12, .ref h13, .ref h14, .ref h15, .int 0])), (h3, .inl (cI, 4096, .inl (fun _ => 0)))] s.heap.size := ⟨_, rfl⟩
  rw [← hAe] at hD
  have hA : ∀ q : Nat, s.heap.size ≤ q → A q := fun q h => by rw [hAe]; exact Or.inr h
  have hS : va_S A s.heap s.heap [] := va_S.rf
  have hl := lv_entry ([.ref h0, .int 1, .int 2, .int x0]) (n := 8) (Nat.le_of_ble_eq_true rfl)
  rw [lg_entry_eq]
  generalize (lg_sl ([.ref h0, .int 1, .int 2, .int x0]) ++ List.replicate (8 - (lg_sl ([.ref h0, .int 1, .int 2, .int x0])).length) Slot.unset).toArray = ls at hl ⊢
  have hl : lv_has ls 8 [(0, .ref h0), (1, .int 1), (2, .int 2), (3, .int x0)] := hl
  refine lv_aload_n hx hb dX12_twos_0 rfl (lv_at hl 0 rfl) ?_
  have hPc := hP.sub (ws' := [(h0, .inr (12, [.int 0, .int 1, .ref h1, .ref h2, .ref h3, .ref h4, .ref h5, .ref h6, .ref h7, .ref h8, .int 0, .int 0, .int 0, .int 0, .int 0, .int 0, .ref h9, .ref h10, .ref h11, .ref h12, .ref h13, .ref h14, .ref h15, .int 0])), (h3, .inl (cI, 4096, .inl (fun _ => 0)))]) [0, 1] rfl
  have hDc := hD.sub (ws' := [(h0, .inr (12, [.int 0, .int 1, .ref h1, .ref h2, .ref h3, .ref h4, .ref h5, .ref h6, .ref h7, .ref h8, .int 0, .int 0, .int 0, .int 0, .int 0, .int 0, .ref h9, .ref h10, .ref h11, .ref h12, .ref h13, .ref h14, .ref h15, .int 0])), (h3, .inl (cI, 4096, .inl (fun _ => 0)))]) [0, 1] (by decide) rfl
  refine lz_qv (wr := []) (w1 := [(h0, .inr (12, [.int 0, .int 1, .ref h1, .ref h2, .ref h3, .ref h4, .ref h5, .ref h6, .ref h7, .ref h8, .int 0, .int 0, .int 0, .int 0, .int 0, .int 0, .ref h9, .ref h10, .ref h11, .ref h12, .ref h13, .ref h14, .ref h15, .int 0])), (h3, .inl (cI, 4096, .inl (upd (fun _ => 0) 0 1)))]) (As := []) (rest := []) ⟨hx, hb, hml, hown, hts⟩ (c_X12_reckons_0 l D cI cS _ h0 h1 h2 h3 h4 h5 h6 h7 h8 h9 h10 h11 h12 h13 h14 h15) hKK hP hD hS hA [0, 1] [] (by decide) rfl rfl (by decide) (by decide) hPc hDc (ci := 12) rfl rfl (cwV 0 hts gX12_twos_X12_reckons rfl rfl rfl (by decide +kernel) ⟨Nat.le_of_ble_eq_true rfl, Nat.le_of_ble_eq_true rfl⟩) rfl hl.1 rfl (Nat.le_of_ble_eq_true rfl) dX12_twos_1 ⟨Nat.le_of_ble_eq_true rfl, Nat.le_of_ble_eq_true rfl⟩ (fun H locs hP hD hS => ?_)
  have hP : va_P D cls [(h0, .inr (12, [.int 0, .int 1, .ref h1, .ref h2, .ref h3, .ref h4, .ref h5, .ref h6, .ref h7, .ref h8, .int 0, .int 0, .int 0, .int 0, .int 0, .int 0, .ref h9, .ref h10, .ref h11, .ref h12, .ref h13, .ref h14, .ref h15, .int 0])), (h3, .inl (cI, 4096, .inl (upd (fun _ => 0) 0 1)))] H := hP
  have hD : va_D A [(h0, .inr (12, [.int 0, .int 1, .ref h1, .ref h2, .ref h3, .ref h4, .ref h5, .ref h6, .ref h7, .ref h8, .int 0, .int 0, .int 0, .int 0, .int 0, .int 0, .ref h9, .ref h10, .ref h11, .ref h12, .ref h13, .ref h14, .ref h15, .int 0])), (h3, .inl (cI, 4096, .inl (upd (fun _ => 0) 0 1)))] := hD
  refine lv_iconst (v := (-1)) hx hb dX12_twos_4 (by decide) ?_
  refine lv_istore (lv' := [(4, .int (-1)), (0, .ref h0), (1, .int 1), (2, .int 2), (3, .int x0)]) hx hb dX12_twos_5 hl (by decide) rfl (fun ls hl => ?_)
  refine lv_iconst (v := 0) hx hb dX12_twos_7 (by decide) ?_
  refine lv_istore (lv' := [(5, .int 0), (4, .int (-1)), (0, .ref h0), (1, .int 1), (2, .int 2), (3, .int x0)]) hx hb dX12_twos_8 hl (by decide) rfl (fun ls hl => ?_)
  refine lv_iconst (v := 0) hx hb dX12_twos_10 (by decide) ?_
  refine lv_istore (lv' := [(6, .int 0), (5, .int 0), (4, .int (-1)), (0, .ref h0), (1, .int 1), (2, .int 2), (3, .int x0)]) hx hb dX12_twos_11 hl (by decide) rfl (fun ls hl => ?_)
  refine lv_iload hx hb dX12_twos_13 (lv_at hl 0 rfl) ?_
  refine lv_aload_n hx hb dX12_twos_15 rfl (lv_at hl 3 rfl) ?_
  refine va_get (D := D) (ci := 12) (v := .int 0) (C := RX12) (T := TX12) (N := 24) hx hb hts hin12 hown hK hP 0 rfl rfl 0 (by decide) (hts (.fieldLink RX12 63 "MissedPointsModel" "many" "I") (by decide +kernel)) (fun _ h9 => h9) rfl dX12_twos_16 ?_
  refine lv_icmp_ge (tgt := 145) hx hb dX12_twos_19 (by decide) (fun c499 => ?_) (fun c499 => ?_)
  · refine lv_iload_n hx hb dX12_twos_145 rfl (lv_at hl 6 rfl) ?_
    refine lv_if_ne (tgt := 154) hx hb dX12_twos_146 (by decide) (fun c500 => ?_) (fun c500 => ?_)
    · refine lv_iload hx hb dX12_twos_154 (lv_at hl 1 rfl) ?_
      have hP9 := hP.sub (ws' := [(h0, .inr (12, [.int 0, .int 1, .ref h1, .ref h2, .ref h3, .ref h4, .ref h5, .ref h6, .ref h7, .ref h8, .int 0, .int 0, .int 0, .int 0, .int 0, .int 0, .ref h9, .ref h10, .ref h11, .ref h12, .ref h13, .ref h14, .ref h15, .int 0])), (h3, .inl (cI, 4096, .inl (upd (fun _ => 0) 0 1)))]) [0, 1] rfl
      have hD9 := hD.sub (ws' := [(h0, .inr (12, [.int 0, .int 1, .ref h1, .ref h2, .ref h3, .ref h4, .ref h5, .ref h6, .ref h7, .ref h8, .int 0, .int 0, .int 0, .int 0, .int 0, .int 0, .ref h9, .ref h10, .ref h11, .ref h12, .ref h13, .ref h14, .ref h15, .int 0])), (h3, .inl (cI, 4096, .inl (upd (fun _ => 0) 0 1)))]) [0, 1] (by decide) rfl
      subst hAe
      exact W.iret (v := 0) hx hb hr (fun t ht hW => ⟨⟨_, (), rfl, by rw [if_neg c500], by rw [ht]; exact hP9, hD9⟩, hS.F ht⟩) hS.2.2 dX12_twos_156
    · subst c500
      refine lv_iload hx hb dX12_twos_149 (lv_at hl 2 rfl) ?_
      refine lv_goto (tgt := 156) hx hb dX12_twos_151 (by decide) ?_
      have hP9 := hP.sub (ws' := [(h0, .inr (12, [.int 0, .int 1, .ref h1, .ref h2, .ref h3, .ref h4, .ref h5, .ref h6, .ref h7, .ref h8, .int 0, .int 0, .int 0, .int 0, .int 0, .int 0, .ref h9, .ref h10, .ref h11, .ref h12, .ref h13, .ref h14, .ref h15, .int 0])), (h3, .inl (cI, 4096, .inl (upd (fun _ => 0) 0 1)))]) [0, 1] rfl
      have hD9 := hD.sub (ws' := [(h0, .inr (12, [.int 0, .int 1, .ref h1, .ref h2, .ref h3, .ref h4, .ref h5, .ref h6, .ref h7, .ref h8, .int 0, .int 0, .int 0, .int 0, .int 0, .int 0, .ref h9, .ref h10, .ref h11, .ref h12, .ref h13, .ref h14, .ref h15, .int 0])), (h3, .inl (cI, 4096, .inl (upd (fun _ => 0) 0 1)))]) [0, 1] (by decide) rfl
      subst hAe
      exact W.iret (v := (-1)) hx hb hr (fun t ht hW => ⟨⟨_, (), rfl, by rw [if_pos rfl], by rw [ht]; exact hP9, hD9⟩, hS.F ht⟩) hS.2.2 dX12_twos_156
  · exact absurd c499 (by decide)
set_option maxHeartbeats 4000000 in
set_option maxRecDepth 100000 in
theorem c_X12_breaks_0 (l : Launch) (D : va_G) (cI cS : ClassId) (sz : Nat) (h0 h1 h2 h3 h4 h5 h6 h7 h8 h9 h10 h11 h12 h13 h14 h15 : Nat) (x0 : Int32) : Met l yX12_breaks wsX12_breaks ({ frames := 3, cells := 0, slots := 0, locals := 120 }) (PQ D cI cS [(h0, .inr (12, [.int 0, .int 1, .ref h1, .ref h2, .ref h3, .ref h4, .ref h5, .ref h6, .ref h7, .ref h8, .int 0, .int 0, .int 0, .int 0, .int 0, .int 0, .ref h9, .ref h10, .ref h11, .ref h12, .ref h13, .ref h14, .ref h15, .int 0])), (h3, .inl (cI, 4096, .inl (fun _ => 0)))] sz [.ref h0, .int x0]) (QI D [(h0, .inr (12, [.int 0, .int 1, .ref h1, .ref h2, .ref h3, .ref h4, .ref h5, .ref h6, .ref h7, .ref h8, .int 0, .int 0, .int 0, .int 0, .int 0, .int 0, .ref h9, .ref h10, .ref h11, .ref h12, .ref h13, .ref h14, .ref h15, .int 0])), (h3, .inl (cI, 4096, .inl (fun _ => 0)))] [] sz (fun r => r = if x0 < 0 then ((-2) : Int32) else (if (1 : Int32) < x0 then ((-2) : Int32) else (if x0 = 0 then ((-1) : Int32) else (0 : Int32))))) 0 0 (va_A [(h0, .inr (12, [.int 0, .int 1, .ref h1, .ref h2, .ref h3, .ref h4, .ref h5, .ref h6, .ref h7, .ref h8, .int 0, .int 0, .int 0, .int 0, .int 0, .int 0, .ref h9, .ref h10, .ref h11, .ref h12, .ref h13, .ref h14, .ref h15, .int 0])), (h3, .inl (cI, 4096, .inl (fun _ => 0)))] sz) := by
  refine Met.ofW (cc := cX12_breaks) (maxL := 2) (ret := (some .int)) (by decide) rfl ?_
  intro p e s m args below meth c s₁ B hml hv
  obtain ⟨rfl, hsz, hP, hKK, hD0⟩ := hv
  have hx := B.exec
  have hb := B.bytes
  have hr := B.returns
  have hts := atoms_spec (ws := wsX12_breaks) B.pre
  have hown : s.vm.findClass RX12 = some m.cls := findClass_of_methodNamed B.named
  have hlocks := B.notSynchronized
  have hK := hKK.1
  have hN := hKK.2
  subst hsz
  have hD := hD0.self (sz := s.heap.size)
  obtain ⟨A, hAe⟩ : ∃ A, A = va_A [(h0, .inr (12, [.int 0, .int 1, .ref h1, .ref h2, .ref h3, .ref h4, .ref h5, .ref h6, .ref h7, .ref h8, .int 0, .int 0, .int 0, .int 0, .int 0, .int 0, .ref h9, .ref h10, .ref h11, .ref h12, .ref h13, .ref h14, .ref h15, .int 0])), (h3, .inl (cI, 4096, .inl (fun _ => 0)))] s.heap.size := ⟨_, rfl⟩
  rw [← hAe] at hD
  have hA : ∀ q : Nat, s.heap.size ≤ q → A q := fun q h => by rw [hAe]; exact Or.inr h
  have hS : va_S A s.heap s.heap [] := va_S.rf
  have hl := lv_entry ([.ref h0, .int x0]) (n := 2) (Nat.le_of_ble_eq_true rfl)
  rw [lg_entry_eq]
  generalize (lg_sl ([.ref h0, .int x0]) ++ List.replicate (2 - (lg_sl ([.ref h0, .int x0])).length) Slot.unset).toArray = ls at hl ⊢
  have hl : lv_has ls 2 [(0, .ref h0), (1, .int x0)] := hl
  refine lv_iload_n hx hb dX12_breaks_0 rfl (lv_at hl 1 rfl) ?_
  refine lv_iconst (v := 0) hx hb dX12_breaks_1 (by decide) ?_
  refine lv_iconst (v := 1) hx hb dX12_breaks_2 (by decide) ?_
  have hPc := hP.sub (ws' := []) [] rfl
  refine lz_ss (As := [.int x0, .int 0, .int 1]) (rest := []) ⟨hx, hb, hml, hown, hts⟩ (c_X12_in_4 l D cI cS x0) hKK hPc (va_cwS 3 hts gX12_breaks_X12_in rfl rfl rfl (by decide +kernel) ⟨Nat.le_of_ble_eq_true rfl, Nat.le_of_ble_eq_true rfl⟩) rfl hl.1 rfl (Nat.le_of_ble_eq_true rfl) dX12_breaks_3 ⟨Nat.le_of_ble_eq_true rfl, Nat.le_of_ble_eq_true rfl⟩ (fun r503 hw => ?_)
  by_cases k504 : x0 < 0
  · rw [if_pos k504] at hw
    subst hw
    refine lv_if_eq (tgt := 19) hx hb dX12_breaks_6 (by decide) (fun c505 => ?_) (fun c505 => ?_)
    · refine lv_bipush (v := (-2)) hx hb dX12_breaks_19 (by decide) ?_
      have hP9 := hP.sub (ws' := []) [] rfl
      have hD9 := hD.sub (ws' := []) [] (by decide) rfl
      subst hAe
      exact W.iret (v := (-2)) hx hb hr (fun t ht hW => ⟨⟨_, (), rfl, by rw [if_pos k504], by rw [ht]; exact hP9, hD9⟩, hS.F ht⟩) hS.2.2 dX12_breaks_21
    · exact absurd c505 (by decide)
  · rw [if_neg k504] at hw
    by_cases k506 : (1 : Int32) < x0
    · rw [if_pos k506] at hw
      subst hw
      refine lv_if_eq (tgt := 19) hx hb dX12_breaks_6 (by decide) (fun c507 => ?_) (fun c507 => ?_)
      · refine lv_bipush (v := (-2)) hx hb dX12_breaks_19 (by decide) ?_
        have hP9 := hP.sub (ws' := []) [] rfl
        have hD9 := hD.sub (ws' := []) [] (by decide) rfl
        subst hAe
        exact W.iret (v := (-2)) hx hb hr (fun t ht hW => ⟨⟨_, (), rfl, by rw [if_neg k504, if_pos k506], by rw [ht]; exact hP9, hD9⟩, hS.F ht⟩) hS.2.2 dX12_breaks_21
      · exact absurd c507 (by decide)
    · rw [if_neg k506] at hw
      subst hw
      refine lv_if_eq (tgt := 19) hx hb dX12_breaks_6 (by decide) (fun c508 => ?_) (fun c508 => ?_)
      · exact absurd c508 (by decide)
      · refine lv_aload_n hx hb dX12_breaks_9 rfl (lv_at hl 0 rfl) ?_
        refine lv_iconst (v := 1) hx hb dX12_breaks_10 (by decide) ?_
        refine lv_iconst (v := 2) hx hb dX12_breaks_11 (by decide) ?_
        refine lv_iload_n hx hb dX12_breaks_12 rfl (lv_at hl 1 rfl) ?_
        have hPc := hP.sub (ws' := [(h0, .inr (12, [.int 0, .int 1, .ref h1, .ref h2, .ref h3, .ref h4, .ref h5, .ref h6, .ref h7, .ref h8, .int 0, .int 0, .int 0, .int 0, .int 0, .int 0, .ref h9, .ref h10, .ref h11, .ref h12, .ref h13, .ref h14, .ref h15, .int 0])), (h3, .inl (cI, 4096, .inl (fun _ => 0)))]) [0, 1] rfl
        have hDc := hD.sub (ws' := [(h0, .inr (12, [.int 0, .int 1, .ref h1, .ref h2, .ref h3, .ref h4, .ref h5, .ref h6, .ref h7, .ref h8, .int 0, .int 0, .int 0, .int 0, .int 0, .int 0, .ref h9, .ref h10, .ref h11, .ref h12, .ref h13, .ref h14, .ref h15, .int 0])), (h3, .inl (cI, 4096, .inl (fun _ => 0)))]) [0, 1] (by decide) rfl
        refine lz_qi (wr := []) (w1 := [(h0, .inr (12, [.int 0, .int 1, .ref h1, .ref h2, .ref h3, .ref h4, .ref h5, .ref h6, .ref h7, .ref h8, .int 0, .int 0, .int 0, .int 0, .int 0, .int 0, .ref h9, .ref h10, .ref h11, .ref h12, .ref h13, .ref h14, .ref h15, .int 0])), (h3, .inl (cI, 4096, .inl (upd (fun _ => 0) 0 1)))]) (As := [.int 1, .int 2, .int x0]) (rest := []) ⟨hx, hb, hml, hown, hts⟩ (c_X12_twos_2 l D cI cS _ h0 h1 h2 h3 h4 h5 h6 h7 h8 h9 h10 h11 h12 h13 h14 h15 x0) hKK hP hD hS hA [0, 1] [] (by decide) rfl rfl (by decide) (by decide) hPc hDc (ci := 12) rfl rfl (cwV 3 hts gX12_breaks_X12_twos rfl rfl rfl (by decide +kernel) ⟨Nat.le_of_ble_eq_true rfl, Nat.le_of_ble_eq_true rfl⟩) rfl hl.1 rfl (Nat.le_of_ble_eq_true rfl) dX12_breaks_13 ⟨Nat.le_of_ble_eq_true rfl, Nat.le_of_ble_eq_true rfl⟩ (fun r509 H locs hw hP hD hS => ?_)
        have hP : va_P D cls [(h0, .inr (12, [.int 0, .int 1, .ref h1, .ref h2, .ref h3, .ref h4, .ref h5, .ref h6, .ref h7, .ref h8, .int 0, .int 0, .int 0, .int 0, .int 0, .int 0, .ref h9, .ref h10, .ref h11, .ref h12, .ref h13, .ref h14, .ref h15, .int 0])), (h3, .inl (cI, 4096, .inl (upd (fun _ => 0) 0 1)))] H := hP
        have hD : va_D A [(h0, .inr (12, [.int 0, .int 1, .ref h1, .ref h2, .ref h3, .ref h4, .ref h5, .ref h6, .ref h7, .ref h8, .int 0, .int 0, .int 0, .int 0, .int 0, .int 0, .ref h9, .ref h10, .ref h11, .ref h12, .ref h13, .ref h14, .ref h15, .int 0])), (h3, .inl (cI, 4096, .inl (upd (fun _ => 0) 0 1)))] := hD
        by_cases k510 : x0 = 0
        · rw [if_pos k510] at hw
          subst k510
          subst hw
          refine lv_goto (tgt := 21) hx hb dX12_breaks_16 (by decide) ?_
          have hP9 := hP.sub (ws' := []) [] rfl
          have hD9 := hD.sub (ws' := []) [] (by decide) rfl
          subst hAe
          exact W.iret (v := (-1)) hx hb hr (fun t ht hW => ⟨⟨_, (), rfl, by rw [if_neg k504, if_neg k506, if_pos rfl], by rw [ht]; exact hP9, hD9⟩, hS.F ht⟩) hS.2.2 dX12_breaks_21
        · rw [if_neg k510] at hw
          subst hw
          refine lv_goto (tgt := 21) hx hb dX12_breaks_16 (by decide) ?_
          have hP9 := hP.sub (ws' := []) [] rfl
          have hD9 := hD.sub (ws' := []) [] (by decide) rfl
          subst hAe
          exact W.iret (v := 0) hx hb hr (fun t ht hW => ⟨⟨_, (), rfl, by rw [if_neg k504, if_neg k506, if_neg k510], by rw [ht]; exact hP9, hD9⟩, hS.F ht⟩) hS.2.2 dX12_breaks_21
set_option maxHeartbeats 4000000 in
set_option maxRecDepth 100000 in
theorem c_X12_in_5 (l : Launch) (D : va_G) (cI cS : ClassId) (x0 : Int32) : Met l yX12_in wsX12_in ({ frames := 0, cells := 0, slots := 0, locals := 0 }) (PS D cI cS [] [.int x0, .int 0, .int 3]) (vp_Si (fun r => r = if x0 < 0 then (0 : Int32) else (if (3 : Int32) < x0 then (0 : Int32) else (1 : Int32)))) 0 0 (fun _ => False) := by
  refine Met.ofW (cc := cX12_in) (maxL := 3) (ret := (some .boolean)) (by decide) rfl ?_
  intro p e s m args below meth c s₁ B hml hv
  obtain ⟨rfl, hP, hKK⟩ := hv
  have hx := B.exec
  have hb := B.bytes
  have hr := B.returns
  have hts := atoms_spec (ws := wsX12_in) B.pre
  have hown : s.vm.findClass RX12 = some m.cls := findClass_of_methodNamed B.named
  have hlocks := B.notSynchronized
  have hK := hKK.1
  have hN := hKK.2
  have hl := lv_entry ([.int x0, .int 0, .int 3]) (n := 3) (Nat.le_of_ble_eq_true rfl)
  rw [lg_entry_eq]
  generalize (lg_sl ([.int x0, .int 0, .int 3]) ++ List.replicate (3 - (lg_sl ([.int x0, .int 0, .int 3])).length) Slot.unset).toArray = ls at hl ⊢
  have hl : lv_has ls 3 [(0, .int x0), (1, .int 0), (2, .int 3)] := hl
  refine lv_iload_n hx hb dX12_in_0 rfl (lv_at hl 0 rfl) ?_
  refine lv_iload_n hx hb dX12_in_1 rfl (lv_at hl 1 rfl) ?_
  refine lv_icmp_lt (tgt := 14) hx hb dX12_in_2 (by decide) (fun c513 => ?_) (fun c513 => ?_)
  · refine lv_iconst (v := 0) hx hb dX12_in_14 (by decide) ?_
    exact W.zret (v := 0) hx hb hr (by decide) (fun t ht hW => ⟨_, rfl, by rw [if_pos c513], ht⟩) (fun q hq => absurd hq List.not_mem_nil) dX12_in_15
  · refine lv_iload_n hx hb dX12_in_5 rfl (lv_at hl 0 rfl) ?_
    refine lv_iload_n hx hb dX12_in_6 rfl (lv_at hl 2 rfl) ?_
    refine lv_icmp_gt (tgt := 14) hx hb dX12_in_7 (by decide) (fun c514 => ?_) (fun c514 => ?_)
    · refine lv_iconst (v := 0) hx hb dX12_in_14 (by decide) ?_
      exact W.zret (v := 0) hx hb hr (by decide) (fun t ht hW => ⟨_, rfl, by rw [if_neg c513, if_pos c514], ht⟩) (fun q hq => absurd hq List.not_mem_nil) dX12_in_15
    · refine lv_iconst (v := 1) hx hb dX12_in_10 (by decide) ?_
      refine lv_goto (tgt := 15) hx hb dX12_in_11 (by decide) ?_
      exact W.zret (v := 1) hx hb hr (by decide) (fun t ht hW => ⟨_, rfl, by rw [if_neg c513, if_neg c514], ht⟩) (fun q hq => absurd hq List.not_mem_nil) dX12_in_15
set_option maxHeartbeats 4000000 in
set_option maxRecDepth 100000 in
theorem c_X12_isSheet_0 (l : Launch) (D : va_G) (cI cS : ClassId) (x0 : Int32) : Met l yX12_isSheet wsX12_isSheet ({ frames := 1, cells := 0, slots := 0, locals := 40 }) (PS D cI cS [] [.int x0]) (vp_Si (fun r => r = if x0 < 0 then (0 : Int32) else (if (3 : Int32) < x0 then (0 : Int32) else (1 : Int32)))) 0 0 (fun _ => False) := by
  refine Met.ofW (cc := cX12_isSheet) (maxL := 1) (ret := (some .boolean)) (by decide) rfl ?_
  intro p e s m args below meth c s₁ B hml hv
  obtain ⟨rfl, hP, hKK⟩ := hv
  have hx := B.exec
  have hb := B.bytes
  have hr := B.returns
  have hts := atoms_spec (ws := wsX12_isSheet) B.pre
  have hown : s.vm.findClass RX12 = some m.cls := findClass_of_methodNamed B.named
  have hlocks := B.notSynchronized
  have hK := hKK.1
  have hN := hKK.2
  have hl := lv_entry ([.int x0]) (n := 1) (Nat.le_of_ble_eq_true rfl)
  rw [lg_entry_eq]
  generalize (lg_sl ([.int x0]) ++ List.replicate (1 - (lg_sl ([.int x0])).length) Slot.unset).toArray = ls at hl ⊢
  have hl : lv_has ls 1 [(0, .int x0)] := hl
  refine lv_iload_n hx hb dX12_isSheet_0 rfl (lv_at hl 0 rfl) ?_
  refine lv_iconst (v := 0) hx hb dX12_isSheet_1 (by decide) ?_
  refine lv_iconst (v := 3) hx hb dX12_isSheet_2 (by decide) ?_
  have hPc := hP.sub (ws' := []) [] rfl
  refine lz_ss (As := [.int x0, .int 0, .int 3]) (rest := []) ⟨hx, hb, hml, hown, hts⟩ (c_X12_in_5 l D cI cS x0) hKK hPc (va_cwS 3 hts gX12_isSheet_X12_in rfl rfl rfl (by decide +kernel) ⟨Nat.le_of_ble_eq_true rfl, Nat.le_of_ble_eq_true rfl⟩) rfl hl.1 rfl (Nat.le_of_ble_eq_true rfl) dX12_isSheet_3 ⟨Nat.le_of_ble_eq_true rfl, Nat.le_of_ble_eq_true rfl⟩ (fun r518 hw => ?_)
  by_cases k519 : x0 < 0
  · rw [if_pos k519] at hw
    subst hw
    exact W.zret (v := 0) hx hb hr (by decide) (fun t ht hW => ⟨_, rfl, by rw [if_pos k519], ht⟩) (fun q hq => absurd hq List.not_mem_nil) dX12_isSheet_6
  · rw [if_neg k519] at hw
    by_cases k520 : (3 : Int32) < x0
    · rw [if_pos k520] at hw
      subst hw
      exact W.zret (v := 0) hx hb hr (by decide) (fun t ht hW => ⟨_, rfl, by rw [if_neg k519, if_pos k520], ht⟩) (fun q hq => absurd hq List.not_mem_nil) dX12_isSheet_6
    · rw [if_neg k520] at hw
      subst hw
      exact W.zret (v := 1) hx hb hr (by decide) (fun t ht hW => ⟨_, rfl, by rw [if_neg k519, if_neg k520], ht⟩) (fun q hq => absurd hq List.not_mem_nil) dX12_isSheet_6
set_option maxHeartbeats 4000000 in
set_option maxRecDepth 100000 in
theorem c_X12_wrongPairing_0 (l : Launch) (D : va_G) (cI cS : ClassId) (h0 h1 h2 h3 h4 h5 h6 h7 h8 h9 h10 h11 h12 h13 h14 h15 : Nat) (x0 : Int32) : Met l yX12_wrongPairing wsX12_wrongPairing ({ frames := 2, cells := 0, slots := 0, locals := 80 }) (PS D cI cS [(h0, .inr (12, [.int 0, .int 1, .ref h1, .ref h2, .ref h3, .ref h4, .ref h5, .ref h6, .ref h7, .ref h8, .int 0, .int 0, .int 0, .int 0, .int 0, .int 0, .ref h9, .ref h10, .ref h11, .ref h12, .ref h13, .ref h14, .ref h15, .int 0])), (h9, .inl (cI, 4, .inl (fun _ => -1)))] [.ref h0, .int x0]) (vp_Si (fun r => r = if x0 < 0 then ((-2) : Int32) else (if (3 : Int32) < x0 then ((-2) : Int32) else ((-11) : Int32)))) 0 0 (fun _ => False) := by
  refine Met.ofW (cc := cX12_wrongPairing) (maxL := 4) (ret := (some .int)) (by decide) rfl ?_
  intro p e s m args below meth c s₁ B hml hv
  obtain ⟨rfl, hP, hKK⟩ := hv
  have hx := B.exec
  have hb := B.bytes
  have hr := B.returns
  have hts := atoms_spec (ws := wsX12_wrongPairing) B.pre
  have hown : s.vm.findClass RX12 = some m.cls := findClass_of_methodNamed B.named
  have hlocks := B.notSynchronized
  have hK := hKK.1
  have hN := hKK.2
  have hin12 : ∀ w ∈ wsX120, w ∈ wsX12_wrongPairing := by decide +kernel
  have hl := lv_entry ([.ref h0, .int x0]) (n := 4) (Nat.le_of_ble_eq_true rfl)
  rw [lg_entry_eq]
  generalize (lg_sl ([.ref h0, .int x0]) ++ List.replicate (4 - (lg_sl ([.ref h0, .int x0])).length) Slot.unset).toArray = ls at hl ⊢
  have hl : lv_has ls 4 [(0, .ref h0), (1, .int x0)] := hl
  refine lv_iload_n hx hb dX12_wrongPairing_0 rfl (lv_at hl 1 rfl) ?_
  have hPc := hP.sub (ws' := []) [] rfl
  refine lz_ss (As := [.int x0]) (rest := []) ⟨hx, hb, hml, hown, hts⟩ (c_X12_isSheet_0 l D cI cS x0) hKK hPc (va_cwS 1 hts gX12_wrongPairing_X12_isSheet rfl rfl rfl (by decide +kernel) ⟨Nat.le_of_ble_eq_true rfl, Nat.le_of_ble_eq_true rfl⟩) rfl hl.1 rfl (Nat.le_of_ble_eq_true rfl) dX12_wrongPairing_1 ⟨Nat.le_of_ble_eq_true rfl, Nat.le_of_ble_eq_true rfl⟩ (fun r528 hw => ?_)
  by_cases k529 : x0 < 0
  · rw [if_pos k529] at hw
    subst hw
    refine lv_if_ne (tgt := 10) hx hb dX12_wrongPairing_4 (by decide) (fun c530 => ?_) (fun c530 => ?_)
    · exact absurd c530 (by decide)
    · refine lv_bipush (v := (-2)) hx hb dX12_wrongPairing_7 (by decide) ?_
      exact W.iret (v := (-2)) hx hb hr (fun t ht hW => ⟨_, rfl, by rw [if_pos k529], ht⟩) (fun q hq => absurd hq List.not_mem_nil) dX12_wrongPairing_9
  · rw [if_neg k529] at hw
    by_cases k531 : (3 : Int32) < x0
    · rw [if_pos k531] at hw
      subst hw
      refine lv_if_ne (tgt := 10) hx hb dX12_wrongPairing_4 (by decide) (fun c532 => ?_) (fun c532 => ?_)
      · exact absurd c532 (by decide)
      · refine lv_bipush (v := (-2)) hx hb dX12_wrongPairing_7 (by decide) ?_
        exact W.iret (v := (-2)) hx hb hr (fun t ht hW => ⟨_, rfl, by rw [if_neg k529, if_pos k531], ht⟩) (fun q hq => absurd hq List.not_mem_nil) dX12_wrongPairing_9
    · rw [if_neg k531] at hw
      subst hw
      refine lv_if_ne (tgt := 10) hx hb dX12_wrongPairing_4 (by decide) (fun c533 => ?_) (fun c533 => ?_)
      · refine lv_aload_n hx hb dX12_wrongPairing_10 rfl (lv_at hl 0 rfl) ?_
        refine va_get (D := D) (ci := 12) (v := .ref h9) (C := RX12) (T := TX12) (N := 24) hx hb hts hin12 hown hK hP 0 rfl rfl 16 (by decide) (hts (.fieldLink RX12 38 "MissedPointsModel" "sort" "[I") (by decide +kernel)) (fun _ h9 => h9) rfl dX12_wrongPairing_11 ?_
        refine lv_iload_n hx hb dX12_wrongPairing_14 rfl (lv_at hl 1 rfl) ?_
        refine va_iald hx hb hK hP 1 0 rfl rfl (lz_vp (x := x0) (n := 4) (by have zf1 := mt (lz_lt x0 (0 : Int32)).mpr k529; have zf2 := mt (lz_lt (3 : Int32) x0).mpr k531; have zn0 : (0 : Int32).toInt = 0 := (by decide); have zn1 : (3 : Int32).toInt = 3 := (by decide); omega) (by have zf1 := mt (lz_lt x0 (0 : Int32)).mpr k529; have zf2 := mt (lz_lt (3 : Int32) x0).mpr k531; have zn0 : (0 : Int32).toInt = 0 := (by decide); have zn1 : (3 : Int32).toInt = 3 := (by decide); omega)) dX12_wrongPairing_15 ?_
        refine lz_top (y := (-1)) rfl ?_
        refine lv_iconst (v := (-1)) hx hb dX12_wrongPairing_16 (by decide) ?_
        refine lv_icmp_ne (tgt := 23) hx hb dX12_wrongPairing_17 (by decide) (fun c534 => ?_) (fun c534 => ?_)
        · exact absurd c534 (by decide)
        · refine lv_bipush (v := (-11)) hx hb dX12_wrongPairing_20 (by decide) ?_
          exact W.iret (v := (-11)) hx hb hr (fun t ht hW => ⟨_, rfl, by rw [if_neg k529, if_neg k531], ht⟩) (fun q hq => absurd hq List.not_mem_nil) dX12_wrongPairing_22
      · exact absurd c533 (by decide)
set_option maxHeartbeats 4000000 in
set_option maxRecDepth 100000 in
theorem c_X12_isTold_0 (l : Launch) (D : va_G) (cI cS : ClassId) (h0 h1 h2 h3 h4 h5 h6 h7 h8 h9 h10 h11 h12 h13 h14 h15 : Nat) (x0 : Int32) : Met l yX12_isTold wsX12_isTold ({ frames := 3, cells := 0, slots := 0, locals := 120 }) (PS D cI cS [(h0, .inr (12, [.int 0, .int 1, .ref h1, .ref h2, .ref h3, .ref h4, .ref h5, .ref h6, .ref h7, .ref h8, .int 0, .int 0, .int 0, .int 0, .int 0, .int 0, .ref h9, .ref h10, .ref h11, .ref h12, .ref h13, .ref h14, .ref h15, .int 0])), (h9, .inl (cI, 4, .inl (fun _ => -1)))] [.ref h0, .int x0]) (vp_Si (fun r => r = if x0 < 0 then ((-2) : Int32) else (if (3 : Int32) < x0 then ((-2) : Int32) else ((-11) : Int32)))) 0 0 (fun _ => False) := by
  refine Met.ofW (cc := cX12_isTold) (maxL := 3) (ret := (some .int)) (by decide) rfl ?_
  intro p e s m args below meth c s₁ B hml hv
  obtain ⟨rfl, hP, hKK⟩ := hv
  have hx := B.exec
  have hb := B.bytes
  have hr := B.returns
  have hts := atoms_spec (ws := wsX12_isTold) B.pre
  have hown : s.vm.findClass RX12 = some m.cls := findClass_of_methodNamed B.named
  have hlocks := B.notSynchronized
  have hK := hKK.1
  have hN := hKK.2
  have hl := lv_entry ([.ref h0, .int x0]) (n := 3) (Nat.le_of_ble_eq_true rfl)
  rw [lg_entry_eq]
  generalize (lg_sl ([.ref h0, .int x0]) ++ List.replicate (3 - (lg_sl ([.ref h0, .int x0])).length) Slot.unset).toArray = ls at hl ⊢
  have hl : lv_has ls 3 [(0, .ref h0), (1, .int x0)] := hl
  refine lv_aload_n hx hb dX12_isTold_0 rfl (lv_at hl 0 rfl) ?_
  refine lv_iload_n hx hb dX12_isTold_1 rfl (lv_at hl 1 rfl) ?_
  have hPc := hP.sub (ws' := [(h0, .inr (12, [.int 0, .int 1, .ref h1, .ref h2, .ref h3, .ref h4, .ref h5, .ref h6, .ref h7, .ref h8, .int 0, .int 0, .int 0, .int 0, .int 0, .int 0, .ref h9, .ref h10, .ref h11, .ref h12, .ref h13, .ref h14, .ref h15, .int 0])), (h9, .inl (cI, 4, .inl (fun _ => -1)))]) [0, 1] rfl
  refine lz_sv (As := [.int x0]) (rest := []) ⟨hx, hb, hml, hown, hts⟩ (c_X12_wrongPairing_0 l D cI cS h0 h1 h2 h3 h4 h5 h6 h7 h8 h9 h10 h11 h12 h13 h14 h15 x0) hKK hPc (ci := 12) rfl rfl (cwV 1 hts gX12_isTold_X12_wrongPairing rfl rfl rfl (by decide +kernel) ⟨Nat.le_of_ble_eq_true rfl, Nat.le_of_ble_eq_true rfl⟩) rfl hl.1 rfl (Nat.le_of_ble_eq_true rfl) dX12_isTold_2 ⟨Nat.le_of_ble_eq_true rfl, Nat.le_of_ble_eq_true rfl⟩ (fun r544 hw => ?_)
  by_cases k545 : x0 < 0
  · rw [if_pos k545] at hw
    subst hw
    refine lv_istore_n (lv' := [(2, .int (-2)), (0, .ref h0), (1, .int x0)]) hx hb dX12_isTold_5 rfl hl (by decide) rfl (fun ls hl => ?_)
    refine lv_iload_n hx hb dX12_isTold_6 rfl (lv_at hl 0 rfl) ?_
    refine lv_if_ne (tgt := 14) hx hb dX12_isTold_7 (by decide) (fun c546 => ?_) (fun c546 => ?_)
    · refine lv_iload_n hx hb dX12_isTold_14 rfl (lv_at hl 0 rfl) ?_
      refine lv_bipush (v := (-3)) hx hb dX12_isTold_15 (by decide) ?_
      refine lv_icmp_ne (tgt := 24) hx hb dX12_isTold_17 (by decide) (fun c547 => ?_) (fun c547 => ?_)
      · refine lv_iload_n hx hb dX12_isTold_24 rfl (lv_at hl 0 rfl) ?_
        exact W.iret (v := (-2)) hx hb hr (fun t ht hW => ⟨_, rfl, by rw [if_pos k545], ht⟩) (fun q hq => absurd hq List.not_mem_nil) dX12_isTold_25
      · exact absurd c547 (by decide)
    · exact absurd c546 (by decide)
  · rw [if_neg k545] at hw
    by_cases k548 : (3 : Int32) < x0
    · rw [if_pos k548] at hw
      subst hw
      refine lv_istore_n (lv' := [(2, .int (-2)), (0, .ref h0), (1, .int x0)]) hx hb dX12_isTold_5 rfl hl (by decide) rfl (fun ls hl => ?_)
      refine lv_iload_n hx hb dX12_isTold_6 rfl (lv_at hl 0 rfl) ?_
      refine lv_if_ne (tgt := 14) hx hb dX12_isTold_7 (by decide) (fun c549 => ?_) (fun c549 => ?_)
      · refine lv_iload_n hx hb dX12_isTold_14 rfl (lv_at hl 0 rfl) ?_
        refine lv_bipush (v := (-3)) hx hb dX12_isTold_15 (by decide) ?_
        refine lv_icmp_ne (tgt := 24) hx hb dX12_isTold_17 (by decide) (fun c550 => ?_) (fun c550 => ?_)
        · refine lv_iload_n hx hb dX12_isTold_24 rfl (lv_at hl 0 rfl) ?_
          exact W.iret (v := (-2)) hx hb hr (fun t ht hW => ⟨_, rfl, by rw [if_neg k545, if_pos k548], ht⟩) (fun q hq => absurd hq List.not_mem_nil) dX12_isTold_25
        · exact absurd c550 (by decide)
      · exact absurd c549 (by decide)
    · rw [if_neg k548] at hw
      subst hw
      refine lv_istore_n (lv' := [(2, .int (-11)), (0, .ref h0), (1, .int x0)]) hx hb dX12_isTold_5 rfl hl (by decide) rfl (fun ls hl => ?_)
      refine lv_iload_n hx hb dX12_isTold_6 rfl (lv_at hl 0 rfl) ?_
      refine lv_if_ne (tgt := 14) hx hb dX12_isTold_7 (by decide) (fun c551 => ?_) (fun c551 => ?_)
      · refine lv_iload_n hx hb dX12_isTold_14 rfl (lv_at hl 0 rfl) ?_
        refine lv_bipush (v := (-3)) hx hb dX12_isTold_15 (by decide) ?_
        refine lv_icmp_ne (tgt := 24) hx hb dX12_isTold_17 (by decide) (fun c552 => ?_) (fun c552 => ?_)
        · refine lv_iload_n hx hb dX12_isTold_24 rfl (lv_at hl 0 rfl) ?_
          exact W.iret (v := (-11)) hx hb hr (fun t ht hW => ⟨_, rfl, by rw [if_neg k545, if_neg k548], ht⟩) (fun q hq => absurd hq List.not_mem_nil) dX12_isTold_25
        · exact absurd c552 (by decide)
      · exact absurd c551 (by decide)
set_option maxHeartbeats 4000000 in
set_option maxRecDepth 100000 in
theorem c_X12_misses_0 (l : Launch) (D : va_G) (cI cS : ClassId) (h0 h1 h2 h3 h4 h5 h6 h7 h8 h9 h10 h11 h12 h13 h14 h15 : Nat) (x0 : Int32) : Met l yX12_misses wsX12_misses ({ frames := 3, cells := 0, slots := 0, locals := 120 }) (PS D cI cS [(h0, .inr (12, [.int 0, .int 1, .ref h1, .ref h2, .ref h3, .ref h4, .ref h5, .ref h6, .ref h7, .ref h8, .int 0, .int 0, .int 0, .int 0, .int 0, .int 0, .ref h9, .ref h10, .ref h11, .ref h12, .ref h13, .ref h14, .ref h15, .int 0])), (h9, .inl (cI, 4, .inl (fun _ => -1)))] [.ref h0, .int x0]) (vp_Si (fun r => r = if x0 < 0 then ((-2) : Int32) else (if (3 : Int32) < x0 then ((-2) : Int32) else ((-11) : Int32)))) 0 0 (fun _ => False) := by
  refine Met.ofW (cc := cX12_misses) (maxL := 5) (ret := (some .int)) (by decide) rfl ?_
  intro p e s m args below meth c s₁ B hml hv
  obtain ⟨rfl, hP, hKK⟩ := hv
  have hx := B.exec
  have hb := B.bytes
  have hr := B.returns
  have hts := atoms_spec (ws := wsX12_misses) B.pre
  have hown : s.vm.findClass RX12 = some m.cls := findClass_of_methodNamed B.named
  have hlocks := B.notSynchronized
  have hK := hKK.1
  have hN := hKK.2
  have hl := lv_entry ([.ref h0, .int x0]) (n := 5) (Nat.le_of_ble_eq_true rfl)
  rw [lg_entry_eq]
  generalize (lg_sl ([.ref h0, .int x0]) ++ List.replicate (5 - (lg_sl ([.ref h0, .int x0])).length) Slot.unset).toArray = ls at hl ⊢
  have hl : lv_has ls 5 [(0, .ref h0), (1, .int x0)] := hl
  refine lv_aload_n hx hb dX12_misses_0 rfl (lv_at hl 0 rfl) ?_
  refine lv_iload_n hx hb dX12_misses_1 rfl (lv_at hl 1 rfl) ?_
  have hPc := hP.sub (ws' := [(h0, .inr (12, [.int 0, .int 1, .ref h1, .ref h2, .ref h3, .ref h4, .ref h5, .ref h6, .ref h7, .ref h8, .int 0, .int 0, .int 0, .int 0, .int 0, .int 0, .ref h9, .ref h10, .ref h11, .ref h12, .ref h13, .ref h14, .ref h15, .int 0])), (h9, .inl (cI, 4, .inl (fun _ => -1)))]) [0, 1] rfl
  refine lz_sv (As := [.int x0]) (rest := []) ⟨hx, hb, hml, hown, hts⟩ (c_X12_wrongPairing_0 l D cI cS h0 h1 h2 h3 h4 h5 h6 h7 h8 h9 h10 h11 h12 h13 h14 h15 x0) hKK hPc (ci := 12) rfl rfl (cwV 1 hts gX12_misses_X12_wrongPairing rfl rfl rfl (by decide +kernel) ⟨Nat.le_of_ble_eq_true rfl, Nat.le_of_ble_eq_true rfl⟩) rfl hl.1 rfl (Nat.le_of_ble_eq_true rfl) dX12_misses_2 ⟨Nat.le_of_ble_eq_true rfl, Nat.le_of_ble_eq_true rfl⟩ (fun r559 hw => ?_)
  by_cases k560 : x0 < 0
  · rw [if_pos k560] at hw
    subst hw
    refine lv_istore_n (lv' := [(2, .int (-2)), (0, .ref h0), (1, .int x0)]) hx hb dX12_misses_5 rfl hl (by decide) rfl (fun ls hl => ?_)
    refine lv_iload_n hx hb dX12_misses_6 rfl (lv_at hl 0 rfl) ?_
    refine lv_if_eq (tgt := 12) hx hb dX12_misses_7 (by decide) (fun c561 => ?_) (fun c561 => ?_)
    · exact absurd c561 (by decide)
    · refine lv_iload_n hx hb dX12_misses_10 rfl (lv_at hl 0 rfl) ?_
      exact W.iret (v := (-2)) hx hb hr (fun t ht hW => ⟨_, rfl, by rw [if_pos k560], ht⟩) (fun q hq => absurd hq List.not_mem_nil) dX12_misses_11
  · rw [if_neg k560] at hw
    by_cases k562 : (3 : Int32) < x0
    · rw [if_pos k562] at hw
      subst hw
      refine lv_istore_n (lv' := [(2, .int (-2)), (0, .ref h0), (1, .int x0)]) hx hb dX12_misses_5 rfl hl (by decide) rfl (fun ls hl => ?_)
      refine lv_iload_n hx hb dX12_misses_6 rfl (lv_at hl 0 rfl) ?_
      refine lv_if_eq (tgt := 12) hx hb dX12_misses_7 (by decide) (fun c563 => ?_) (fun c563 => ?_)
      · exact absurd c563 (by decide)
      · refine lv_iload_n hx hb dX12_misses_10 rfl (lv_at hl 0 rfl) ?_
        exact W.iret (v := (-2)) hx hb hr (fun t ht hW => ⟨_, rfl, by rw [if_neg k560, if_pos k562], ht⟩) (fun q hq => absurd hq List.not_mem_nil) dX12_misses_11
    · rw [if_neg k562] at hw
      subst hw
      refine lv_istore_n (lv' := [(2, .int (-11)), (0, .ref h0), (1, .int x0)]) hx hb dX12_misses_5 rfl hl (by decide) rfl (fun ls hl => ?_)
      refine lv_iload_n hx hb dX12_misses_6 rfl (lv_at hl 0 rfl) ?_
      refine lv_if_eq (tgt := 12) hx hb dX12_misses_7 (by decide) (fun c564 => ?_) (fun c564 => ?_)
      · exact absurd c564 (by decide)
      · refine lv_iload_n hx hb dX12_misses_10 rfl (lv_at hl 0 rfl) ?_
        exact W.iret (v := (-11)) hx hb hr (fun t ht hW => ⟨_, rfl, by rw [if_neg k560, if_neg k562], ht⟩) (fun q hq => absurd hq List.not_mem_nil) dX12_misses_11
set_option maxHeartbeats 4000000 in
set_option maxRecDepth 100000 in
theorem c_X12_way_0 (l : Launch) (D : va_G) (cI cS : ClassId) (h0 h1 h2 h3 h4 h5 h6 h7 h8 h9 h10 h11 h12 h13 h14 h15 : Nat) (x0 x1 : Int32) : Met l yX12_way wsX12_way ({ frames := 3, cells := 0, slots := 0, locals := 120 }) (PS D cI cS [(h0, .inr (12, [.int 0, .int 1, .ref h1, .ref h2, .ref h3, .ref h4, .ref h5, .ref h6, .ref h7, .ref h8, .int 0, .int 0, .int 0, .int 0, .int 0, .int 0, .ref h9, .ref h10, .ref h11, .ref h12, .ref h13, .ref h14, .ref h15, .int 0])), (h9, .inl (cI, 4, .inl (fun _ => -1)))] [.ref h0, .int x0, .int x1]) (vp_Si (fun r => r = if x0 < 0 then ((-2) : Int32) else (if (3 : Int32) < x0 then ((-2) : Int32) else ((-11) : Int32)))) 0 0 (fun _ => False) := by
  refine Met.ofW (cc := cX12_way) (maxL := 5) (ret := (some .int)) (by decide) rfl ?_
  intro p e s m args below meth c s₁ B hml hv
  obtain ⟨rfl, hP, hKK⟩ := hv
  have hx := B.exec
  have hb := B.bytes
  have hr := B.returns
  have hts := atoms_spec (ws := wsX12_way) B.pre
  have hown : s.vm.findClass RX12 = some m.cls := findClass_of_methodNamed B.named
  have hlocks := B.notSynchronized
  have hK := hKK.1
  have hN := hKK.2
  have hl := lv_entry ([.ref h0, .int x0, .int x1]) (n := 5) (Nat.le_of_ble_eq_true rfl)
  rw [lg_entry_eq]
  generalize (lg_sl ([.ref h0, .int x0, .int x1]) ++ List.replicate (5 - (lg_sl ([.ref h0, .int x0, .int x1])).length) Slot.unset).toArray = ls at hl ⊢
  have hl : lv_has ls 5 [(0, .ref h0), (1, .int x0), (2, .int x1)] := hl
  refine lv_aload_n hx hb dX12_way_0 rfl (lv_at hl 0 rfl) ?_
  refine lv_iload_n hx hb dX12_way_1 rfl (lv_at hl 1 rfl) ?_
  have hPc := hP.sub (ws' := [(h0, .inr (12, [.int 0, .int 1, .ref h1, .ref h2, .ref h3, .ref h4, .ref h5, .ref h6, .ref h7, .ref h8, .int 0, .int 0, .int 0, .int 0, .int 0, .int 0, .ref h9, .ref h10, .ref h11, .ref h12, .ref h13, .ref h14, .ref h15, .int 0])), (h9, .inl (cI, 4, .inl (fun _ => -1)))]) [0, 1] rfl
  refine lz_sv (As := [.int x0]) (rest := []) ⟨hx, hb, hml, hown, hts⟩ (c_X12_wrongPairing_0 l D cI cS h0 h1 h2 h3 h4 h5 h6 h7 h8 h9 h10 h11 h12 h13 h14 h15 x0) hKK hPc (ci := 12) rfl rfl (cwV 1 hts gX12_way_X12_wrongPairing rfl rfl rfl (by decide +kernel) ⟨Nat.le_of_ble_eq_true rfl, Nat.le_of_ble_eq_true rfl⟩) rfl hl.1 rfl (Nat.le_of_ble_eq_true rfl) dX12_way_2 ⟨Nat.le_of_ble_eq_true rfl, Nat.le_of_ble_eq_true rfl⟩ (fun r571 hw => ?_)
  by_cases k572 : x0 < 0
  · rw [if_pos k572] at hw
    subst hw
    refine lv_istore_n (lv' := [(3, .int (-2)), (0, .ref h0), (1, .int x0), (2, .int x1)]) hx hb dX12_way_5 rfl hl (by decide) rfl (fun ls hl => ?_)
    refine lv_iload_n hx hb dX12_way_6 rfl (lv_at hl 0 rfl) ?_
    refine lv_if_eq (tgt := 12) hx hb dX12_way_7 (by decide) (fun c573 => ?_) (fun c573 => ?_)
    · exact absurd c573 (by decide)
    · refine lv_iload_n hx hb dX12_way_10 rfl (lv_at hl 0 rfl) ?_
      exact W.iret (v := (-2)) hx hb hr (fun t ht hW => ⟨_, rfl, by rw [if_pos k572], ht⟩) (fun q hq => absurd hq List.not_mem_nil) dX12_way_11
  · rw [if_neg k572] at hw
    by_cases k574 : (3 : Int32) < x0
    · rw [if_pos k574] at hw
      subst hw
      refine lv_istore_n (lv' := [(3, .int (-2)), (0, .ref h0), (1, .int x0), (2, .int x1)]) hx hb dX12_way_5 rfl hl (by decide) rfl (fun ls hl => ?_)
      refine lv_iload_n hx hb dX12_way_6 rfl (lv_at hl 0 rfl) ?_
      refine lv_if_eq (tgt := 12) hx hb dX12_way_7 (by decide) (fun c575 => ?_) (fun c575 => ?_)
      · exact absurd c575 (by decide)
      · refine lv_iload_n hx hb dX12_way_10 rfl (lv_at hl 0 rfl) ?_
        exact W.iret (v := (-2)) hx hb hr (fun t ht hW => ⟨_, rfl, by rw [if_neg k572, if_pos k574], ht⟩) (fun q hq => absurd hq List.not_mem_nil) dX12_way_11
    · rw [if_neg k574] at hw
      subst hw
      refine lv_istore_n (lv' := [(3, .int (-11)), (0, .ref h0), (1, .int x0), (2, .int x1)]) hx hb dX12_way_5 rfl hl (by decide) rfl (fun ls hl => ?_)
      refine lv_iload_n hx hb dX12_way_6 rfl (lv_at hl 0 rfl) ?_
      refine lv_if_eq (tgt := 12) hx hb dX12_way_7 (by decide) (fun c576 => ?_) (fun c576 => ?_)
      · exact absurd c576 (by decide)
      · refine lv_iload_n hx hb dX12_way_10 rfl (lv_at hl 0 rfl) ?_
        exact W.iret (v := (-11)) hx hb hr (fun t ht hW => ⟨_, rfl, by rw [if_neg k572, if_neg k574], ht⟩) (fun q hq => absurd hq List.not_mem_nil) dX12_way_11
set_option maxHeartbeats 4000000 in
set_option maxRecDepth 100000 in
theorem c_X12_grow_0 (l : Launch) (D : va_G) (cI cS : ClassId) (h0 h1 h2 h3 h4 h5 h6 h7 h8 h9 h10 h11 h12 h13 h14 h15 : Nat) (x0 : Int32) : Met l yX12_grow wsX12_grow ({ frames := 3, cells := 0, slots := 0, locals := 120 }) (PS D cI cS [(h0, .inr (12, [.int 0, .int 1, .ref h1, .ref h2, .ref h3, .ref h4, .ref h5, .ref h6, .ref h7, .ref h8, .int 0, .int 0, .int 0, .int 0, .int 0, .int 0, .ref h9, .ref h10, .ref h11, .ref h12, .ref h13, .ref h14, .ref h15, .int 0])), (h9, .inl (cI, 4, .inl (fun _ => -1)))] [.ref h0, .int x0]) (vp_Si (fun r => r = if x0 < 0 then ((-2) : Int32) else (if (3 : Int32) < x0 then ((-2) : Int32) else ((-11) : Int32)))) 0 0 (fun _ => False) := by
  refine Met.ofW (cc := cX12_grow) (maxL := 6) (ret := (some .int)) (by decide) rfl ?_
  intro p e s m args below meth c s₁ B hml hv
  obtain ⟨rfl, hP, hKK⟩ := hv
  have hx := B.exec
  have hb := B.bytes
  have hr := B.returns
  have hts := atoms_spec (ws := wsX12_grow) B.pre
  have hown : s.vm.findClass RX12 = some m.cls := findClass_of_methodNamed B.named
  have hlocks := B.notSynchronized
  have hK := hKK.1
  have hN := hKK.2
  have hl := lv_entry ([.ref h0, .int x0]) (n := 6) (Nat.le_of_ble_eq_true rfl)
  rw [lg_entry_eq]
  generalize (lg_sl ([.ref h0, .int x0]) ++ List.replicate (6 - (lg_sl ([.ref h0, .int x0])).length) Slot.unset).toArray = ls at hl ⊢
  have hl : lv_has ls 6 [(0, .ref h0), (1, .int x0)] := hl
  refine lv_aload_n hx hb dX12_grow_0 rfl (lv_at hl 0 rfl) ?_
  refine lv_iload_n hx hb dX12_grow_1 rfl (lv_at hl 1 rfl) ?_
  have hPc := hP.sub (ws' := [(h0, .inr (12, [.int 0, .int 1, .ref h1, .ref h2, .ref h3, .ref h4, .ref h5, .ref h6, .ref h7, .ref h8, .int 0, .int 0, .int 0, .int 0, .int 0, .int 0, .ref h9, .ref h10, .ref h11, .ref h12, .ref h13, .ref h14, .ref h15, .int 0])), (h9, .inl (cI, 4, .inl (fun _ => -1)))]) [0, 1] rfl
  refine lz_sv (As := [.int x0]) (rest := []) ⟨hx, hb, hml, hown, hts⟩ (c_X12_wrongPairing_0 l D cI cS h0 h1 h2 h3 h4 h5 h6 h7 h8 h9 h10 h11 h12 h13 h14 h15 x0) hKK hPc (ci := 12) rfl rfl (cwV 1 hts gX12_grow_X12_wrongPairing rfl rfl rfl (by decide +kernel) ⟨Nat.le_of_ble_eq_true rfl, Nat.le_of_ble_eq_true rfl⟩) rfl hl.1 rfl (Nat.le_of_ble_eq_true rfl) dX12_grow_2 ⟨Nat.le_of_ble_eq_true rfl, Nat.le_of_ble_eq_true rfl⟩ (fun r583 hw => ?_)
  by_cases k584 : x0 < 0
  · rw [if_pos k584] at hw
    subst hw
    refine lv_istore_n (lv' := [(2, .int (-2)), (0, .ref h0), (1, .int x0)]) hx hb dX12_grow_5 rfl hl (by decide) rfl (fun ls hl => ?_)
    refine lv_iload_n hx hb dX12_grow_6 rfl (lv_at hl 0 rfl) ?_
    refine lv_if_eq (tgt := 12) hx hb dX12_grow_7 (by decide) (fun c585 => ?_) (fun c585 => ?_)
    · exact absurd c585 (by decide)
    · refine lv_iload_n hx hb dX12_grow_10 rfl (lv_at hl 0 rfl) ?_
      exact W.iret (v := (-2)) hx hb hr (fun t ht hW => ⟨_, rfl, by rw [if_pos k584], ht⟩) (fun q hq => absurd hq List.not_mem_nil) dX12_grow_11
  · rw [if_neg k584] at hw
    by_cases k586 : (3 : Int32) < x0
    · rw [if_pos k586] at hw
      subst hw
      refine lv_istore_n (lv' := [(2, .int (-2)), (0, .ref h0), (1, .int x0)]) hx hb dX12_grow_5 rfl hl (by decide) rfl (fun ls hl => ?_)
      refine lv_iload_n hx hb dX12_grow_6 rfl (lv_at hl 0 rfl) ?_
      refine lv_if_eq (tgt := 12) hx hb dX12_grow_7 (by decide) (fun c587 => ?_) (fun c587 => ?_)
      · exact absurd c587 (by decide)
      · refine lv_iload_n hx hb dX12_grow_10 rfl (lv_at hl 0 rfl) ?_
        exact W.iret (v := (-2)) hx hb hr (fun t ht hW => ⟨_, rfl, by rw [if_neg k584, if_pos k586], ht⟩) (fun q hq => absurd hq List.not_mem_nil) dX12_grow_11
    · rw [if_neg k586] at hw
      subst hw
      refine lv_istore_n (lv' := [(2, .int (-11)), (0, .ref h0), (1, .int x0)]) hx hb dX12_grow_5 rfl hl (by decide) rfl (fun ls hl => ?_)
      refine lv_iload_n hx hb dX12_grow_6 rfl (lv_at hl 0 rfl) ?_
      refine lv_if_eq (tgt := 12) hx hb dX12_grow_7 (by decide) (fun c588 => ?_) (fun c588 => ?_)
      · exact absurd c588 (by decide)
      · refine lv_iload_n hx hb dX12_grow_10 rfl (lv_at hl 0 rfl) ?_
        exact W.iret (v := (-11)) hx hb hr (fun t ht hW => ⟨_, rfl, by rw [if_neg k584, if_neg k586], ht⟩) (fun q hq => absurd hq List.not_mem_nil) dX12_grow_11
set_option maxHeartbeats 4000000 in
set_option maxRecDepth 100000 in
theorem c_X12_chains_0 (l : Launch) (D : va_G) (cI cS : ClassId) (h0 h1 h2 h3 h4 h5 h6 h7 h8 h9 h10 h11 h12 h13 h14 h15 : Nat) (x0 x1 x2 : Int32) : Met l yX12_chains wsX12_chains ({ frames := 2, cells := 0, slots := 0, locals := 80 }) (PS D cI cS [(h0, .inr (12, [.int 0, .int 1, .ref h1, .ref h2, .ref h3, .ref h4, .ref h5, .ref h6, .ref h7, .ref h8, .int 0, .int 0, .int 0, .int 0, .int 0, .int 0, .ref h9, .ref h10, .ref h11, .ref h12, .ref h13, .ref h14, .ref h15, .int 0])), (h9, .inl (cI, 4, .inl (fun _ => -1)))] [.ref h0, .int x0, .int x1, .int x2]) (vp_Si (fun r => r = if x0 < 0 then ((-2) : Int32) else (if (3 : Int32) < x0 then ((-2) : Int32) else (if x1 < 0 then ((-2) : Int32) else (if (3 : Int32) < x1 then ((-2) : Int32) else (if x2 < 0 then ((-2) : Int32) else (if (2 : Int32) < x2 then ((-2) : Int32) else ((-11) : Int32)))))))) 0 0 (fun _ => False) := by
  refine Met.ofW (cc := cX12_chains) (maxL := 12) (ret := (some .int)) (by decide) rfl ?_
  intro p e s m args below meth c s₁ B hml hv
  obtain ⟨rfl, hP, hKK⟩ := hv
  have hx := B.exec
  have hb := B.bytes
  have hr := B.returns
  have hts := atoms_spec (ws := wsX12_chains) B.pre
  have hown : s.vm.findClass RX12 = some m.cls := findClass_of_methodNamed B.named
  have hlocks := B.notSynchronized
  have hK := hKK.1
  have hN := hKK.2
  have hin12 : ∀ w ∈ wsX120, w ∈ wsX12_chains := by decide +kernel
  have hl := lv_entry ([.ref h0, .int x0, .int x1, .int x2]) (n := 12) (Nat.le_of_ble_eq_true rfl)
  rw [lg_entry_eq]
  generalize (lg_sl ([.ref h0, .int x0, .int x1, .int x2]) ++ List.replicate (12 - (lg_sl ([.ref h0, .int x0, .int x1, .int x2])).length) Slot.unset).toArray = ls at hl ⊢
  have hl : lv_has ls 12 [(0, .ref h0), (1, .int x0), (2, .int x1), (3, .int x2)] := hl
  refine lv_iload_n hx hb dX12_chains_0 rfl (lv_at hl 1 rfl) ?_
  have hPc := hP.sub (ws' := []) [] rfl
  refine lz_ss (As := [.int x0]) (rest := []) ⟨hx, hb, hml, hown, hts⟩ (c_X12_isSheet_0 l D cI cS x0) hKK hPc (va_cwS 1 hts gX12_chains_X12_isSheet rfl rfl rfl (by decide +kernel) ⟨Nat.le_of_ble_eq_true rfl, Nat.le_of_ble_eq_true rfl⟩) rfl hl.1 rfl (Nat.le_of_ble_eq_true rfl) dX12_chains_1 ⟨Nat.le_of_ble_eq_true rfl, Nat.le_of_ble_eq_true rfl⟩ (fun r608 hw => ?_)
  by_cases k609 : x0 < 0
  · rw [if_pos k609] at hw
    subst hw
    refine lv_if_eq (tgt := 23) hx hb dX12_chains_4 (by decide) (fun c610 => ?_) (fun c610 => ?_)
    · refine lv_bipush (v := (-2)) hx hb dX12_chains_23 (by decide) ?_
      exact W.iret (v := (-2)) hx hb hr (fun t ht hW => ⟨_, rfl, by rw [if_pos k609], ht⟩) (fun q hq => absurd hq List.not_mem_nil) dX12_chains_25
    · exact absurd c610 (by decide)
  · rw [if_neg k609] at hw
    by_cases k611 : (3 : Int32) < x0
    · rw [if_pos k611] at hw
      subst hw
      refine lv_if_eq (tgt := 23) hx hb dX12_chains_4 (by decide) (fun c612 => ?_) (fun c612 => ?_)
      · refine lv_bipush (v := (-2)) hx hb dX12_chains_23 (by decide) ?_
        exact W.iret (v := (-2)) hx hb hr (fun t ht hW => ⟨_, rfl, by rw [if_neg k609, if_pos k611], ht⟩) (fun q hq => absurd hq List.not_mem_nil) dX12_chains_25
      · exact absurd c612 (by decide)
    · rw [if_neg k611] at hw
      subst hw
      refine lv_if_eq (tgt := 23) hx hb dX12_chains_4 (by decide) (fun c613 => ?_) (fun c613 => ?_)
      · exact absurd c613 (by decide)
      · refine lv_iload_n hx hb dX12_chains_7 rfl (lv_at hl 2 rfl) ?_
        have hPc := hP.sub (ws' := []) [] rfl
        refine lz_ss (As := [.int x1]) (rest := []) ⟨hx, hb, hml, hown, hts⟩ (c_X12_isSheet_0 l D cI cS x1) hKK hPc (va_cwS 1 hts gX12_chains_X12_isSheet rfl rfl rfl (by decide +kernel) ⟨Nat.le_of_ble_eq_true rfl, Nat.le_of_ble_eq_true rfl⟩) rfl hl.1 rfl (Nat.le_of_ble_eq_true rfl) dX12_chains_8 ⟨Nat.le_of_ble_eq_true rfl, Nat.le_of_ble_eq_true rfl⟩ (fun r614 hw => ?_)
        by_cases k615 : x1 < 0
        · rw [if_pos k615] at hw
          subst hw
          refine lv_if_eq (tgt := 23) hx hb dX12_chains_11 (by decide) (fun c616 => ?_) (fun c616 => ?_)
          · refine lv_bipush (v := (-2)) hx hb dX12_chains_23 (by decide) ?_
            exact W.iret (v := (-2)) hx hb hr (fun t ht hW => ⟨_, rfl, by rw [if_neg k609, if_neg k611, if_pos k615], ht⟩) (fun q hq => absurd hq List.not_mem_nil) dX12_chains_25
          · exact absurd c616 (by decide)
        · rw [if_neg k615] at hw
          by_cases k617 : (3 : Int32) < x1
          · rw [if_pos k617] at hw
            subst hw
            refine lv_if_eq (tgt := 23) hx hb dX12_chains_11 (by decide) (fun c618 => ?_) (fun c618 => ?_)
            · refine lv_bipush (v := (-2)) hx hb dX12_chains_23 (by decide) ?_
              exact W.iret (v := (-2)) hx hb hr (fun t ht hW => ⟨_, rfl, by rw [if_neg k609, if_neg k611, if_neg k615, if_pos k617], ht⟩) (fun q hq => absurd hq List.not_mem_nil) dX12_chains_25
            · exact absurd c618 (by decide)
          · rw [if_neg k617] at hw
            subst hw
            refine lv_if_eq (tgt := 23) hx hb dX12_chains_11 (by decide) (fun c619 => ?_) (fun c619 => ?_)
            · exact absurd c619 (by decide)
            · refine lv_iload_n hx hb dX12_chains_14 rfl (lv_at hl 3 rfl) ?_
              refine lv_iconst (v := 0) hx hb dX12_chains_15 (by decide) ?_
              refine lv_iconst (v := 2) hx hb dX12_chains_16 (by decide) ?_
              have hPc := hP.sub (ws' := []) [] rfl
              refine lz_ss (As := [.int x2, .int 0, .int 2]) (rest := []) ⟨hx, hb, hml, hown, hts⟩ (c_X12_in_3 l D cI cS x2) hKK hPc (va_cwS 3 hts gX12_chains_X12_in rfl rfl rfl (by decide +kernel) ⟨Nat.le_of_ble_eq_true rfl, Nat.le_of_ble_eq_true rfl⟩) rfl hl.1 rfl (Nat.le_of_ble_eq_true rfl) dX12_chains_17 ⟨Nat.le_of_ble_eq_true rfl, Nat.le_of_ble_eq_true rfl⟩ (fun r620 hw => ?_)
              by_cases k621 : x2 < 0
              · rw [if_pos k621] at hw
                subst hw
                refine lv_if_ne (tgt := 26) hx hb dX12_chains_20 (by decide) (fun c622 => ?_) (fun c622 => ?_)
                · exact absurd c622 (by decide)
                · refine lv_bipush (v := (-2)) hx hb dX12_chains_23 (by decide) ?_
                  exact W.iret (v := (-2)) hx hb hr (fun t ht hW => ⟨_, rfl, by rw [if_neg k609, if_neg k611, if_neg k615, if_neg k617, if_pos k621], ht⟩) (fun q hq => absurd hq List.not_mem_nil) dX12_chains_25
              · rw [if_neg k621] at hw
                by_cases k623 : (2 : Int32) < x2
                · rw [if_pos k623] at hw
                  subst hw
                  refine lv_if_ne (tgt := 26) hx hb dX12_chains_20 (by decide) (fun c624 => ?_) (fun c624 => ?_)
                  · exact absurd c624 (by decide)
                  · refine lv_bipush (v := (-2)) hx hb dX12_chains_23 (by decide) ?_
                    exact W.iret (v := (-2)) hx hb hr (fun t ht hW => ⟨_, rfl, by rw [if_neg k609, if_neg k611, if_neg k615, if_neg k617, if_neg k621, if_pos k623], ht⟩) (fun q hq => absurd hq List.not_mem_nil) dX12_chains_25
                · rw [if_neg k623] at hw
                  subst hw
                  refine lv_if_ne (tgt := 26) hx hb dX12_chains_20 (by decide) (fun c625 => ?_) (fun c625 => ?_)
                  · refine lv_aload_n hx hb dX12_chains_26 rfl (lv_at hl 0 rfl) ?_
                    refine va_get (D := D) (ci := 12) (v := .ref h9) (C := RX12) (T := TX12) (N := 24) hx hb hts hin12 hown hK hP 0 rfl rfl 16 (by decide) (hts (.fieldLink RX12 38 "MissedPointsModel" "sort" "[I") (by decide +kernel)) (fun _ h9 => h9) rfl dX12_chains_27 ?_
                    refine lv_iload_n hx hb dX12_chains_30 rfl (lv_at hl 1 rfl) ?_
                    refine va_iald hx hb hK hP 1 0 rfl rfl (lz_vp (x := x0) (n := 4) (by have zf1 := mt (lz_lt x0 (0 : Int32)).mpr k609; have zf2 := mt (lz_lt (3 : Int32) x0).mpr k611; have zf3 := mt (lz_lt x1 (0 : Int32)).mpr k615; have zf4 := mt (lz_lt (3 : Int32) x1).mpr k617; have zf5 := mt (lz_lt x2 (0 : Int32)).mpr k621; have zf6 := mt (lz_lt (2 : Int32) x2).mpr k623; have zn0 : (0 : Int32).toInt = 0 := (by decide); have zn1 : (2 : Int32).toInt = 2 := (by decide); have zn2 : (3 : Int32).toInt = 3 := (by decide); omega) (by have zf1 := mt (lz_lt x0 (0 : Int32)).mpr k609; have zf2 := mt (lz_lt (3 : Int32) x0).mpr k611; have zf3 := mt (lz_lt x1 (0 : Int32)).mpr k615; have zf4 := mt (lz_lt (3 : Int32) x1).mpr k617; have zf5 := mt (lz_lt x2 (0 : Int32)).mpr k621; have zf6 := mt (lz_lt (2 : Int32) x2).mpr k623; have zn0 : (0 : Int32).toInt = 0 := (by decide); have zn1 : (2 : Int32).toInt = 2 := (by decide); have zn2 : (3 : Int32).toInt = 3 := (by decide); omega)) dX12_chains_31 ?_
                    refine lz_top (y := (-1)) rfl ?_
                    refine lv_iconst (v := (-1)) hx hb dX12_chains_32 (by decide) ?_
                    refine lv_icmp_eq (tgt := 46) hx hb dX12_chains_33 (by decide) (fun c626 => ?_) (fun c626 => ?_)
                    · refine lv_bipush (v := (-11)) hx hb dX12_chains_46 (by decide) ?_
                      exact W.iret (v := (-11)) hx hb hr (fun t ht hW => ⟨_, rfl, by rw [if_neg k609, if_neg k611, if_neg k615, if_neg k617, if_neg k621, if_neg k623], ht⟩) (fun q hq => absurd hq List.not_mem_nil) dX12_chains_48
                    · exact absurd c626 (by decide)
                  · exact absurd c625 (by decide)
set_option maxHeartbeats 4000000 in
set_option maxRecDepth 100000 in
theorem c_X12_laysMates_0 (l : Launch) (D : va_G) (cI cS : ClassId) (sz : Nat) (h0 h1 h2 h3 h4 h5 h6 h7 h8 h9 h10 h11 h12 h13 h14 h15 : Nat) : Met l yX12_laysMates wsX12_laysMates ({ frames := 2, cells := 0, slots := 0, locals := 80 }) (PQ D cI cS [(h0, .inr (12, [.int 0, .int 1, .ref h1, .ref h2, .ref h3, .ref h4, .ref h5, .ref h6, .ref h7, .ref h8, .int 0, .int 0, .int 0, .int 0, .int 0, .int 0, .ref h9, .ref h10, .ref h11, .ref h12, .ref h13, .ref h14, .ref h15, .int 0])), (h3, .inl (cI, 4096, .inl (fun _ => 0)))] sz [.ref h0]) (QV D [(h0, .inr (12, [.int 0, .int 1, .ref h1, .ref h2, .ref h3, .ref h4, .ref h5, .ref h6, .ref h7, .ref h8, .int 0, .int 0, .int 0, .int 0, .int 0, .int 0, .ref h9, .ref h10, .ref h11, .ref h12, .ref h13, .ref h14, .ref h15, .int 0])), (h3, .inl (cI, 4096, .inl (fun _ => 0)))] [(h0, .inr (12, [.int 0, .int 1, .ref h1, .ref h2, .ref h3, .ref h4, .ref h5, .ref h6, .ref h7, .ref h8, .int 0, .int 0, .int 0, .int 0, .int 0, .int 0, .ref h9, .ref h10, .ref h11, .ref h12, .ref h13, .ref h14, .ref h15, .int 0])), (h3, .inl (cI, 4096, .inl (upd (fun _ => 0) 0 1)))] sz) 0 0 (va_A [(h0, .inr (12, [.int 0, .int 1, .ref h1, .ref h2, .ref h3, .ref h4, .ref h5, .ref h6, .ref h7, .ref h8, .int 0, .int 0, .int 0, .int 0, .int 0, .int 0, .ref h9, .ref h10, .ref h11, .ref h12, .ref h13, .ref h14, .ref h15, .int 0])), (h3, .inl (cI, 4096, .inl (fun _ => 0)))] sz) := by
  refine Met.ofW (cc := cX12_laysMates) (maxL := 4) (ret := none) (by decide) rfl ?_
  intro p e s m args below meth c s₁ B hml hv
  obtain ⟨rfl, hsz, hP, hKK, hD0⟩ := hv
  have hx := B.exec
  have hb := B.bytes
  have hr := B.returns
  have hts := atoms_spec (ws := wsX12_laysMates) B.pre
  have hown : s.vm.findClass RX12 = some m.cls := findClass_of_methodNamed B.named
  have hlocks := B.notSynchronized
  have hK := hKK.1
  have hN := hKK.2
  subst hsz
  have hD := hD0.self (sz := s.heap.size)
  obtain ⟨A, hAe⟩ : ∃ A, A = va_A [(h0, .inr (12, [.int 0, .int 1, .ref h1, .ref h2, .ref h3, .ref h4, .ref h5, .ref h6, .ref h7, .ref h8, .int 0, .int 0, .int 0, .int 0, .int 0, .int 0, .ref h9, .ref h10, .ref h11, .ref h12, .ref h13, .ref h14, .ref h15, .int 0])), (h3, .inl (cI, 4096, .inl (fun _ => 0)))] s.heap.size := ⟨_, rfl⟩
  rw [← hAe] at hD
  have hA : ∀ q : Nat, s.heap.size ≤ q → A q := fun q h => by rw [hAe]; exact Or.inr h
  have hS : va_S A s.heap s.heap [] := va_S.rf
  have hl := lv_entry ([.ref h0]) (n := 4) (Nat.le_of_ble_eq_true rfl)
  rw [lg_entry_eq]
  generalize (lg_sl ([.ref h0]) ++ List.replicate (4 - (lg_sl ([.ref h0])).length) Slot.unset).toArray = ls at hl ⊢
  have hl : lv_has ls 4 [(0, .ref h0)] := hl
  refine lv_aload_n hx hb dX12_laysMates_0 rfl (lv_at hl 0 rfl) ?_
  have hPc := hP.sub (ws' := [(h0, .inr (12, [.int 0, .int 1, .ref h1, .ref h2, .ref h3, .ref h4, .ref h5, .ref h6, .ref h7, .ref h8, .int 0, .int 0, .int 0, .int 0, .int 0, .int 0, .ref h9, .ref h10, .ref h11, .ref h12, .ref h13, .ref h14, .ref h15, .int 0])), (h3, .inl (cI, 4096, .inl (fun _ => 0)))]) [0, 1] rfl
  have hDc := hD.sub (ws' := [(h0, .inr (12, [.int 0, .int 1, .ref h1, .ref h2, .ref h3, .ref h4, .ref h5, .ref h6, .ref h7, .ref h8, .int 0, .int 0, .int 0, .int 0, .int 0, .int 0, .ref h9, .ref h10, .ref h11, .ref h12, .ref h13, .ref h14, .ref h15, .int 0])), (h3, .inl (cI, 4096, .inl (fun _ => 0)))]) [0, 1] (by decide) rfl
  refine lz_qv (wr := []) (w1 := [(h0, .inr (12, [.int 0, .int 1, .ref h1, .ref h2, .ref h3, .ref h4, .ref h5, .ref h6, .ref h7, .ref h8, .int 0, .int 0, .int 0, .int 0, .int 0, .int 0, .ref h9, .ref h10, .ref h11, .ref h12, .ref h13, .ref h14, .ref h15, .int 0])), (h3, .inl (cI, 4096, .inl (upd (fun _ => 0) 0 1)))]) (As := []) (rest := []) ⟨hx, hb, hml, hown, hts⟩ (c_X12_reckons_0 l D cI cS _ h0 h1 h2 h3 h4 h5 h6 h7 h8 h9 h10 h11 h12 h13 h14 h15) hKK hP hD hS hA [0, 1] [] (by decide) rfl rfl (by decide) (by decide) hPc hDc (ci := 12) rfl rfl (cwV 0 hts gX12_laysMates_X12_reckons rfl rfl rfl (by decide +kernel) ⟨Nat.le_of_ble_eq_true rfl, Nat.le_of_ble_eq_true rfl⟩) rfl hl.1 rfl (Nat.le_of_ble_eq_true rfl) dX12_laysMates_1 ⟨Nat.le_of_ble_eq_true rfl, Nat.le_of_ble_eq_true rfl⟩ (fun H locs hP hD hS => ?_)
  have hP : va_P D cls [(h0, .inr (12, [.int 0, .int 1, .ref h1, .ref h2, .ref h3, .ref h4, .ref h5, .ref h6, .ref h7, .ref h8, .int 0, .int 0, .int 0, .int 0, .int 0, .int 0, .ref h9, .ref h10, .ref h11, .ref h12, .ref h13, .ref h14, .ref h15, .int 0])), (h3, .inl (cI, 4096, .inl (upd (fun _ => 0) 0 1)))] H := hP
  have hD : va_D A [(h0, .inr (12, [.int 0, .int 1, .ref h1, .ref h2, .ref h3, .ref h4, .ref h5, .ref h6, .ref h7, .ref h8, .int 0, .int 0, .int 0, .int 0, .int 0, .int 0, .ref h9, .ref h10, .ref h11, .ref h12, .ref h13, .ref h14, .ref h15, .int 0])), (h3, .inl (cI, 4096, .inl (upd (fun _ => 0) 0 1)))] := hD
  refine lv_aload_n hx hb dX12_laysMates_4 rfl (lv_at hl 0 rfl) ?_
  have hPc := hP.sub (ws' := [(h0, .inr (12, [.int 0, .int 1, .ref h1, .ref h2, .ref h3, .ref h4, .ref h5, .ref h6, .ref h7, .ref h8, .int 0, .int 0, .int 0, .int 0, .int 0, .int 0, .ref h9, .ref h10, .ref h11, .ref h12, .ref h13, .ref h14, .ref h15, .int 0]))]) [0] rfl
  refine lz_sv (As := []) (rest := []) ⟨hx, hb, hml, hown, hts⟩ (c_X12_all_0 l D cI cS h0 h1 h2 h3 h4 h5 h6 h7 h8 h9 h10 h11 h12 h13 h14 h15) hKK hPc (ci := 12) rfl rfl (cwV 0 hts gX12_laysMates_X12_all rfl rfl rfl (by decide +kernel) ⟨Nat.le_of_ble_eq_true rfl, Nat.le_of_ble_eq_true rfl⟩) rfl hl.1 rfl (Nat.le_of_ble_eq_true rfl) dX12_laysMates_5 ⟨Nat.le_of_ble_eq_true rfl, Nat.le_of_ble_eq_true rfl⟩ (fun r643 hw => ?_)
  subst hw
  refine lv_istore_n (lv' := [(1, .int 0), (0, .ref h0)]) hx hb dX12_laysMates_8 rfl hl (by decide) rfl (fun ls hl => ?_)
  refine lv_iload_n hx hb dX12_laysMates_9 rfl (lv_at hl 0 rfl) ?_
  refine lv_if_eq (tgt := 63) hx hb dX12_laysMates_10 (by decide) (fun c644 => ?_) (fun c644 => ?_)
  · have hP9 := hP.sub (ws' := [(h0, .inr (12, [.int 0, .int 1, .ref h1, .ref h2, .ref h3, .ref h4, .ref h5, .ref h6, .ref h7, .ref h8, .int 0, .int 0, .int 0, .int 0, .int 0, .int 0, .ref h9, .ref h10, .ref h11, .ref h12, .ref h13, .ref h14, .ref h15, .int 0])), (h3, .inl (cI, 4096, .inl (upd (fun _ => 0) 0 1)))]) [0, 1] rfl
    have hD9 := hD.sub (ws' := [(h0, .inr (12, [.int 0, .int 1, .ref h1, .ref h2, .ref h3, .ref h4, .ref h5, .ref h6, .ref h7, .ref h8, .int 0, .int 0, .int 0, .int 0, .int 0, .int 0, .ref h9, .ref h10, .ref h11, .ref h12, .ref h13, .ref h14, .ref h15, .int 0])), (h3, .inl (cI, 4096, .inl (upd (fun _ => 0) 0 1)))]) [0, 1] (by decide) rfl
    subst hAe
    exact W.vret hx hb hr (fun t ht hW => ⟨⟨(), rfl, trivial, by rw [ht]; exact hP9, hD9⟩, hS.F ht⟩) hS.2.2 dX12_laysMates_63
  · exact absurd c644 (by decide)
