set_option maxRecDepth 20000 in
theorem ggX12_wrongAt_X12_isSheet : GoodIn wsX12_wrongAt wsX12_isSheet := goodIn_r _ [6, 7, 8, 5, 9] (by decide +kernel) (by decide +kernel)
set_option maxRecDepth 20000 in
theorem gX12_wrongAt_X12_isSheet : GoodIn wsX12_wrongAt (va_wsS RX12 157 yX12_isSheet wsX12_isSheet) := goodIn_app (goodIn_of _ (by decide +kernel)) ggX12_wrongAt_X12_isSheet
theorem dX12_wrongAt_0 : decode cX12_wrongAt 0 = .ok (.iload_n 1, 1) := by decide +kernel
theorem dX12_wrongAt_1 : decode cX12_wrongAt 1 = .ok (.invokestatic 157, 3) := by decide +kernel
theorem dX12_wrongAt_12 : decode cX12_wrongAt 12 = .ok (.aload_n 0, 1) := by decide +kernel
theorem dX12_wrongAt_13 : decode cX12_wrongAt 13 = .ok (.getfield 38, 3) := by decide +kernel
theorem dX12_wrongAt_16 : decode cX12_wrongAt 16 = .ok (.iload_n 1, 1) := by decide +kernel
theorem dX12_wrongAt_17 : decode cX12_wrongAt 17 = .ok (.iaload, 1) := by decide +kernel
theorem dX12_wrongAt_18 : decode cX12_wrongAt 18 = .ok (.iconst (-1), 1) := by decide +kernel
theorem dX12_wrongAt_19 : decode cX12_wrongAt 19 = .ok (.if_icmp .ne 8, 3) := by decide +kernel
theorem dX12_wrongAt_22 : decode cX12_wrongAt 22 = .ok (.bipush (-11), 2) := by decide +kernel
theorem dX12_wrongAt_24 : decode cX12_wrongAt 24 = .ok (.goto 25, 3) := by decide +kernel
theorem dX12_wrongAt_4 : decode cX12_wrongAt 4 = .ok (.ifCond .ne 8, 3) := by decide +kernel
theorem dX12_wrongAt_49 : decode cX12_wrongAt 49 = .ok (.ireturn, 1) := by decide +kernel
theorem dX12_wrongAt_7 : decode cX12_wrongAt 7 = .ok (.bipush (-2), 2) := by decide +kernel
theorem dX12_wrongAt_9 : decode cX12_wrongAt 9 = .ok (.goto 40, 3) := by decide +kernel
set_option maxRecDepth 20000 in
theorem ggX12_write_X12_wrongAt : GoodIn wsX12_write wsX12_wrongAt := goodIn_r _ [7, 2, 8, 9, 10, 6, 11, 12, 13, 14, 15, 16, 17, 18, 19, 20, 21, 22, 23, 24, 25, 26, 27, 28, 29, 30, 31, 32, 33, 34, 35, 36, 37, 38] (by decide +kernel) (by decide +kernel)
set_option maxRecDepth 20000 in
theorem gX12_write_X12_wrongAt : GoodIn wsX12_write (wsV RX12 234 RX12 yX12_wrongAt wsX12_wrongAt) := goodIn_app (goodIn_of _ (by decide +kernel)) ggX12_write_X12_wrongAt
theorem dX12_write_0 : decode cX12_write 0 = .ok (.aload_n 0, 1) := by decide +kernel
theorem dX12_write_1 : decode cX12_write 1 = .ok (.iload_n 1, 1) := by decide +kernel
theorem dX12_write_10 : decode cX12_write 10 = .ok (.ifCond .eq 6, 3) := by decide +kernel
theorem dX12_write_13 : decode cX12_write 13 = .ok (.iload 4, 2) := by decide +kernel
theorem dX12_write_15 : decode cX12_write 15 = .ok (.ireturn, 1) := by decide +kernel
theorem dX12_write_2 : decode cX12_write 2 = .ok (.iload_n 2, 1) := by decide +kernel
theorem dX12_write_3 : decode cX12_write 3 = .ok (.invokevirtual 234, 3) := by decide +kernel
theorem dX12_write_6 : decode cX12_write 6 = .ok (.istore 4, 2) := by decide +kernel
theorem dX12_write_8 : decode cX12_write 8 = .ok (.iload 4, 2) := by decide +kernel
set_option maxRecDepth 20000 in
theorem ggX12_item_X12_wrongAt : GoodIn wsX12_item wsX12_wrongAt := goodIn_r _ [6, 7, 8, 9, 10, 5, 11, 12, 13, 14, 15, 16, 17, 18, 19, 20, 21, 22, 23, 24, 25, 26, 27, 28, 29, 30, 31, 32, 33, 34, 35, 36, 37, 38] (by decide +kernel) (by decide +kernel)
set_option maxRecDepth 20000 in
theorem gX12_item_X12_wrongAt : GoodIn wsX12_item (wsV RX12 234 RX12 yX12_wrongAt wsX12_wrongAt) := goodIn_app (goodIn_of _ (by decide +kernel)) ggX12_item_X12_wrongAt
theorem dX12_item_0 : decode cX12_item 0 = .ok (.aload_n 0, 1) := by decide +kernel
theorem dX12_item_1 : decode cX12_item 1 = .ok (.iload_n 1, 1) := by decide +kernel
theorem dX12_item_11 : decode cX12_item 11 = .ok (.iload_n 3, 1) := by decide +kernel
theorem dX12_item_12 : decode cX12_item 12 = .ok (.goto 14, 3) := by decide +kernel
theorem dX12_item_2 : decode cX12_item 2 = .ok (.iload_n 2, 1) := by decide +kernel
theorem dX12_item_26 : decode cX12_item 26 = .ok (.ireturn, 1) := by decide +kernel
theorem dX12_item_3 : decode cX12_item 3 = .ok (.invokevirtual 234, 3) := by decide +kernel
theorem dX12_item_6 : decode cX12_item 6 = .ok (.istore_n 3, 1) := by decide +kernel
theorem dX12_item_7 : decode cX12_item 7 = .ok (.iload_n 3, 1) := by decide +kernel
theorem dX12_item_8 : decode cX12_item 8 = .ok (.ifCond .eq 7, 3) := by decide +kernel
set_option maxRecDepth 20000 in
theorem ggX12_copy_X12_isSheet : GoodIn wsX12_copy wsX12_isSheet := goodIn_r _ [7, 8, 9, 6, 10] (by decide +kernel) (by decide +kernel)
set_option maxRecDepth 20000 in
theorem gX12_copy_X12_isSheet : GoodIn wsX12_copy (va_wsS RX12 157 yX12_isSheet wsX12_isSheet) := goodIn_app (goodIn_of _ (by decide +kernel)) ggX12_copy_X12_isSheet
theorem dX12_copy_0 : decode cX12_copy 0 = .ok (.iload_n 1, 1) := by decide +kernel
theorem dX12_copy_1 : decode cX12_copy 1 = .ok (.invokestatic 157, 3) := by decide +kernel
theorem dX12_copy_11 : decode cX12_copy 11 = .ok (.ifCond .ne 6, 3) := by decide +kernel
theorem dX12_copy_14 : decode cX12_copy 14 = .ok (.bipush (-2), 2) := by decide +kernel
theorem dX12_copy_16 : decode cX12_copy 16 = .ok (.ireturn, 1) := by decide +kernel
theorem dX12_copy_17 : decode cX12_copy 17 = .ok (.aload_n 0, 1) := by decide +kernel
theorem dX12_copy_18 : decode cX12_copy 18 = .ok (.getfield 38, 3) := by decide +kernel
theorem dX12_copy_21 : decode cX12_copy 21 = .ok (.iload_n 1, 1) := by decide +kernel
theorem dX12_copy_22 : decode cX12_copy 22 = .ok (.iaload, 1) := by decide +kernel
theorem dX12_copy_23 : decode cX12_copy 23 = .ok (.iconst (-1), 1) := by decide +kernel
theorem dX12_copy_24 : decode cX12_copy 24 = .ok (.if_icmp .eq 13, 3) := by decide +kernel
theorem dX12_copy_37 : decode cX12_copy 37 = .ok (.bipush (-11), 2) := by decide +kernel
theorem dX12_copy_39 : decode cX12_copy 39 = .ok (.ireturn, 1) := by decide +kernel
theorem dX12_copy_4 : decode cX12_copy 4 = .ok (.ifCond .eq 10, 3) := by decide +kernel
theorem dX12_copy_7 : decode cX12_copy 7 = .ok (.iload_n 3, 1) := by decide +kernel
theorem dX12_copy_8 : decode cX12_copy 8 = .ok (.invokestatic 157, 3) := by decide +kernel
set_option maxRecDepth 20000 in
theorem ggX12_image_X12_keeps : GoodIn wsX12_image wsX12_keeps := goodIn_r _ [7, 8, 2, 9, 10, 11, 12, 13, 14, 15, 16, 17, 18, 19, 20, 21, 22, 23, 24, 25, 26, 27, 28, 29, 30, 31, 32, 33, 34] (by decide +kernel) (by decide +kernel)
set_option maxRecDepth 20000 in
theorem gX12_image_X12_keeps : GoodIn wsX12_image (wsV RX12 205 RX12 yX12_keeps wsX12_keeps) := goodIn_app (goodIn_of _ (by decide +kernel)) ggX12_image_X12_keeps
theorem dX12_image_0 : decode cX12_image 0 = .ok (.aload_n 0, 1) := by decide +kernel
theorem dX12_image_1 : decode cX12_image 1 = .ok (.iconst 0, 1) := by decide +kernel
theorem dX12_image_10 : decode cX12_image 10 = .ok (.aload_n 0, 1) := by decide +kernel
theorem dX12_image_11 : decode cX12_image 11 = .ok (.getfield 63, 3) := by decide +kernel
theorem dX12_image_14 : decode cX12_image 14 = .ok (.ireturn, 1) := by decide +kernel
theorem dX12_image_2 : decode cX12_image 2 = .ok (.invokevirtual 205, 3) := by decide +kernel
theorem dX12_image_5 : decode cX12_image 5 = .ok (.aload_n 0, 1) := by decide +kernel
theorem dX12_image_6 : decode cX12_image 6 = .ok (.iconst 1, 1) := by decide +kernel
theorem dX12_image_7 : decode cX12_image 7 = .ok (.putfield 237, 3) := by decide +kernel
theorem dX12_back_0 : decode cX12_back 0 = .ok (.aload_n 0, 1) := by decide +kernel
theorem dX12_back_1 : decode cX12_back 1 = .ok (.getfield 237, 3) := by decide +kernel
theorem dX12_back_4 : decode cX12_back 4 = .ok (.ifCond .ne 6, 3) := by decide +kernel
theorem dX12_back_7 : decode cX12_back 7 = .ok (.bipush (-3), 2) := by decide +kernel
theorem dX12_back_9 : decode cX12_back 9 = .ok (.ireturn, 1) := by decide +kernel
theorem dX2_add_0 : decode cX2_add 0 = .ok (.aload_n 0, 1) := by decide +kernel
theorem dX2_add_1 : decode cX2_add 1 = .ok (.aload_n 0, 1) := by decide +kernel
theorem dX2_add_12 : decode cX2_add 12 = .ok (.putfield 15, 3) := by decide +kernel
theorem dX2_add_15 : decode cX2_add 15 = .ok (.aload_n 0, 1) := by decide +kernel
theorem dX2_add_16 : decode cX2_add 16 = .ok (.dup, 1) := by decide +kernel
theorem dX2_add_17 : decode cX2_add 17 = .ok (.getfield 33, 3) := by decide +kernel
theorem dX2_add_2 : decode cX2_add 2 = .ok (.getfield 15, 3) := by decide +kernel
theorem dX2_add_20 : decode cX2_add 20 = .ok (.iconst 1, 1) := by decide +kernel
theorem dX2_add_21 : decode cX2_add 21 = .ok (.iadd, 1) := by decide +kernel
theorem dX2_add_22 : decode cX2_add 22 = .ok (.putfield 33, 3) := by decide +kernel
theorem dX2_add_25 : decode cX2_add 25 = .ok (.return_, 1) := by decide +kernel
theorem dX2_add_5 : decode cX2_add 5 = .ok (.iload_n 1, 1) := by decide +kernel
theorem dX2_add_6 : decode cX2_add 6 = .ok (.iadd, 1) := by decide +kernel
theorem dX2_add_7 : decode cX2_add 7 = .ok (.bipush 12, 2) := by decide +kernel
theorem dX2_add_9 : decode cX2_add 9 = .ok (.invokestatic 27, 3) := by decide +kernel
set_option maxRecDepth 20000 in
theorem ggX11_points_X2_add : GoodIn wsX11_points wsX2_add := goodIn_r _ [6, 7, 8, 9, 10, 11, 12, 29, 30, 31] (by decide +kernel) (by decide +kernel)
set_option maxRecDepth 20000 in
theorem gX11_points_X2_add : GoodIn wsX11_points (wsV RX11 101 RX2 yX2_add wsX2_add) := goodIn_app (goodIn_of _ (by decide +kernel)) ggX11_points_X2_add
theorem dX11_points_0 : decode cX11_points 0 = .ok (.iload_n 1, 1) := by decide +kernel
theorem dX11_points_1 : decode cX11_points 1 = .ok (.iconst 1, 1) := by decide +kernel
theorem dX11_points_11 : decode cX11_points 11 = .ok (.bipush (-2), 2) := by decide +kernel
theorem dX11_points_13 : decode cX11_points 13 = .ok (.ireturn, 1) := by decide +kernel
theorem dX11_points_14 : decode cX11_points 14 = .ok (.iload_n 1, 1) := by decide +kernel
theorem dX11_points_15 : decode cX11_points 15 = .ok (.bipush 12, 2) := by decide +kernel
theorem dX11_points_17 : decode cX11_points 17 = .ok (.aload_n 0, 1) := by decide +kernel
theorem dX11_points_18 : decode cX11_points 18 = .ok (.getfield 12, 3) := by decide +kernel
theorem dX11_points_2 : decode cX11_points 2 = .ok (.if_icmp .lt 9, 3) := by decide +kernel
theorem dX11_points_21 : decode cX11_points 21 = .ok (.getfield 97, 3) := by decide +kernel
theorem dX11_points_24 : decode cX11_points 24 = .ok (.isub, 1) := by decide +kernel
theorem dX11_points_25 : decode cX11_points 25 = .ok (.if_icmp .le 6, 3) := by decide +kernel
theorem dX11_points_31 : decode cX11_points 31 = .ok (.aload_n 0, 1) := by decide +kernel
theorem dX11_points_32 : decode cX11_points 32 = .ok (.getfield 12, 3) := by decide +kernel
theorem dX11_points_35 : decode cX11_points 35 = .ok (.iload_n 1, 1) := by decide +kernel
theorem dX11_points_36 : decode cX11_points 36 = .ok (.invokevirtual 101, 3) := by decide +kernel
theorem dX11_points_39 : decode cX11_points 39 = .ok (.aload_n 0, 1) := by decide +kernel
theorem dX11_points_40 : decode cX11_points 40 = .ok (.getfield 12, 3) := by decide +kernel
theorem dX11_points_43 : decode cX11_points 43 = .ok (.getfield 97, 3) := by decide +kernel
theorem dX11_points_46 : decode cX11_points 46 = .ok (.ireturn, 1) := by decide +kernel
theorem dX11_points_5 : decode cX11_points 5 = .ok (.iload_n 1, 1) := by decide +kernel
theorem dX11_points_6 : decode cX11_points 6 = .ok (.bipush 12, 2) := by decide +kernel
theorem dX11_points_8 : decode cX11_points 8 = .ok (.if_icmp .le 6, 3) := by decide +kernel
theorem dX2_hasPoint_0 : decode cX2_hasPoint 0 = .ok (.iload_n 1, 1) := by decide +kernel
theorem dX2_hasPoint_1 : decode cX2_hasPoint 1 = .ok (.ifCond .lt 15, 3) := by decide +kernel
theorem dX2_hasPoint_16 : decode cX2_hasPoint 16 = .ok (.iconst 0, 1) := by decide +kernel
theorem dX2_hasPoint_17 : decode cX2_hasPoint 17 = .ok (.ireturn, 1) := by decide +kernel
theorem dX2_hasPoint_4 : decode cX2_hasPoint 4 = .ok (.iload_n 1, 1) := by decide +kernel
theorem dX2_hasPoint_5 : decode cX2_hasPoint 5 = .ok (.aload_n 0, 1) := by decide +kernel
theorem dX2_hasPoint_6 : decode cX2_hasPoint 6 = .ok (.getfield 15, 3) := by decide +kernel
theorem dX2_hasPoint_9 : decode cX2_hasPoint 9 = .ok (.if_icmp .ge 7, 3) := by decide +kernel
set_option maxRecDepth 20000 in
theorem ggX2_areTwo_X2_hasPoint : GoodIn wsX2_areTwo wsX2_hasPoint := goodIn_r _ [5, 6, 7, 8, 9] (by decide +kernel) (by decide +kernel)
set_option maxRecDepth 20000 in
theorem gX2_areTwo_X2_hasPoint : GoodIn wsX2_areTwo (wsV RX2 23 RX2 yX2_hasPoint wsX2_hasPoint) := goodIn_app (goodIn_of _ (by decide +kernel)) ggX2_areTwo_X2_hasPoint
theorem dX2_areTwo_0 : decode cX2_areTwo 0 = .ok (.aload_n 0, 1) := by decide +kernel
theorem dX2_areTwo_1 : decode cX2_areTwo 1 = .ok (.iload_n 1, 1) := by decide +kernel
theorem dX2_areTwo_2 : decode cX2_areTwo 2 = .ok (.invokevirtual 23, 3) := by decide +kernel
theorem dX2_areTwo_25 : decode cX2_areTwo 25 = .ok (.iconst 0, 1) := by decide +kernel
theorem dX2_areTwo_26 : decode cX2_areTwo 26 = .ok (.ireturn, 1) := by decide +kernel
theorem dX2_areTwo_5 : decode cX2_areTwo 5 = .ok (.ifCond .eq 20, 3) := by decide +kernel
set_option maxRecDepth 20000 in
theorem ggX11_line_X2_areTwo : GoodIn wsX11_line wsX2_areTwo := goodIn_r _ [6, 7, 8, 9, 5, 10, 11, 39, 40, 41] (by decide +kernel) (by decide +kernel)
set_option maxRecDepth 20000 in
theorem gX11_line_X2_areTwo : GoodIn wsX11_line (wsV RX11 105 RX2 yX2_areTwo wsX2_areTwo) := goodIn_app (goodIn_of _ (by decide +kernel)) ggX11_line_X2_areTwo
theorem dX11_line_0 : decode cX11_line 0 = .ok (.aload_n 0, 1) := by decide +kernel
theorem dX11_line_1 : decode cX11_line 1 = .ok (.getfield 12, 3) := by decide +kernel
theorem dX11_line_21 : decode cX11_line 21 = .ok (.bipush (-2), 2) := by decide +kernel
theorem dX11_line_23 : decode cX11_line 23 = .ok (.ireturn, 1) := by decide +kernel
theorem dX11_line_4 : decode cX11_line 4 = .ok (.iload_n 1, 1) := by decide +kernel
theorem dX11_line_5 : decode cX11_line 5 = .ok (.iload_n 2, 1) := by decide +kernel
theorem dX11_line_6 : decode cX11_line 6 = .ok (.invokevirtual 105, 3) := by decide +kernel
theorem dX11_line_9 : decode cX11_line 9 = .ok (.ifCond .eq 12, 3) := by decide +kernel
set_option maxRecDepth 20000 in
theorem ggX11_next_X2_hasPoint : GoodIn wsX11_next wsX2_hasPoint := goodIn_r _ [6, 7, 30, 31, 32] (by decide +kernel) (by decide +kernel)
set_option maxRecDepth 20000 in
theorem gX11_next_X2_hasPoint : GoodIn wsX11_next (wsV RX11 116 RX2 yX2_hasPoint wsX2_hasPoint) := goodIn_app (goodIn_of _ (by decide +kernel)) ggX11_next_X2_hasPoint
theorem dX11_next_0 : decode cX11_next 0 = .ok (.aload_n 0, 1) := by decide +kernel
theorem dX11_next_1 : decode cX11_next 1 = .ok (.getfield 12, 3) := by decide +kernel
theorem dX11_next_22 : decode cX11_next 22 = .ok (.bipush (-2), 2) := by decide +kernel
theorem dX11_next_24 : decode cX11_next 24 = .ok (.ireturn, 1) := by decide +kernel
theorem dX11_next_4 : decode cX11_next 4 = .ok (.iload_n 1, 1) := by decide +kernel
theorem dX11_next_5 : decode cX11_next 5 = .ok (.invokevirtual 116, 3) := by decide +kernel
theorem dX11_next_8 : decode cX11_next 8 = .ok (.ifCond .eq 14, 3) := by decide +kernel
theorem dX2_lineCount_0 : decode cX2_lineCount 0 = .ok (.iconst 0, 1) := by decide +kernel
theorem dX2_lineCount_1 : decode cX2_lineCount 1 = .ok (.istore_n 1, 1) := by decide +kernel
theorem dX2_lineCount_2 : decode cX2_lineCount 2 = .ok (.iconst 0, 1) := by decide +kernel
theorem dX2_lineCount_3 : decode cX2_lineCount 3 = .ok (.istore_n 2, 1) := by decide +kernel
theorem dX2_lineCount_30 : decode cX2_lineCount 30 = .ok (.iload_n 1, 1) := by decide +kernel
theorem dX2_lineCount_31 : decode cX2_lineCount 31 = .ok (.iconst 2, 1) := by decide +kernel
theorem dX2_lineCount_32 : decode cX2_lineCount 32 = .ok (.idiv, 1) := by decide +kernel
theorem dX2_lineCount_33 : decode cX2_lineCount 33 = .ok (.ireturn, 1) := by decide +kernel
theorem dX2_lineCount_4 : decode cX2_lineCount 4 = .ok (.iload_n 2, 1) := by decide +kernel
theorem dX2_lineCount_5 : decode cX2_lineCount 5 = .ok (.aload_n 0, 1) := by decide +kernel
theorem dX2_lineCount_6 : decode cX2_lineCount 6 = .ok (.getfield 15, 3) := by decide +kernel
theorem dX2_lineCount_9 : decode cX2_lineCount 9 = .ok (.if_icmp .ge 21, 3) := by decide +kernel
theorem dX2_all_0 : decode cX2_all 0 = .ok (.iconst 1, 1) := by decide +kernel
theorem dX2_all_1 : decode cX2_all 1 = .ok (.aload_n 0, 1) := by decide +kernel
theorem dX2_all_2 : decode cX2_all 2 = .ok (.getfield 15, 3) := by decide +kernel
theorem dX2_all_5 : decode cX2_all 5 = .ok (.ishl, 1) := by decide +kernel
theorem dX2_all_6 : decode cX2_all 6 = .ok (.iconst 1, 1) := by decide +kernel
theorem dX2_all_7 : decode cX2_all 7 = .ok (.isub, 1) := by decide +kernel
theorem dX2_all_8 : decode cX2_all 8 = .ok (.ireturn, 1) := by decide +kernel
theorem dX3_notice_0 : decode cX3_notice 0 = .ok (.aload_n 0, 1) := by decide +kernel
theorem dX3_notice_1 : decode cX3_notice 1 = .ok (.getfield 27, 3) := by decide +kernel
theorem dX3_notice_11 : decode cX3_notice 11 = .ok (.if_icmp .eq 28, 3) := by decide +kernel
theorem dX3_notice_39 : decode cX3_notice 39 = .ok (.return_, 1) := by decide +kernel
theorem dX3_notice_4 : decode cX3_notice 4 = .ok (.aload_n 0, 1) := by decide +kernel
theorem dX3_notice_5 : decode cX3_notice 5 = .ok (.getfield 23, 3) := by decide +kernel
theorem dX3_notice_8 : decode cX3_notice 8 = .ok (.getfield 31, 3) := by decide +kernel
theorem dJ6_numberOfLeadingZeros_0f7a4_0 : decode cJ6_numberOfLeadingZeros_0f7a4 0 = .ok (.iload_n 0, 1) := by decide +kernel
theorem dJ6_numberOfLeadingZeros_0f7a4_1 : decode cJ6_numberOfLeadingZeros_0f7a4 1 = .ok (.ifCond .gt 14, 3) := by decide +kernel
theorem dJ6_numberOfLeadingZeros_0f7a4_10 : decode cJ6_numberOfLeadingZeros_0f7a4 10 = .ok (.goto 4, 3) := by decide +kernel
theorem dJ6_numberOfLeadingZeros_0f7a4_14 : decode cJ6_numberOfLeadingZeros_0f7a4 14 = .ok (.ireturn, 1) := by decide +kernel
theorem dJ6_numberOfLeadingZeros_0f7a4_4 : decode cJ6_numberOfLeadingZeros_0f7a4 4 = .ok (.iload_n 0, 1) := by decide +kernel
theorem dJ6_numberOfLeadingZeros_0f7a4_5 : decode cJ6_numberOfLeadingZeros_0f7a4 5 = .ok (.ifCond .ne 8, 3) := by decide +kernel
theorem dJ6_numberOfLeadingZeros_0f7a4_8 : decode cJ6_numberOfLeadingZeros_0f7a4 8 = .ok (.bipush 32, 2) := by decide +kernel
set_option maxRecDepth 20000 in
theorem ggX3_bestOf_J6_numberOfLeadingZeros_0f7a4 : GoodIn wsX3_bestOf wsJ6_numberOfLeadingZeros_0f7a4 := goodIn_r _ [6, 7] (by decide +kernel) (by decide +kernel)
set_option maxRecDepth 20000 in
theorem gX3_bestOf_J6_numberOfLeadingZeros_0f7a4 : GoodIn wsX3_bestOf (va_wsS RX3 55 yJ6_numberOfLeadingZeros_0f7a4 wsJ6_numberOfLeadingZeros_0f7a4) := goodIn_app (goodIn_of _ (by decide +kernel)) ggX3_bestOf_J6_numberOfLeadingZeros_0f7a4
theorem dX3_bestOf_0 : decode cX3_bestOf 0 = .ok (.bipush 31, 2) := by decide +kernel
theorem dX3_bestOf_10 : decode cX3_bestOf 10 = .ok (.if_icmp .lt 15, 3) := by decide +kernel
theorem dX3_bestOf_2 : decode cX3_bestOf 2 = .ok (.iload_n 1, 1) := by decide +kernel
theorem dX3_bestOf_25 : decode cX3_bestOf 25 = .ok (.iconst 0, 1) := by decide +kernel
theorem dX3_bestOf_26 : decode cX3_bestOf 26 = .ok (.ireturn, 1) := by decide +kernel
theorem dX3_bestOf_3 : decode cX3_bestOf 3 = .ok (.invokestatic 55, 3) := by decide +kernel
theorem dX3_bestOf_6 : decode cX3_bestOf 6 = .ok (.isub, 1) := by decide +kernel
theorem dX3_bestOf_7 : decode cX3_bestOf 7 = .ok (.istore_n 3, 1) := by decide +kernel
theorem dX3_bestOf_8 : decode cX3_bestOf 8 = .ok (.iload_n 3, 1) := by decide +kernel
theorem dX3_bestOf_9 : decode cX3_bestOf 9 = .ok (.iconst 1, 1) := by decide +kernel
set_option maxRecDepth 20000 in
theorem ggX3_best_X3_bestOf : GoodIn wsX3_best wsX3_bestOf := goodIn_r _ [20, 8, 7, 21, 22, 23, 24, 25, 26, 27, 28, 13, 29, 16, 15, 30, 17, 18, 19, 4, 31, 32, 33, 34, 35, 36, 37, 38, 39, 40, 41, 42, 43, 44, 45, 46, 47, 48, 49] (by decide +kernel) (by decide +kernel)
set_option maxRecDepth 20000 in
theorem gX3_best_X3_bestOf : GoodIn wsX3_best (wsV RX3 42 RX3 yX3_bestOf wsX3_bestOf) := goodIn_app (goodIn_of _ (by decide +kernel)) ggX3_best_X3_bestOf
set_option maxRecDepth 20000 in
theorem ggX3_best_X3_notice : GoodIn wsX3_best wsX3_notice := goodIn_r _ [5, 6, 7, 8, 9, 10, 11, 12, 13, 14, 15, 16, 41, 42, 43, 44, 45, 46, 47, 48, 49] (by decide +kernel) (by decide +kernel)
set_option maxRecDepth 20000 in
theorem gX3_best_X3_notice : GoodIn wsX3_best (wsV RX3 39 RX3 yX3_notice wsX3_notice) := goodIn_app (goodIn_of _ (by decide +kernel)) ggX3_best_X3_notice
theorem dX3_best_0 : decode cX3_best 0 = .ok (.aload_n 0, 1) := by decide +kernel
theorem dX3_best_1 : decode cX3_best 1 = .ok (.invokevirtual 39, 3) := by decide +kernel
theorem dX3_best_10 : decode cX3_best 10 = .ok (.ireturn, 1) := by decide +kernel
theorem dX3_best_4 : decode cX3_best 4 = .ok (.aload_n 0, 1) := by decide +kernel
theorem dX3_best_5 : decode cX3_best 5 = .ok (.iload_n 1, 1) := by decide +kernel
theorem dX3_best_6 : decode cX3_best 6 = .ok (.iconst 0, 1) := by decide +kernel
theorem dX3_best_7 : decode cX3_best 7 = .ok (.invokevirtual 42, 3) := by decide +kernel
theorem dJ6_bitCount_0f7a4_0 : decode cJ6_bitCount_0f7a4 0 = .ok (.iload_n 0, 1) := by decide +kernel
theorem dJ6_bitCount_0f7a4_1 : decode cJ6_bitCount_0f7a4 1 = .ok (.iload_n 0, 1) := by decide +kernel
theorem dJ6_bitCount_0f7a4_10 : decode cJ6_bitCount_0f7a4 10 = .ok (.iload_n 0, 1) := by decide +kernel
theorem dJ6_bitCount_0f7a4_11 : decode cJ6_bitCount_0f7a4 11 = .ok (.ldc_w 266, 3) := by decide +kernel
theorem dJ6_bitCount_0f7a4_14 : decode cJ6_bitCount_0f7a4 14 = .ok (.iand, 1) := by decide +kernel
theorem dJ6_bitCount_0f7a4_15 : decode cJ6_bitCount_0f7a4 15 = .ok (.iload_n 0, 1) := by decide +kernel
theorem dJ6_bitCount_0f7a4_16 : decode cJ6_bitCount_0f7a4 16 = .ok (.iconst 2, 1) := by decide +kernel
theorem dJ6_bitCount_0f7a4_17 : decode cJ6_bitCount_0f7a4 17 = .ok (.iushr, 1) := by decide +kernel
theorem dJ6_bitCount_0f7a4_18 : decode cJ6_bitCount_0f7a4 18 = .ok (.ldc_w 266, 3) := by decide +kernel
theorem dJ6_bitCount_0f7a4_2 : decode cJ6_bitCount_0f7a4 2 = .ok (.iconst 1, 1) := by decide +kernel
theorem dJ6_bitCount_0f7a4_21 : decode cJ6_bitCount_0f7a4 21 = .ok (.iand, 1) := by decide +kernel
theorem dJ6_bitCount_0f7a4_22 : decode cJ6_bitCount_0f7a4 22 = .ok (.iadd, 1) := by decide +kernel
theorem dJ6_bitCount_0f7a4_23 : decode cJ6_bitCount_0f7a4 23 = .ok (.istore_n 0, 1) := by decide +kernel
theorem dJ6_bitCount_0f7a4_24 : decode cJ6_bitCount_0f7a4 24 = .ok (.iload_n 0, 1) := by decide +kernel
theorem dJ6_bitCount_0f7a4_25 : decode cJ6_bitCount_0f7a4 25 = .ok (.iload_n 0, 1) := by decide +kernel
theorem dJ6_bitCount_0f7a4_26 : decode cJ6_bitCount_0f7a4 26 = .ok (.iconst 4, 1) := by decide +kernel
theorem dJ6_bitCount_0f7a4_27 : decode cJ6_bitCount_0f7a4 27 = .ok (.iushr, 1) := by decide +kernel
theorem dJ6_bitCount_0f7a4_28 : decode cJ6_bitCount_0f7a4 28 = .ok (.iadd, 1) := by decide +kernel
theorem dJ6_bitCount_0f7a4_29 : decode cJ6_bitCount_0f7a4 29 = .ok (.ldc_w 267, 3) := by decide +kernel
theorem dJ6_bitCount_0f7a4_3 : decode cJ6_bitCount_0f7a4 3 = .ok (.iushr, 1) := by decide +kernel
theorem dJ6_bitCount_0f7a4_32 : decode cJ6_bitCount_0f7a4 32 = .ok (.iand, 1) := by decide +kernel
theorem dJ6_bitCount_0f7a4_33 : decode cJ6_bitCount_0f7a4 33 = .ok (.istore_n 0, 1) := by decide +kernel
theorem dJ6_bitCount_0f7a4_34 : decode cJ6_bitCount_0f7a4 34 = .ok (.iload_n 0, 1) := by decide +kernel
theorem dJ6_bitCount_0f7a4_35 : decode cJ6_bitCount_0f7a4 35 = .ok (.iload_n 0, 1) := by decide +kernel
theorem dJ6_bitCount_0f7a4_36 : decode cJ6_bitCount_0f7a4 36 = .ok (.bipush 8, 2) := by decide +kernel
theorem dJ6_bitCount_0f7a4_38 : decode cJ6_bitCount_0f7a4 38 = .ok (.iushr, 1) := by decide +kernel
theorem dJ6_bitCount_0f7a4_39 : decode cJ6_bitCount_0f7a4 39 = .ok (.iadd, 1) := by decide +kernel
theorem dJ6_bitCount_0f7a4_4 : decode cJ6_bitCount_0f7a4 4 = .ok (.ldc_w 265, 3) := by decide +kernel
theorem dJ6_bitCount_0f7a4_40 : decode cJ6_bitCount_0f7a4 40 = .ok (.istore_n 0, 1) := by decide +kernel
theorem dJ6_bitCount_0f7a4_41 : decode cJ6_bitCount_0f7a4 41 = .ok (.iload_n 0, 1) := by decide +kernel
theorem dJ6_bitCount_0f7a4_42 : decode cJ6_bitCount_0f7a4 42 = .ok (.iload_n 0, 1) := by decide +kernel
theorem dJ6_bitCount_0f7a4_43 : decode cJ6_bitCount_0f7a4 43 = .ok (.bipush 16, 2) := by decide +kernel
theorem dJ6_bitCount_0f7a4_45 : decode cJ6_bitCount_0f7a4 45 = .ok (.iushr, 1) := by decide +kernel
theorem dJ6_bitCount_0f7a4_46 : decode cJ6_bitCount_0f7a4 46 = .ok (.iadd, 1) := by decide +kernel
theorem dJ6_bitCount_0f7a4_47 : decode cJ6_bitCount_0f7a4 47 = .ok (.istore_n 0, 1) := by decide +kernel
theorem dJ6_bitCount_0f7a4_48 : decode cJ6_bitCount_0f7a4 48 = .ok (.iload_n 0, 1) := by decide +kernel
theorem dJ6_bitCount_0f7a4_49 : decode cJ6_bitCount_0f7a4 49 = .ok (.bipush 63, 2) := by decide +kernel
theorem dJ6_bitCount_0f7a4_51 : decode cJ6_bitCount_0f7a4 51 = .ok (.iand, 1) := by decide +kernel
theorem dJ6_bitCount_0f7a4_52 : decode cJ6_bitCount_0f7a4 52 = .ok (.ireturn, 1) := by decide +kernel
theorem dJ6_bitCount_0f7a4_7 : decode cJ6_bitCount_0f7a4 7 = .ok (.iand, 1) := by decide +kernel
theorem dJ6_bitCount_0f7a4_8 : decode cJ6_bitCount_0f7a4 8 = .ok (.isub, 1) := by decide +kernel
theorem dJ6_bitCount_0f7a4_9 : decode cJ6_bitCount_0f7a4 9 = .ok (.istore_n 0, 1) := by decide +kernel
set_option maxRecDepth 20000 in
theorem ggX3_lack_J6_bitCount_0f7a4 : GoodIn wsX3_lack wsJ6_bitCount_0f7a4 := goodIn_r _ [4, 5, 6, 7] (by decide +kernel) (by decide +kernel)
set_option maxRecDepth 20000 in
theorem gX3_lack_J6_bitCount_0f7a4 : GoodIn wsX3_lack (va_wsS RX3 46 yJ6_bitCount_0f7a4 wsJ6_bitCount_0f7a4) := goodIn_app (goodIn_of _ (by decide +kernel)) ggX3_lack_J6_bitCount_0f7a4
set_option maxRecDepth 20000 in
theorem ggX3_lack_X3_best : GoodIn wsX3_lack wsX3_best := goodIn_r _ [12, 13, 14, 15, 11, 16, 17, 18, 19, 20, 21, 22, 23, 24, 25, 26, 27, 28, 29, 30, 31, 32, 33, 3, 34, 35, 36, 37, 38, 39, 40, 1, 2, 4, 5, 6, 7, 41, 42, 43, 44, 45, 46, 47, 48, 49, 50, 51, 52, 53] (by decide +kernel) (by decide +kernel)
set_option maxRecDepth 20000 in
theorem gX3_lack_X3_best : GoodIn wsX3_lack (wsV RX3 52 RX3 yX3_best wsX3_best) := goodIn_app (goodIn_of _ (by decide +kernel)) ggX3_lack_X3_best
theorem dX3_lack_0 : decode cX3_lack 0 = .ok (.iload_n 1, 1) := by decide +kernel
theorem dX3_lack_1 : decode cX3_lack 1 = .ok (.invokestatic 46, 3) := by decide +kernel
theorem dX3_lack_10 : decode cX3_lack 10 = .ok (.imul, 1) := by decide +kernel
theorem dX3_lack_11 : decode cX3_lack 11 = .ok (.isub, 1) := by decide +kernel
theorem dX3_lack_12 : decode cX3_lack 12 = .ok (.ireturn, 1) := by decide +kernel
theorem dX3_lack_4 : decode cX3_lack 4 = .ok (.iconst 2, 1) := by decide +kernel
theorem dX3_lack_5 : decode cX3_lack 5 = .ok (.aload_n 0, 1) := by decide +kernel
theorem dX3_lack_6 : decode cX3_lack 6 = .ok (.iload_n 1, 1) := by decide +kernel
theorem dX3_lack_7 : decode cX3_lack 7 = .ok (.invokevirtual 52, 3) := by decide +kernel
set_option maxRecDepth 20000 in
theorem ggX2_pieceCount_X2_all : GoodIn wsX2_pieceCount wsX2_all := goodIn_r _ [6, 7, 19, 20, 21] (by decide +kernel) (by decide +kernel)
set_option maxRecDepth 20000 in
theorem gX2_pieceCount_X2_all : GoodIn wsX2_pieceCount (wsV RX2 19 RX2 yX2_all wsX2_all) := goodIn_app (goodIn_of _ (by decide +kernel)) ggX2_pieceCount_X2_all
theorem dX2_pieceCount_0 : decode cX2_pieceCount 0 = .ok (.iload_n 1, 1) := by decide +kernel
theorem dX2_pieceCount_1 : decode cX2_pieceCount 1 = .ok (.aload_n 0, 1) := by decide +kernel
theorem dX2_pieceCount_10 : decode cX2_pieceCount 10 = .ok (.istore 4, 2) := by decide +kernel
theorem dX2_pieceCount_12 : decode cX2_pieceCount 12 = .ok (.iload 4, 2) := by decide +kernel
theorem dX2_pieceCount_14 : decode cX2_pieceCount 14 = .ok (.bipush 12, 2) := by decide +kernel
theorem dX2_pieceCount_16 : decode cX2_pieceCount 16 = .ok (.if_icmp .ge 29, 3) := by decide +kernel
theorem dX2_pieceCount_19 : decode cX2_pieceCount 19 = .ok (.iload_n 2, 1) := by decide +kernel
theorem dX2_pieceCount_2 : decode cX2_pieceCount 2 = .ok (.invokevirtual 19, 3) := by decide +kernel
theorem dX2_pieceCount_20 : decode cX2_pieceCount 20 = .ok (.ifCond .eq 25, 3) := by decide +kernel
theorem dX2_pieceCount_45 : decode cX2_pieceCount 45 = .ok (.iload_n 3, 1) := by decide +kernel
theorem dX2_pieceCount_46 : decode cX2_pieceCount 46 = .ok (.ireturn, 1) := by decide +kernel
theorem dX2_pieceCount_5 : decode cX2_pieceCount 5 = .ok (.iand, 1) := by decide +kernel
theorem dX2_pieceCount_6 : decode cX2_pieceCount 6 = .ok (.istore_n 2, 1) := by decide +kernel
theorem dX2_pieceCount_7 : decode cX2_pieceCount 7 = .ok (.iconst 0, 1) := by decide +kernel
theorem dX2_pieceCount_8 : decode cX2_pieceCount 8 = .ok (.istore_n 3, 1) := by decide +kernel
theorem dX2_pieceCount_9 : decode cX2_pieceCount 9 = .ok (.iconst 0, 1) := by decide +kernel
set_option maxRecDepth 20000 in
theorem ggX11_count_X2_all : GoodIn wsX11_count wsX2_all := goodIn_r _ [22, 10, 96, 97, 98] (by decide +kernel) (by decide +kernel)
set_option maxRecDepth 20000 in
theorem gX11_count_X2_all : GoodIn wsX11_count (wsV RX11 128 RX2 yX2_all wsX2_all) := goodIn_app (goodIn_of _ (by decide +kernel)) ggX11_count_X2_all
set_option maxRecDepth 20000 in
theorem ggX11_count_X2_lineCount : GoodIn wsX11_count wsX2_lineCount := goodIn_r _ [9, 10, 11, 12, 13, 14, 15, 16, 17, 18, 96, 97, 98] (by decide +kernel) (by decide +kernel)
set_option maxRecDepth 20000 in
theorem gX11_count_X2_lineCount : GoodIn wsX11_count (wsV RX11 124 RX2 yX2_lineCount wsX2_lineCount) := goodIn_app (goodIn_of _ (by decide +kernel)) ggX11_count_X2_lineCount
set_option maxRecDepth 20000 in
theorem ggX11_count_X2_pieceCount : GoodIn wsX11_count wsX2_pieceCount := goodIn_r _ [69, 11, 70, 20, 21, 8, 22, 10, 71, 72, 73, 74, 75, 14, 76, 77, 78, 79, 50, 96, 97, 98] (by decide +kernel) (by decide +kernel)
set_option maxRecDepth 20000 in
theorem gX11_count_X2_pieceCount : GoodIn wsX11_count (wsV RX11 137 RX2 yX2_pieceCount wsX2_pieceCount) := goodIn_app (goodIn_of _ (by decide +kernel)) ggX11_count_X2_pieceCount
set_option maxRecDepth 20000 in
theorem ggX11_count_X3_best : GoodIn wsX11_count wsX3_best := goodIn_r _ [27, 28, 29, 30, 26, 31, 32, 33, 34, 35, 36, 37, 38, 39, 40, 41, 42, 43, 44, 45, 46, 47, 48, 14, 49, 50, 51, 52, 53, 54, 55, 56, 13, 15, 16, 17, 18, 57, 58, 59, 60, 102, 103, 104, 105, 96, 97, 98, 106, 107] (by decide +kernel) (by decide +kernel)
set_option maxRecDepth 20000 in
theorem gX11_count_X3_best : GoodIn wsX11_count (wsV RX11 131 RX3 yX3_best wsX3_best) := goodIn_app (goodIn_of _ (by decide +kernel)) ggX11_count_X3_best
set_option maxRecDepth 20000 in
theorem ggX11_count_X3_lack : GoodIn wsX11_count wsX3_lack := goodIn_r _ [64, 56, 13, 14, 15, 16, 17, 18, 65, 24, 25, 26, 27, 28, 29, 30, 31, 32, 33, 34, 35, 36, 37, 38, 39, 40, 41, 42, 43, 44, 45, 46, 47, 48, 49, 50, 51, 52, 53, 54, 55, 57, 58, 59, 60, 102, 103, 104, 105, 96, 97, 98, 106, 107] (by decide +kernel) (by decide +kernel)
set_option maxRecDepth 20000 in
theorem gX11_count_X3_lack : GoodIn wsX11_count (wsV RX11 134 RX3 yX3_lack wsX3_lack) := goodIn_app (goodIn_of _ (by decide +kernel)) ggX11_count_X3_lack
theorem dX11_count_0 : decode cX11_count 0 = .ok (.iload_n 1, 1) := by decide +kernel
theorem dX11_count_1 : decode cX11_count 1 = .ok (.tableswitch 120 0 6 #[43, 51, 59, 74, 89, 104, 112], 43) := by decide +kernel
theorem dX11_count_101 : decode cX11_count 101 = .ok (.invokevirtual 137, 3) := by decide +kernel
theorem dX11_count_104 : decode cX11_count 104 = .ok (.ireturn, 1) := by decide +kernel
theorem dX11_count_105 : decode cX11_count 105 = .ok (.aload_n 0, 1) := by decide +kernel
theorem dX11_count_106 : decode cX11_count 106 = .ok (.getfield 60, 3) := by decide +kernel
theorem dX11_count_109 : decode cX11_count 109 = .ok (.getfield 140, 3) := by decide +kernel
theorem dX11_count_112 : decode cX11_count 112 = .ok (.ireturn, 1) := by decide +kernel
theorem dX11_count_113 : decode cX11_count 113 = .ok (.aload_n 0, 1) := by decide +kernel
theorem dX11_count_114 : decode cX11_count 114 = .ok (.getfield 53, 3) := by decide +kernel
theorem dX11_count_117 : decode cX11_count 117 = .ok (.getfield 141, 3) := by decide +kernel
theorem dX11_count_120 : decode cX11_count 120 = .ok (.ireturn, 1) := by decide +kernel
theorem dX11_count_121 : decode cX11_count 121 = .ok (.bipush (-2), 2) := by decide +kernel
theorem dX11_count_123 : decode cX11_count 123 = .ok (.ireturn, 1) := by decide +kernel
theorem dX11_count_44 : decode cX11_count 44 = .ok (.aload_n 0, 1) := by decide +kernel
theorem dX11_count_45 : decode cX11_count 45 = .ok (.getfield 12, 3) := by decide +kernel
theorem dX11_count_48 : decode cX11_count 48 = .ok (.getfield 97, 3) := by decide +kernel
theorem dX11_count_51 : decode cX11_count 51 = .ok (.ireturn, 1) := by decide +kernel
theorem dX11_count_52 : decode cX11_count 52 = .ok (.aload_n 0, 1) := by decide +kernel
theorem dX11_count_53 : decode cX11_count 53 = .ok (.getfield 12, 3) := by decide +kernel
theorem dX11_count_56 : decode cX11_count 56 = .ok (.invokevirtual 124, 3) := by decide +kernel
theorem dX11_count_59 : decode cX11_count 59 = .ok (.ireturn, 1) := by decide +kernel
theorem dX11_count_60 : decode cX11_count 60 = .ok (.aload_n 0, 1) := by decide +kernel
theorem dX11_count_61 : decode cX11_count 61 = .ok (.getfield 21, 3) := by decide +kernel
theorem dX11_count_64 : decode cX11_count 64 = .ok (.aload_n 0, 1) := by decide +kernel
theorem dX11_count_65 : decode cX11_count 65 = .ok (.getfield 12, 3) := by decide +kernel
theorem dX11_count_68 : decode cX11_count 68 = .ok (.invokevirtual 128, 3) := by decide +kernel
theorem dX11_count_71 : decode cX11_count 71 = .ok (.invokevirtual 131, 3) := by decide +kernel
theorem dX11_count_74 : decode cX11_count 74 = .ok (.ireturn, 1) := by decide +kernel
theorem dX11_count_75 : decode cX11_count 75 = .ok (.aload_n 0, 1) := by decide +kernel
theorem dX11_count_76 : decode cX11_count 76 = .ok (.getfield 21, 3) := by decide +kernel
theorem dX11_count_79 : decode cX11_count 79 = .ok (.aload_n 0, 1) := by decide +kernel
theorem dX11_count_80 : decode cX11_count 80 = .ok (.getfield 12, 3) := by decide +kernel
theorem dX11_count_83 : decode cX11_count 83 = .ok (.invokevirtual 128, 3) := by decide +kernel
theorem dX11_count_86 : decode cX11_count 86 = .ok (.invokevirtual 134, 3) := by decide +kernel
theorem dX11_count_89 : decode cX11_count 89 = .ok (.ireturn, 1) := by decide +kernel
theorem dX11_count_90 : decode cX11_count 90 = .ok (.aload_n 0, 1) := by decide +kernel
theorem dX11_count_91 : decode cX11_count 91 = .ok (.getfield 12, 3) := by decide +kernel
theorem dX11_count_94 : decode cX11_count 94 = .ok (.aload_n 0, 1) := by decide +kernel
theorem dX11_count_95 : decode cX11_count 95 = .ok (.getfield 12, 3) := by decide +kernel
theorem dX11_count_98 : decode cX11_count 98 = .ok (.invokevirtual 128, 3) := by decide +kernel
set_option maxRecDepth 20000 in
theorem ggX2_hasAll_X2_all : GoodIn wsX2_hasAll wsX2_all := goodIn_r _ [5, 6, 7, 8, 9] (by decide +kernel) (by decide +kernel)
set_option maxRecDepth 20000 in
theorem gX2_hasAll_X2_all : GoodIn wsX2_hasAll (wsV RX2 19 RX2 yX2_all wsX2_all) := goodIn_app (goodIn_of _ (by decide +kernel)) ggX2_hasAll_X2_all
theorem dX2_hasAll_0 : decode cX2_hasAll 0 = .ok (.iload_n 1, 1) := by decide +kernel
theorem dX2_hasAll_1 : decode cX2_hasAll 1 = .ok (.aload_n 0, 1) := by decide +kernel
theorem dX2_hasAll_11 : decode cX2_hasAll 11 = .ok (.iconst 1, 1) := by decide +kernel
theorem dX2_hasAll_12 : decode cX2_hasAll 12 = .ok (.goto 4, 3) := by decide +kernel
theorem dX2_hasAll_15 : decode cX2_hasAll 15 = .ok (.iconst 0, 1) := by decide +kernel
theorem dX2_hasAll_16 : decode cX2_hasAll 16 = .ok (.ireturn, 1) := by decide +kernel
theorem dX2_hasAll_2 : decode cX2_hasAll 2 = .ok (.invokevirtual 19, 3) := by decide +kernel
theorem dX2_hasAll_5 : decode cX2_hasAll 5 = .ok (.iconst (-1), 1) := by decide +kernel
theorem dX2_hasAll_6 : decode cX2_hasAll 6 = .ok (.ixor, 1) := by decide +kernel
theorem dX2_hasAll_7 : decode cX2_hasAll 7 = .ok (.iand, 1) := by decide +kernel
theorem dX2_hasAll_8 : decode cX2_hasAll 8 = .ok (.ifCond .ne 7, 3) := by decide +kernel
set_option maxRecDepth 20000 in
theorem ggX11_most_X2_hasAll : GoodIn wsX11_most wsX2_hasAll := goodIn_r _ [7, 8, 9, 10, 6, 11, 12, 73, 74, 75] (by decide +kernel) (by decide +kernel)
set_option maxRecDepth 20000 in
theorem gX11_most_X2_hasAll : GoodIn wsX11_most (wsV RX11 144 RX2 yX2_hasAll wsX2_hasAll) := goodIn_app (goodIn_of _ (by decide +kernel)) ggX11_most_X2_hasAll
set_option maxRecDepth 20000 in
theorem ggX11_most_X3_best : GoodIn wsX11_most wsX3_best := goodIn_r _ [17, 18, 19, 20, 16, 21, 22, 23, 24, 25, 26, 27, 28, 29, 30, 31, 32, 33, 34, 35, 36, 37, 38, 39, 40, 41, 42, 43, 44, 45, 46, 47, 48, 49, 50, 51, 52, 53, 54, 55, 56, 76, 77, 78, 79, 73, 74, 75, 80, 81] (by decide +kernel) (by decide +kernel)
set_option maxRecDepth 20000 in
theorem gX11_most_X3_best : GoodIn wsX11_most (wsV RX11 131 RX3 yX3_best wsX3_best) := goodIn_app (goodIn_of _ (by decide +kernel)) ggX11_most_X3_best
theorem dX11_most_0 : decode cX11_most 0 = .ok (.aload_n 0, 1) := by decide +kernel
theorem dX11_most_1 : decode cX11_most 1 = .ok (.getfield 12, 3) := by decide +kernel
theorem dX11_most_11 : decode cX11_most 11 = .ok (.aload_n 0, 1) := by decide +kernel
theorem dX11_most_12 : decode cX11_most 12 = .ok (.getfield 21, 3) := by decide +kernel
theorem dX11_most_15 : decode cX11_most 15 = .ok (.iload_n 1, 1) := by decide +kernel
theorem dX11_most_16 : decode cX11_most 16 = .ok (.invokevirtual 131, 3) := by decide +kernel
theorem dX11_most_19 : decode cX11_most 19 = .ok (.goto 5, 3) := by decide +kernel
theorem dX11_most_22 : decode cX11_most 22 = .ok (.bipush (-2), 2) := by decide +kernel
theorem dX11_most_24 : decode cX11_most 24 = .ok (.ireturn, 1) := by decide +kernel
theorem dX11_most_4 : decode cX11_most 4 = .ok (.iload_n 1, 1) := by decide +kernel
theorem dX11_most_5 : decode cX11_most 5 = .ok (.invokevirtual 144, 3) := by decide +kernel
theorem dX11_most_8 : decode cX11_most 8 = .ok (.ifCond .eq 14, 3) := by decide +kernel
set_option maxRecDepth 20000 in
theorem ggX11_mate_X2_hasPoint : GoodIn wsX11_mate wsX2_hasPoint := goodIn_r _ [7, 8, 98, 99, 100] (by decide +kernel) (by decide +kernel)
set_option maxRecDepth 20000 in
theorem gX11_mate_X2_hasPoint : GoodIn wsX11_mate (wsV RX11 116 RX2 yX2_hasPoint wsX2_hasPoint) := goodIn_app (goodIn_of _ (by decide +kernel)) ggX11_mate_X2_hasPoint
theorem dX11_mate_0 : decode cX11_mate 0 = .ok (.aload_n 0, 1) := by decide +kernel
theorem dX11_mate_1 : decode cX11_mate 1 = .ok (.getfield 12, 3) := by decide +kernel
theorem dX11_mate_11 : decode cX11_mate 11 = .ok (.bipush (-2), 2) := by decide +kernel
theorem dX11_mate_13 : decode cX11_mate 13 = .ok (.ireturn, 1) := by decide +kernel
theorem dX11_mate_4 : decode cX11_mate 4 = .ok (.iload_n 1, 1) := by decide +kernel
theorem dX11_mate_5 : decode cX11_mate 5 = .ok (.invokevirtual 116, 3) := by decide +kernel
theorem dX11_mate_8 : decode cX11_mate 8 = .ok (.ifCond .ne 6, 3) := by decide +kernel
theorem dX1_isBlank_0 : decode cX1_isBlank 0 = .ok (.aload_n 0, 1) := by decide +kernel
theorem dX1_isBlank_1 : decode cX1_isBlank 1 = .ok (.getfield 21, 3) := by decide +kernel
theorem dX1_isBlank_13 : decode cX1_isBlank 13 = .ok (.ireturn, 1) := by decide +kernel
theorem dX1_isBlank_4 : decode cX1_isBlank 4 = .ok (.arraylength, 1) := by decide +kernel
theorem dX1_isBlank_5 : decode cX1_isBlank 5 = .ok (.ifCond .ne 7, 3) := by decide +kernel
theorem dX1_isBlank_8 : decode cX1_isBlank 8 = .ok (.iconst 1, 1) := by decide +kernel
theorem dX1_isBlank_9 : decode cX1_isBlank 9 = .ok (.goto 4, 3) := by decide +kernel
theorem dX1_init_0 : decode cX1_init 0 = .ok (.aload_n 0, 1) := by decide +kernel
theorem dX1_init_1 : decode cX1_init 1 = .ok (.invokespecial 3, 3) := by decide +kernel
theorem dX1_init_10 : decode cX1_init 10 = .ok (.iload_n 1, 1) := by decide +kernel
theorem dX1_init_11 : decode cX1_init 11 = .ok (.iconst 0, 1) := by decide +kernel
theorem dX1_init_12 : decode cX1_init 12 = .ok (.invokestatic 15, 3) := by decide +kernel
theorem dX1_init_15 : decode cX1_init 15 = .ok (.newarray .int, 2) := by decide +kernel
theorem dX1_init_17 : decode cX1_init 17 = .ok (.putfield 21, 3) := by decide +kernel
theorem dX1_init_20 : decode cX1_init 20 = .ok (.return_, 1) := by decide +kernel
theorem dX1_init_4 : decode cX1_init 4 = .ok (.aload_n 0, 1) := by decide +kernel
theorem dX1_init_5 : decode cX1_init 5 = .ok (.iconst 1, 1) := by decide +kernel
theorem dX1_init_6 : decode cX1_init 6 = .ok (.putfield 9, 3) := by decide +kernel
theorem dX1_init_9 : decode cX1_init 9 = .ok (.aload_n 0, 1) := by decide +kernel
theorem dX3_numberOf_0 : decode cX3_numberOf 0 = .ok (.iload_n 2, 1) := by decide +kernel
theorem dX3_numberOf_1 : decode cX3_numberOf 1 = .ok (.ifCond .ne 5, 3) := by decide +kernel
theorem dX3_numberOf_4 : decode cX3_numberOf 4 = .ok (.iconst 1, 1) := by decide +kernel
theorem dX3_numberOf_5 : decode cX3_numberOf 5 = .ok (.ireturn, 1) := by decide +kernel
set_option maxRecDepth 20000 in
theorem ggX3_number_X1_init : GoodIn wsX3_number wsX1_init := goodIn_r _ [25, 26, 27, 28, 17, 29, 30, 31, 32, 33, 18, 62, 63] (by decide +kernel) (by decide +kernel)
set_option maxRecDepth 20000 in
theorem gX3_number_X1_init : GoodIn wsX3_number (wsX1_init) := ggX3_number_X1_init
set_option maxRecDepth 20000 in
theorem ggX3_number_X1_isBlank : GoodIn wsX3_number wsX1_isBlank := goodIn_r _ [22, 18, 62, 63] (by decide +kernel) (by decide +kernel)
set_option maxRecDepth 20000 in
theorem gX3_number_X1_isBlank : GoodIn wsX3_number (wsV RX3 69 RX1 yX1_isBlank wsX1_isBlank) := goodIn_app (goodIn_of _ (by decide +kernel)) ggX3_number_X1_isBlank
set_option maxRecDepth 20000 in
theorem ggX3_number_X3_notice : GoodIn wsX3_number wsX3_notice := goodIn_r _ [9, 10, 11, 12, 1, 13, 14, 15, 4, 16, 17, 18, 58, 59, 60, 61, 64, 65, 66, 62, 63] (by decide +kernel) (by decide +kernel)
set_option maxRecDepth 20000 in
theorem gX3_number_X3_notice : GoodIn wsX3_number (wsV RX3 39 RX3 yX3_notice wsX3_notice) := goodIn_app (goodIn_of _ (by decide +kernel)) ggX3_number_X3_notice
set_option maxRecDepth 20000 in
theorem ggX3_number_X3_numberOf : GoodIn wsX3_number wsX3_numberOf := goodIn_r _ [37, 1, 11, 38, 39, 40, 41, 42, 43, 44, 45, 46, 47, 48, 49, 50, 51, 4, 52, 18, 17, 53, 34, 35, 36, 8, 54, 55, 56, 57, 58, 59, 60, 61, 64, 65, 66, 62, 63] (by decide +kernel) (by decide +kernel)
set_option maxRecDepth 20000 in
theorem gX3_number_X3_numberOf : GoodIn wsX3_number (wsV RX3 73 RX3 yX3_numberOf wsX3_numberOf) := goodIn_app (goodIn_of _ (by decide +kernel)) ggX3_number_X3_numberOf
theorem dX3_number_0 : decode cX3_number 0 = .ok (.aload_n 0, 1) := by decide +kernel
theorem dX3_number_1 : decode cX3_number 1 = .ok (.invokevirtual 39, 3) := by decide +kernel
theorem dX3_number_11 : decode cX3_number 11 = .ok (.ifCond .eq 17, 3) := by decide +kernel
theorem dX3_number_14 : decode cX3_number 14 = .ok (.aload_n 0, 1) := by decide +kernel
theorem dX3_number_15 : decode cX3_number 15 = .ok (.new 9, 3) := by decide +kernel
theorem dX3_number_18 : decode cX3_number 18 = .ok (.dup, 1) := by decide +kernel
theorem dX3_number_19 : decode cX3_number 19 = .ok (.sipush 24576, 3) := by decide +kernel
theorem dX3_number_22 : decode cX3_number 22 = .ok (.invokespecial 11, 3) := by decide +kernel
theorem dX3_number_25 : decode cX3_number 25 = .ok (.putfield 20, 3) := by decide +kernel
theorem dX3_number_28 : decode cX3_number 28 = .ok (.aload_n 0, 1) := by decide +kernel
theorem dX3_number_29 : decode cX3_number 29 = .ok (.iload_n 1, 1) := by decide +kernel
theorem dX3_number_30 : decode cX3_number 30 = .ok (.iload_n 2, 1) := by decide +kernel
theorem dX3_number_31 : decode cX3_number 31 = .ok (.iconst 0, 1) := by decide +kernel
theorem dX3_number_32 : decode cX3_number 32 = .ok (.invokevirtual 73, 3) := by decide +kernel
theorem dX3_number_35 : decode cX3_number 35 = .ok (.ireturn, 1) := by decide +kernel
theorem dX3_number_4 : decode cX3_number 4 = .ok (.aload_n 0, 1) := by decide +kernel
theorem dX3_number_5 : decode cX3_number 5 = .ok (.getfield 20, 3) := by decide +kernel
theorem dX3_number_8 : decode cX3_number 8 = .ok (.invokevirtual 69, 3) := by decide +kernel
set_option maxRecDepth 20000 in
theorem ggX3_numberOf_J6_bitCount_0f7a4 : GoodIn wsX3_numberOf wsJ6_bitCount_0f7a4 := goodIn_r _ [10, 11, 12, 13] (by decide +kernel) (by decide +kernel)
set_option maxRecDepth 20000 in
theorem gX3_numberOf_J6_bitCount_0f7a4 : GoodIn wsX3_numberOf (va_wsS RX3 46 yJ6_bitCount_0f7a4 wsJ6_bitCount_0f7a4) := goodIn_app (goodIn_of _ (by decide +kernel)) ggX3_numberOf_J6_bitCount_0f7a4
set_option maxRecDepth 20000 in
theorem ggX3_numberOf_J6_numberOfLeadingZeros_0f7a4 : GoodIn wsX3_numberOf wsJ6_numberOfLeadingZeros_0f7a4 := goodIn_r _ [6, 7] (by decide +kernel) (by decide +kernel)
set_option maxRecDepth 20000 in
theorem gX3_numberOf_J6_numberOfLeadingZeros_0f7a4 : GoodIn wsX3_numberOf (va_wsS RX3 55 yJ6_numberOfLeadingZeros_0f7a4 wsJ6_numberOfLeadingZeros_0f7a4) := goodIn_app (goodIn_of _ (by decide +kernel)) ggX3_numberOf_J6_numberOfLeadingZeros_0f7a4
theorem dX3_numberOf_12 : decode cX3_numberOf 12 = .ok (.isub, 1) := by decide +kernel
theorem dX3_numberOf_13 : decode cX3_numberOf 13 = .ok (.istore 4, 2) := by decide +kernel
theorem dX3_numberOf_15 : decode cX3_numberOf 15 = .ok (.iload_n 2, 1) := by decide +kernel
theorem dX3_numberOf_16 : decode cX3_numberOf 16 = .ok (.ifCond .lt 26, 3) := by decide +kernel
theorem dX3_numberOf_19 : decode cX3_numberOf 19 = .ok (.iconst 2, 1) := by decide +kernel
theorem dX3_numberOf_20 : decode cX3_numberOf 20 = .ok (.iload_n 2, 1) := by decide +kernel
theorem dX3_numberOf_21 : decode cX3_numberOf 21 = .ok (.imul, 1) := by decide +kernel
theorem dX3_numberOf_22 : decode cX3_numberOf 22 = .ok (.iload_n 1, 1) := by decide +kernel
theorem dX3_numberOf_23 : decode cX3_numberOf 23 = .ok (.invokestatic 46, 3) := by decide +kernel
theorem dX3_numberOf_26 : decode cX3_numberOf 26 = .ok (.if_icmp .gt 16, 3) := by decide +kernel
theorem dX3_numberOf_42 : decode cX3_numberOf 42 = .ok (.iconst 0, 1) := by decide +kernel
theorem dX3_numberOf_43 : decode cX3_numberOf 43 = .ok (.ireturn, 1) := by decide +kernel
theorem dX3_numberOf_6 : decode cX3_numberOf 6 = .ok (.bipush 31, 2) := by decide +kernel
theorem dX3_numberOf_8 : decode cX3_numberOf 8 = .ok (.iload_n 1, 1) := by decide +kernel
theorem dX3_numberOf_9 : decode cX3_numberOf 9 = .ok (.invokestatic 55, 3) := by decide +kernel
set_option maxHeartbeats 4000000 in
set_option maxRecDepth 100000 in
theorem c_X12_wrongAt_0 (l : Launch) (D : va_G) (cI cS : ClassId) (h0 h1 h2 h3 h4 h5 h6 h7 h8 h9 h10 h11 h12 h13 h14 h15 : Nat) (x0 x1 : Int32) : Met l yX12_wrongAt wsX12_wrongAt ({ frames := 2, cells := 0, slots := 0, locals := 80 }) (PS D cI cS [(h0, .inr (12, [.int 0, .int 1, .ref h1, .ref h2, .ref h3, .ref h4, .ref h5, .ref h6, .ref h7, .ref h8, .int 0, .int 0, .int 0, .int 0, .int 0, .int 0, .ref h9, .ref h10, .ref h11, .ref h12, .ref h13, .ref h14, .ref h15, .int 0])), (h9, .inl (cI, 4, .inl (fun _ => -1)))] [.ref h0, .int x0, .int x1]) (vp_Si (fun r => r = if x0 < 0 then ((-2) : Int32) else (if (3 : Int32) < x0 then ((-2) : Int32) else ((-11) : Int32)))) 0 0 (fun _ => False) := by
  refine Met.ofW (cc := cX12_wrongAt) (maxL := 3) (ret := (some .int)) (by decide) rfl ?_
  intro p e s m args below meth c s₁ B hml hv
  obtain ⟨rfl, hP, hKK⟩ := hv
  have hx := B.exec
  have hb := B.bytes
  have hr := B.returns
  have hts := atoms_spec (ws := wsX12_wrongAt) B.pre
  have hown : s.vm.findClass RX12 = some m.cls := findClass_of_methodNamed B.named
  have hlocks := B.notSynchronized
  have hK := hKK.1
  have hN := hKK.2
  have hin12 : ∀ w ∈ wsX120, w ∈ wsX12_wrongAt := by decide +kernel
  have hl := lv_entry ([.ref h0, .int x0, .int x1]) (n := 3) (Nat.le_of_ble_eq_true rfl)
  rw [lg_entry_eq]
  generalize (lg_sl ([.ref h0, .int x0, .int x1]) ++ List.replicate (3 - (lg_sl ([.ref h0, .int x0, .int x1])).length) Slot.unset).toArray = ls at hl ⊢
  have hl : lv_has ls 3 [(0, .ref h0), (1, .int x0), (2, .int x1)] := hl
  refine lv_iload_n hx hb dX12_wrongAt_0 rfl (lv_at hl 1 rfl) ?_
  have hPc := hP.sub (ws' := []) [] rfl
  refine lz_ss (As := [.int x0]) (rest := []) ⟨hx, hb, hml, hown, hts⟩ (c_X12_isSheet_0 l D cI cS x0) hKK hPc (va_cwS 1 hts gX12_wrongAt_X12_isSheet rfl rfl rfl (by decide +kernel) ⟨Nat.le_of_ble_eq_true rfl, Nat.le_of_ble_eq_true rfl⟩) rfl hl.1 rfl (Nat.le_of_ble_eq_true rfl) dX12_wrongAt_1 ⟨Nat.le_of_ble_eq_true rfl, Nat.le_of_ble_eq_true rfl⟩ (fun r2460 hw => ?_)
  by_cases k2461 : x0 < 0
  · rw [if_pos k2461] at hw
    subst hw
    refine lv_if_ne (tgt := 12) hx hb dX12_wrongAt_4 (by decide) (fun c2462 => ?_) (fun c2462 => ?_)
    · exact absurd c2462 (by decide)
    · refine lv_bipush (v := (-2)) hx hb dX12_wrongAt_7 (by decide) ?_
      refine lv_goto (tgt := 49) hx hb dX12_wrongAt_9 (by decide) ?_
      exact W.iret (v := (-2)) hx hb hr (fun t ht hW => ⟨_, rfl, by rw [if_pos k2461], ht⟩) (fun q hq => absurd hq List.not_mem_nil) dX12_wrongAt_49
  · rw [if_neg k2461] at hw
    by_cases k2463 : (3 : Int32) < x0
    · rw [if_pos k2463] at hw
      subst hw
      refine lv_if_ne (tgt := 12) hx hb dX12_wrongAt_4 (by decide) (fun c2464 => ?_) (fun c2464 => ?_)
      · exact absurd c2464 (by decide)
      · refine lv_bipush (v := (-2)) hx hb dX12_wrongAt_7 (by decide) ?_
        refine lv_goto (tgt := 49) hx hb dX12_wrongAt_9 (by decide) ?_
        exact W.iret (v := (-2)) hx hb hr (fun t ht hW => ⟨_, rfl, by rw [if_neg k2461, if_pos k2463], ht⟩) (fun q hq => absurd hq List.not_mem_nil) dX12_wrongAt_49
    · rw [if_neg k2463] at hw
      subst hw
      refine lv_if_ne (tgt := 12) hx hb dX12_wrongAt_4 (by decide) (fun c2465 => ?_) (fun c2465 => ?_)
      · refine lv_aload_n hx hb dX12_wrongAt_12 rfl (lv_at hl 0 rfl) ?_
        refine va_get (D := D) (ci := 12) (v := .ref h9) (C := RX12) (T := TX12) (N := 24) hx hb hts hin12 hown hK hP 0 rfl rfl 16 (by decide) (hts (.fieldLink RX12 38 "MissedPointsModel" "sort" "[I") (by decide +kernel)) (fun _ h9 => h9) rfl dX12_wrongAt_13 ?_
        refine lv_iload_n hx hb dX12_wrongAt_16 rfl (lv_at hl 1 rfl) ?_
        refine va_iald hx hb hK hP 1 0 rfl rfl (lz_vp (x := x0) (n := 4) (by have zf1 := mt (lz_lt x0 (0 : Int32)).mpr k2461; have zf2 := mt (lz_lt (3 : Int32) x0).mpr k2463; have zn0 : (0 : Int32).toInt = 0 := (by decide); have zn1 : (3 : Int32).toInt = 3 := (by decide); omega) (by have zf1 := mt (lz_lt x0 (0 : Int32)).mpr k2461; have zf2 := mt (lz_lt (3 : Int32) x0).mpr k2463; have zn0 : (0 : Int32).toInt = 0 := (by decide); have zn1 : (3 : Int32).toInt = 3 := (by decide); omega)) dX12_wrongAt_17 ?_
        refine lz_top (y := (-1)) rfl ?_
        refine lv_iconst (v := (-1)) hx hb dX12_wrongAt_18 (by decide) ?_
        refine lv_icmp_ne (tgt := 27) hx hb dX12_wrongAt_19 (by decide) (fun c2466 => ?_) (fun c2466 => ?_)
        · exact absurd c2466 (by decide)
        · refine lv_bipush (v := (-11)) hx hb dX12_wrongAt_22 (by decide) ?_
          refine lv_goto (tgt := 49) hx hb dX12_wrongAt_24 (by decide) ?_
          exact W.iret (v := (-11)) hx hb hr (fun t ht hW => ⟨_, rfl, by rw [if_neg k2461, if_neg k2463], ht⟩) (fun q hq => absurd hq List.not_mem_nil) dX12_wrongAt_49
      · exact absurd c2465 (by decide)
set_option maxHeartbeats 4000000 in
set_option maxRecDepth 100000 in
theorem c_X12_write_0 (l : Launch) (D : va_G) (cI cS : ClassId) (h0 h1 h2 h3 h4 h5 h6 h7 h8 h9 h10 h11 h12 h13 h14 h15 : Nat) (x0 x1 x2 : Int32) : Met l yX12_write wsX12_write ({ frames := 3, cells := 0, slots := 0, locals := 120 }) (PS D cI cS [(h0, .inr (12, [.int 0, .int 1, .ref h1, .ref h2, .ref h3, .ref h4, .ref h5, .ref h6, .ref h7, .ref h8, .int 0, .int 0, .int 0, .int 0, .int 0, .int 0, .ref h9, .ref h10, .ref h11, .ref h12, .ref h13, .ref h14, .ref h15, .int 0])), (h9, .inl (cI, 4, .inl (fun _ => -1)))] [.ref h0, .int x0, .int x1, .int x2]) (vp_Si (fun r => r = if x0 < 0 then ((-2) : Int32) else (if (3 : Int32) < x0 then ((-2) : Int32) else ((-11) : Int32)))) 0 0 (fun _ => False) := by
  refine Met.ofW (cc := cX12_write) (maxL := 5) (ret := (some .int)) (by decide) rfl ?_
  intro p e s m args below meth c s₁ B hml hv
  obtain ⟨rfl, hP, hKK⟩ := hv
  have hx := B.exec
  have hb := B.bytes
  have hr := B.returns
  have hts := atoms_spec (ws := wsX12_write) B.pre
  have hown : s.vm.findClass RX12 = some m.cls := findClass_of_methodNamed B.named
  have hlocks := B.notSynchronized
  have hK := hKK.1
  have hN := hKK.2
  have hl := lv_entry ([.ref h0, .int x0, .int x1, .int x2]) (n := 5) (Nat.le_of_ble_eq_true rfl)
  rw [lg_entry_eq]
  generalize (lg_sl ([.ref h0, .int x0, .int x1, .int x2]) ++ List.replicate (5 - (lg_sl ([.ref h0, .int x0, .int x1, .int x2])).length) Slot.unset).toArray = ls at hl ⊢
  have hl : lv_has ls 5 [(0, .ref h0), (1, .int x0), (2, .int x1), (3, .int x2)] := hl
  refine lv_aload_n hx hb dX12_write_0 rfl (lv_at hl 0 rfl) ?_
  refine lv_iload_n hx hb dX12_write_1 rfl (lv_at hl 1 rfl) ?_
  refine lv_iload_n hx hb dX12_write_2 rfl (lv_at hl 2 rfl) ?_
  have hPc := hP.sub (ws' := [(h0, .inr (12, [.int 0, .int 1, .ref h1, .ref h2, .ref h3, .ref h4, .ref h5, .ref h6, .ref h7, .ref h8, .int 0, .int 0, .int 0, .int 0, .int 0, .int 0, .ref h9, .ref h10, .ref h11, .ref h12, .ref h13, .ref h14, .ref h15, .int 0])), (h9, .inl (cI, 4, .inl (fun _ => -1)))]) [0, 1] rfl
  refine lz_sv (As := [.int x0, .int x1]) (rest := []) ⟨hx, hb, hml, hown, hts⟩ (c_X12_wrongAt_0 l D cI cS h0 h1 h2 h3 h4 h5 h6 h7 h8 h9 h10 h11 h12 h13 h14 h15 x0 x1) hKK hPc (ci := 12) rfl rfl (cwV 2 hts gX12_write_X12_wrongAt rfl rfl rfl (by decide +kernel) ⟨Nat.le_of_ble_eq_true rfl, Nat.le_of_ble_eq_true rfl⟩) rfl hl.1 rfl (Nat.le_of_ble_eq_true rfl) dX12_write_3 ⟨Nat.le_of_ble_eq_true rfl, Nat.le_of_ble_eq_true rfl⟩ (fun r2473 hw => ?_)
  by_cases k2474 : x0 < 0
  · rw [if_pos k2474] at hw
    subst hw
    refine lv_istore (lv' := [(4, .int (-2)), (0, .ref h0), (1, .int x0), (2, .int x1), (3, .int x2)]) hx hb dX12_write_6 hl (by decide) rfl (fun ls hl => ?_)
    refine lv_iload hx hb dX12_write_8 (lv_at hl 0 rfl) ?_
    refine lv_if_eq (tgt := 16) hx hb dX12_write_10 (by decide) (fun c2475 => ?_) (fun c2475 => ?_)
    · exact absurd c2475 (by decide)
    · refine lv_iload hx hb dX12_write_13 (lv_at hl 0 rfl) ?_
      exact W.iret (v := (-2)) hx hb hr (fun t ht hW => ⟨_, rfl, by rw [if_pos k2474], ht⟩) (fun q hq => absurd hq List.not_mem_nil) dX12_write_15
  · rw [if_neg k2474] at hw
    by_cases k2476 : (3 : Int32) < x0
    · rw [if_pos k2476] at hw
      subst hw
      refine lv_istore (lv' := [(4, .int (-2)), (0, .ref h0), (1, .int x0), (2, .int x1), (3, .int x2)]) hx hb dX12_write_6 hl (by decide) rfl (fun ls hl => ?_)
      refine lv_iload hx hb dX12_write_8 (lv_at hl 0 rfl) ?_
      refine lv_if_eq (tgt := 16) hx hb dX12_write_10 (by decide) (fun c2477 => ?_) (fun c2477 => ?_)
      · exact absurd c2477 (by decide)
      · refine lv_iload hx hb dX12_write_13 (lv_at hl 0 rfl) ?_
        exact W.iret (v := (-2)) hx hb hr (fun t ht hW => ⟨_, rfl, by rw [if_neg k2474, if_pos k2476], ht⟩) (fun q hq => absurd hq List.not_mem_nil) dX12_write_15
    · rw [if_neg k2476] at hw
      subst hw
      refine lv_istore (lv' := [(4, .int (-11)), (0, .ref h0), (1, .int x0), (2, .int x1), (3, .int x2)]) hx hb dX12_write_6 hl (by decide) rfl (fun ls hl => ?_)
      refine lv_iload hx hb dX12_write_8 (lv_at hl 0 rfl) ?_
      refine lv_if_eq (tgt := 16) hx hb dX12_write_10 (by decide) (fun c2478 => ?_) (fun c2478 => ?_)
      · exact absurd c2478 (by decide)
      · refine lv_iload hx hb dX12_write_13 (lv_at hl 0 rfl) ?_
        exact W.iret (v := (-11)) hx hb hr (fun t ht hW => ⟨_, rfl, by rw [if_neg k2474, if_neg k2476], ht⟩) (fun q hq => absurd hq List.not_mem_nil) dX12_write_15
set_option maxHeartbeats 4000000 in
set_option maxRecDepth 100000 in
theorem c_X12_item_0 (l : Launch) (D : va_G) (cI cS : ClassId) (h0 h1 h2 h3 h4 h5 h6 h7 h8 h9 h10 h11 h12 h13 h14 h15 : Nat) (x0 x1 : Int32) : Met l yX12_item wsX12_item ({ frames := 3, cells := 0, slots := 0, locals := 120 }) (PS D cI cS [(h0, .inr (12, [.int 0, .int 1, .ref h1, .ref h2, .ref h3, .ref h4, .ref h5, .ref h6, .ref h7, .ref h8, .int 0, .int 0, .int 0, .int 0, .int 0, .int 0, .ref h9, .ref h10, .ref h11, .ref h12, .ref h13, .ref h14, .ref h15, .int 0])), (h9, .inl (cI, 4, .inl (fun _ => -1)))] [.ref h0, .int x0, .int x1]) (vp_Si (fun r => r = if x0 < 0 then ((-2) : Int32) else (if (3 : Int32) < x0 then ((-2) : Int32) else ((-11) : Int32)))) 0 0 (fun _ => False) := by
  refine Met.ofW (cc := cX12_item) (maxL := 4) (ret := (some .int)) (by decide) rfl ?_
  intro p e s m args below meth c s₁ B hml hv
  obtain ⟨rfl, hP, hKK⟩ := hv
  have hx := B.exec
  have hb := B.bytes
  have hr := B.returns
  have hts := atoms_spec (ws := wsX12_item) B.pre
  have hown : s.vm.findClass RX12 = some m.cls := findClass_of_methodNamed B.named
  have hlocks := B.notSynchronized
  have hK := hKK.1
  have hN := hKK.2
  have hl := lv_entry ([.ref h0, .int x0, .int x1]) (n := 4) (Nat.le_of_ble_eq_true rfl)
  rw [lg_entry_eq]
  generalize (lg_sl ([.ref h0, .int x0, .int x1]) ++ List.replicate (4 - (lg_sl ([.ref h0, .int x0, .int x1])).length) Slot.unset).toArray = ls at hl ⊢
  have hl : lv_has ls 4 [(0, .ref h0), (1, .int x0), (2, .int x1)] := hl
  refine lv_aload_n hx hb dX12_item_0 rfl (lv_at hl 0 rfl) ?_
  refine lv_iload_n hx hb dX12_item_1 rfl (lv_at hl 1 rfl) ?_
  refine lv_iload_n hx hb dX12_item_2 rfl (lv_at hl 2 rfl) ?_
  have hPc := hP.sub (ws' := [(h0, .inr (12, [.int 0, .int 1, .ref h1, .ref h2, .ref h3, .ref h4, .ref h5, .ref h6, .ref h7, .ref h8, .int 0, .int 0, .int 0, .int 0, .int 0, .int 0, .ref h9, .ref h10, .ref h11, .ref h12, .ref h13, .ref h14, .ref h15, .int 0])), (h9, .inl (cI, 4, .inl (fun _ => -1)))]) [0, 1] rfl
  refine lz_sv (As := [.int x0, .int x1]) (rest := []) ⟨hx, hb, hml, hown, hts⟩ (c_X12_wrongAt_0 l D cI cS h0 h1 h2 h3 h4 h5 h6 h7 h8 h9 h10 h11 h12 h13 h14 h15 x0 x1) hKK hPc (ci := 12) rfl rfl (cwV 2 hts gX12_item_X12_wrongAt rfl rfl rfl (by decide +kernel) ⟨Nat.le_of_ble_eq_true rfl, Nat.le_of_ble_eq_true rfl⟩) rfl hl.1 rfl (Nat.le_of_ble_eq_true rfl) dX12_item_3 ⟨Nat.le_of_ble_eq_true rfl, Nat.le_of_ble_eq_true rfl⟩ (fun r2485 hw => ?_)
  by_cases k2486 : x0 < 0
  · rw [if_pos k2486] at hw
    subst hw
    refine lv_istore_n (lv' := [(3, .int (-2)), (0, .ref h0), (1, .int x0), (2, .int x1)]) hx hb dX12_item_6 rfl hl (by decide) rfl (fun ls hl => ?_)
    refine lv_iload_n hx hb dX12_item_7 rfl (lv_at hl 0 rfl) ?_
    refine lv_if_eq (tgt := 15) hx hb dX12_item_8 (by decide) (fun c2487 => ?_) (fun c2487 => ?_)
    · exact absurd c2487 (by decide)
    · refine lv_iload_n hx hb dX12_item_11 rfl (lv_at hl 0 rfl) ?_
      refine lv_goto (tgt := 26) hx hb dX12_item_12 (by decide) ?_
      exact W.iret (v := (-2)) hx hb hr (fun t ht hW => ⟨_, rfl, by rw [if_pos k2486], ht⟩) (fun q hq => absurd hq List.not_mem_nil) dX12_item_26
  · rw [if_neg k2486] at hw
    by_cases k2488 : (3 : Int32) < x0
    · rw [if_pos k2488] at hw
      subst hw
      refine lv_istore_n (lv' := [(3, .int (-2)), (0, .ref h0), (1, .int x0), (2, .int x1)]) hx hb dX12_item_6 rfl hl (by decide) rfl (fun ls hl => ?_)
      refine lv_iload_n hx hb dX12_item_7 rfl (lv_at hl 0 rfl) ?_
      refine lv_if_eq (tgt := 15) hx hb dX12_item_8 (by decide) (fun c2489 => ?_) (fun c2489 => ?_)
      · exact absurd c2489 (by decide)
      · refine lv_iload_n hx hb dX12_item_11 rfl (lv_at hl 0 rfl) ?_
        refine lv_goto (tgt := 26) hx hb dX12_item_12 (by decide) ?_
        exact W.iret (v := (-2)) hx hb hr (fun t ht hW => ⟨_, rfl, by rw [if_neg k2486, if_pos k2488], ht⟩) (fun q hq => absurd hq List.not_mem_nil) dX12_item_26
    · rw [if_neg k2488] at hw
      subst hw
      refine lv_istore_n (lv' := [(3, .int (-11)), (0, .ref h0), (1, .int x0), (2, .int x1)]) hx hb dX12_item_6 rfl hl (by decide) rfl (fun ls hl => ?_)
      refine lv_iload_n hx hb dX12_item_7 rfl (lv_at hl 0 rfl) ?_
      refine lv_if_eq (tgt := 15) hx hb dX12_item_8 (by decide) (fun c2490 => ?_) (fun c2490 => ?_)
      · exact absurd c2490 (by decide)
      · refine lv_iload_n hx hb dX12_item_11 rfl (lv_at hl 0 rfl) ?_
        refine lv_goto (tgt := 26) hx hb dX12_item_12 (by decide) ?_
        exact W.iret (v := (-11)) hx hb hr (fun t ht hW => ⟨_, rfl, by rw [if_neg k2486, if_neg k2488], ht⟩) (fun q hq => absurd hq List.not_mem_nil) dX12_item_26
set_option maxHeartbeats 4000000 in
set_option maxRecDepth 100000 in
theorem c_X12_copy_0 (l : Launch) (D : va_G) (cI cS : ClassId) (h0 h1 h2 h3 h4 h5 h6 h7 h8 h9 h10 h11 h12 h13 h14 h15 : Nat) (x0 x1 x2 x3 x4 : Int32) : Met l yX12_copy wsX12_copy ({ frames := 2, cells := 0, slots := 0, locals := 80 }) (PS D cI cS [(h0, .inr (12, [.int 0, .int 1, .ref h1, .ref h2, .ref h3, .ref h4, .ref h5, .ref h6, .ref h7, .ref h8, .int 0, .int 0, .int 0, .int 0, .int 0, .int 0, .ref h9, .ref h10, .ref h11, .ref h12, .ref h13, .ref h14, .ref h15, .int 0])), (h9, .inl (cI, 4, .inl (fun _ => -1)))] [.ref h0, .int x0, .int x1, .int x2, .int x3, .int x4]) (vp_Si (fun r => r = if x0 < 0 then ((-2) : Int32) else (if (3 : Int32) < x0 then ((-2) : Int32) else (if x2 < 0 then ((-2) : Int32) else (if (3 : Int32) < x2 then ((-2) : Int32) else ((-11) : Int32)))))) 0 0 (fun _ => False) := by
  refine Met.ofW (cc := cX12_copy) (maxL := 9) (ret := (some .int)) (by decide) rfl ?_
  intro p e s m args below meth c s₁ B hml hv
  obtain ⟨rfl, hP, hKK⟩ := hv
  have hx := B.exec
  have hb := B.bytes
  have hr := B.returns
  have hts := atoms_spec (ws := wsX12_copy) B.pre
  have hown : s.vm.findClass RX12 = some m.cls := findClass_of_methodNamed B.named
  have hlocks := B.notSynchronized
  have hK := hKK.1
  have hN := hKK.2
  have hin12 : ∀ w ∈ wsX120, w ∈ wsX12_copy := by decide +kernel
  have hl := lv_entry ([.ref h0, .int x0, .int x1, .int x2, .int x3, .int x4]) (n := 9) (Nat.le_of_ble_eq_true rfl)
  rw [lg_entry_eq]
  generalize (lg_sl ([.ref h0, .int x0, .int x1, .int x2, .int x3, .int x4]) ++ List.replicate (9 - (lg_sl ([.ref h0, .int x0, .int x1, .int x2, .int x3, .int x4])).length) Slot.unset).toArray = ls at hl ⊢
  have hl : lv_has ls 9 [(0, .ref h0), (1, .int x0), (2, .int x1), (3, .int x2), (4, .int x3), (5, .int x4)] := hl
  refine lv_iload_n hx hb dX12_copy_0 rfl (lv_at hl 1 rfl) ?_
  have hPc := hP.sub (ws' := []) [] rfl
  refine lz_ss (As := [.int x0]) (rest := []) ⟨hx, hb, hml, hown, hts⟩ (c_X12_isSheet_0 l D cI cS x0) hKK hPc (va_cwS 1 hts gX12_copy_X12_isSheet rfl rfl rfl (by decide +kernel) ⟨Nat.le_of_ble_eq_true rfl, Nat.le_of_ble_eq_true rfl⟩) rfl hl.1 rfl (Nat.le_of_ble_eq_true rfl) dX12_copy_1 ⟨Nat.le_of_ble_eq_true rfl, Nat.le_of_ble_eq_true rfl⟩ (fun r2504 hw => ?_)
  by_cases k2505 : x0 < 0
  · rw [if_pos k2505] at hw
    subst hw
    refine lv_if_eq (tgt := 14) hx hb dX12_copy_4 (by decide) (fun c2506 => ?_) (fun c2506 => ?_)
    · refine lv_bipush (v := (-2)) hx hb dX12_copy_14 (by decide) ?_
      exact W.iret (v := (-2)) hx hb hr (fun t ht hW => ⟨_, rfl, by rw [if_pos k2505], ht⟩) (fun q hq => absurd hq List.not_mem_nil) dX12_copy_16
    · exact absurd c2506 (by decide)
  · rw [if_neg k2505] at hw
    by_cases k2507 : (3 : Int32) < x0
    · rw [if_pos k2507] at hw
      subst hw
      refine lv_if_eq (tgt := 14) hx hb dX12_copy_4 (by decide) (fun c2508 => ?_) (fun c2508 => ?_)
      · refine lv_bipush (v := (-2)) hx hb dX12_copy_14 (by decide) ?_
        exact W.iret (v := (-2)) hx hb hr (fun t ht hW => ⟨_, rfl, by rw [if_neg k2505, if_pos k2507], ht⟩) (fun q hq => absurd hq List.not_mem_nil) dX12_copy_16
      · exact absurd c2508 (by decide)
    · rw [if_neg k2507] at hw
      subst hw
      refine lv_if_eq (tgt := 14) hx hb dX12_copy_4 (by decide) (fun c2509 => ?_) (fun c2509 => ?_)
      · exact absurd c2509 (by decide)
      · refine lv_iload_n hx hb dX12_copy_7 rfl (lv_at hl 3 rfl) ?_
        have hPc := hP.sub (ws' := []) [] rfl
        refine lz_ss (As := [.int x2]) (rest := []) ⟨hx, hb, hml, hown, hts⟩ (c_X12_isSheet_0 l D cI cS x2) hKK hPc (va_cwS 1 hts gX12_copy_X12_isSheet rfl rfl rfl (by decide +kernel) ⟨Nat.le_of_ble_eq_true rfl, Nat.le_of_ble_eq_true rfl⟩) rfl hl.1 rfl (Nat.le_of_ble_eq_true rfl) dX12_copy_8 ⟨Nat.le_of_ble_eq_true rfl, Nat.le_of_ble_eq_true rfl⟩ (fun r2510 hw => ?_)
        by_cases k2511 : x2 < 0
        · rw [if_pos k2511] at hw
          subst hw
          refine lv_if_ne (tgt := 17) hx hb dX12_copy_11 (by decide) (fun c2512 => ?_) (fun c2512 => ?_)
          · exact absurd c2512 (by decide)
          · refine lv_bipush (v := (-2)) hx hb dX12_copy_14 (by decide) ?_
            exact W.iret (v := (-2)) hx hb hr (fun t ht hW => ⟨_, rfl, by rw [if_neg k2505, if_neg k2507, if_pos k2511], ht⟩) (fun q hq => absurd hq List.not_mem_nil) dX12_copy_16
        · rw [if_neg k2511] at hw
          by_cases k2513 : (3 : Int32) < x2
          · rw [if_pos k2513] at hw
            subst hw
            refine lv_if_ne (tgt := 17) hx hb dX12_copy_11 (by decide) (fun c2514 => ?_) (fun c2514 => ?_)
            · exact absurd c2514 (by decide)
            · refine lv_bipush (v := (-2)) hx hb dX12_copy_14 (by decide) ?_
              exact W.iret (v := (-2)) hx hb hr (fun t ht hW => ⟨_, rfl, by rw [if_neg k2505, if_neg k2507, if_neg k2511, if_pos k2513], ht⟩) (fun q hq => absurd hq List.not_mem_nil) dX12_copy_16
          · rw [if_neg k2513] at hw
            subst hw
            refine lv_if_ne (tgt := 17) hx hb dX12_copy_11 (by decide) (fun c2515 => ?_) (fun c2515 => ?_)
            · refine lv_aload_n hx hb dX12_copy_17 rfl (lv_at hl 0 rfl) ?_
              refine va_get (D := D) (ci := 12) (v := .ref h9) (C := RX12) (T := TX12) (N := 24) hx hb hts hin12 hown hK hP 0 rfl rfl 16 (by decide) (hts (.fieldLink RX12 38 "MissedPointsModel" "sort" "[I") (by decide +kernel)) (fun _ h9 => h9) rfl dX12_copy_18 ?_
              refine lv_iload_n hx hb dX12_copy_21 rfl (lv_at hl 1 rfl) ?_
              refine va_iald hx hb hK hP 1 0 rfl rfl (lz_vp (x := x0) (n := 4) (by have zf1 := mt (lz_lt x0 (0 : Int32)).mpr k2505; have zf2 := mt (lz_lt (3 : Int32) x0).mpr k2507; have zf3 := mt (lz_lt x2 (0 : Int32)).mpr k2511; have zf4 := mt (lz_lt (3 : Int32) x2).mpr k2513; have zn0 : (0 : Int32).toInt = 0 := (by decide); have zn1 : (3 : Int32).toInt = 3 := (by decide); omega) (by have zf1 := mt (lz_lt x0 (0 : Int32)).mpr k2505; have zf2 := mt (lz_lt (3 : Int32) x0).mpr k2507; have zf3 := mt (lz_lt x2 (0 : Int32)).mpr k2511; have zf4 := mt (lz_lt (3 : Int32) x2).mpr k2513; have zn0 : (0 : Int32).toInt = 0 := (by decide); have zn1 : (3 : Int32).toInt = 3 := (by decide); omega)) dX12_copy_22 ?_
              refine lz_top (y := (-1)) rfl ?_
              refine lv_iconst (v := (-1)) hx hb dX12_copy_23 (by decide) ?_
              refine lv_icmp_eq (tgt := 37) hx hb dX12_copy_24 (by decide) (fun c2516 => ?_) (fun c2516 => ?_)
              · refine lv_bipush (v := (-11)) hx hb dX12_copy_37 (by decide) ?_
                exact W.iret (v := (-11)) hx hb hr (fun t ht hW => ⟨_, rfl, by rw [if_neg k2505, if_neg k2507, if_neg k2511, if_neg k2513], ht⟩) (fun q hq => absurd hq List.not_mem_nil) dX12_copy_39
              · exact absurd c2516 (by decide)
            · exact absurd c2515 (by decide)
set_option maxHeartbeats 4000000 in
set_option maxRecDepth 100000 in
theorem c_X12_keeps_1 (l : Launch) (D : va_G) (cI cS : ClassId) (sz : Nat) (h0 h1 h2 h3 h4 h5 h6 h7 h8 h9 h10 h11 h12 h13 h14 h15 : Nat) : Met l yX12_keeps wsX12_keeps ({ frames := 0, cells := 0, slots := 0, locals := 0 }) (PQ D cI cS [(h0, .inr (12, [.int 0, .int 1, .ref h1, .ref h2, .ref h3, .ref h4, .ref h5, .ref h6, .ref h7, .ref h8, .int 0, .int 0, .int 0, .int 0, .int 0, .int 0, .ref h9, .ref h10, .ref h11, .ref h12, .ref h13, .ref h14, .ref h15, .int 0])), (h1, .inl (cI, 12, .inl (fun _ => 0))), (h15, .inl (cI, 28, .inl (fun _ => 0)))] sz [.ref h0, .int 0]) (QV D [(h0, .inr (12, [.int 0, .int 1, .ref h1, .ref h2, .ref h3, .ref h4, .ref h5, .ref h6, .ref h7, .ref h8, .int 0, .int 0, .int 0, .int 0, .int 0, .int 0, .ref h9, .ref h10, .ref h11, .ref h12, .ref h13, .ref h14, .ref h15, .int 0])), (h1, .inl (cI, 12, .inl (fun _ => 0))), (h15, .inl (cI, 28, .inl (fun _ => 0)))] [(h0, .inr (12, [.int 0, .int 1, .ref h1, .ref h2, .ref h3, .ref h4, .ref h5, .ref h6, .ref h7, .ref h8, .int 0, .int 0, .int 0, .int 0, .int 0, .int 0, .ref h9, .ref h10, .ref h11, .ref h12, .ref h13, .ref h14, .ref h15, .int 0])), (h1, .inl (cI, 12, .inl (fun _ => 0))), (h15, .inl (cI, 28, .inl (upd (upd (upd (upd (upd (upd (upd (upd (upd (upd (upd (upd (upd (fun _ => 0) 1 1) 2 0) 3 0) 4 0) 5 0) 6 0) 7 0) 8 0) 9 0) 10 0) 11 0) 12 0) 13 0)))] sz) 0 0 (va_A [(h0, .inr (12, [.int 0, .int 1, .ref h1, .ref h2, .ref h3, .ref h4, .ref h5, .ref h6, .ref h7, .ref h8, .int 0, .int 0, .int 0, .int 0, .int 0, .int 0, .ref h9, .ref h10, .ref h11, .ref h12, .ref h13, .ref h14, .ref h15, .int 0])), (h1, .inl (cI, 12, .inl (fun _ => 0))), (h15, .inl (cI, 28, .inl (fun _ => 0)))] sz) := by
  refine Met.ofW (cc := cX12_keeps) (maxL := 4) (ret := none) (by decide) rfl ?_
  intro p e s m args below meth c s₁ B hml hv
  obtain ⟨rfl, hsz, hP, hKK, hD0⟩ := hv
  have hx := B.exec
  have hb := B.bytes
  have hr := B.returns
  have hts := atoms_spec (ws := wsX12_keeps) B.pre
  have hown : s.vm.findClass RX12 = some m.cls := findClass_of_methodNamed B.named
  have hlocks := B.notSynchronized
  have hK := hKK.1
  have hN := hKK.2
  have hin12 : ∀ w ∈ wsX120, w ∈ wsX12_keeps := by decide +kernel
  subst hsz
  have hD := hD0.self (sz := s.heap.size)
  obtain ⟨A, hAe⟩ : ∃ A, A = va_A [(h0, .inr (12, [.int 0, .int 1, .ref h1, .ref h2, .ref h3, .ref h4, .ref h5, .ref h6, .ref h7, .ref h8, .int 0, .int 0, .int 0, .int 0, .int 0, .int 0, .ref h9, .ref h10, .ref h11, .ref h12, .ref h13, .ref h14, .ref h15, .int 0])), (h1, .inl (cI, 12, .inl (fun _ => 0))), (h15, .inl (cI, 28, .inl (fun _ => 0)))] s.heap.size := ⟨_, rfl⟩
  rw [← hAe] at hD
  have hA : ∀ q : Nat, s.heap.size ≤ q → A q := fun q h => by rw [hAe]; exact Or.inr h
  have hS : va_S A s.heap s.heap [] := va_S.rf
  have hl := lv_entry ([.ref h0, .int 0]) (n := 4) (Nat.le_of_ble_eq_true rfl)
  rw [lg_entry_eq]
  generalize (lg_sl ([.ref h0, .int 0]) ++ List.replicate (4 - (lg_sl ([.ref h0, .int 0])).length) Slot.unset).toArray = ls at hl ⊢
  have hl : lv_has ls 4 [(0, .ref h0), (1, .int 0)] := hl
  refine lv_iload_n hx hb dX12_keeps_0 rfl (lv_at hl 1 rfl) ?_
  refine lv_bipush (v := 14) hx hb dX12_keeps_1 (by decide) ?_
  refine lv_imul hx hb dX12_keeps_3 ?_
  refine lz_top (y := 0) (by decide) ?_
  refine lv_istore_n (lv' := [(2, .int 0), (0, .ref h0), (1, .int 0)]) hx hb dX12_keeps_4 rfl hl (by decide) rfl (fun ls hl => ?_)
  refine lv_aload_n hx hb dX12_keeps_5 rfl (lv_at hl 1 rfl) ?_
  refine va_get (D := D) (ci := 12) (v := .ref h15) (C := RX12) (T := TX12) (N := 24) hx hb hts hin12 hown hK hP 0 rfl rfl 22 (by decide) (hts (.fieldLink RX12 56 "MissedPointsModel" "kept" "[I") (by decide +kernel)) (fun _ h9 => h9) rfl dX12_keeps_6 ?_
  refine lv_iload_n hx hb dX12_keeps_9 rfl (lv_at hl 0 rfl) ?_
  refine lv_aload_n hx hb dX12_keeps_10 rfl (lv_at hl 1 rfl) ?_
  refine va_get (D := D) (ci := 12) (v := .int 0) (C := RX12) (T := TX12) (N := 24) hx hb hts hin12 hown hK hP 0 rfl rfl 0 (by decide) (hts (.fieldLink RX12 63 "MissedPointsModel" "many" "I") (by decide +kernel)) (fun _ h9 => h9) rfl dX12_keeps_11 ?_
  refine lz_astc hx hb hK hP hD hS 2 0 rfl rfl (lz_vp (x := 0) (n := 28) (by decide) (by decide)) dX12_keeps_14 (fun H locs hP hD hS => ?_)
  refine lv_aload_n hx hb dX12_keeps_15 rfl (lv_at hl 1 rfl) ?_
  refine va_get (D := D) (ci := 12) (v := .ref h15) (C := RX12) (T := TX12) (N := 24) hx hb hts hin12 hown hK hP 0 rfl rfl 22 (by decide) (hts (.fieldLink RX12 56 "MissedPointsModel" "kept" "[I") (by decide +kernel)) (fun _ h9 => h9) rfl dX12_keeps_16 ?_
  refine lv_iload_n hx hb dX12_keeps_19 rfl (lv_at hl 0 rfl) ?_
  refine lv_iconst (v := 1) hx hb dX12_keeps_20 (by decide) ?_
  refine lv_iadd hx hb dX12_keeps_21 ?_
  refine lz_top (y := 1) (by decide) ?_
  refine lv_aload_n hx hb dX12_keeps_22 rfl (lv_at hl 1 rfl) ?_
  refine va_get (D := D) (ci := 12) (v := .int 1) (C := RX12) (T := TX12) (N := 24) hx hb hts hin12 hown hK hP 0 rfl rfl 1 (by decide) (hts (.fieldLink RX12 7 "MissedPointsModel" "z" "I") (by decide +kernel)) (fun _ h9 => h9) rfl dX12_keeps_23 ?_
  refine va_iast hx hb hK hP hD hS 2 0 rfl rfl (lz_vp (x := 1) (n := 28) (by decide) (by decide)) dX12_keeps_26 (fun H locs hP hD hS => ?_)
  have hP : va_P D cls [(h0, .inr (12, [.int 0, .int 1, .ref h1, .ref h2, .ref h3, .ref h4, .ref h5, .ref h6, .ref h7, .ref h8, .int 0, .int 0, .int 0, .int 0, .int 0, .int 0, .ref h9, .ref h10, .ref h11, .ref h12, .ref h13, .ref h14, .ref h15, .int 0])), (h1, .inl (cI, 12, .inl (fun _ => 0))), (h15, .inl (cI, 28, .inl (upd (fun _ => 0) 1 1)))] H := hP
  have hD : va_D A [(h0, .inr (12, [.int 0, .int 1, .ref h1, .ref h2, .ref h3, .ref h4, .ref h5, .ref h6, .ref h7, .ref h8, .int 0, .int 0, .int 0, .int 0, .int 0, .int 0, .ref h9, .ref h10, .ref h11, .ref h12, .ref h13, .ref h14, .ref h15, .int 0])), (h1, .inl (cI, 12, .inl (fun _ => 0))), (h15, .inl (cI, 28, .inl (upd (fun _ => 0) 1 1)))] := hD
  refine lv_iconst (v := 0) hx hb dX12_keeps_27 (by decide) ?_
  refine lv_istore_n (lv' := [(3, .int 0), (2, .int 0), (0, .ref h0), (1, .int 0)]) hx hb dX12_keeps_28 rfl hl (by decide) rfl (fun ls hl => ?_)
  refine lv_iload_n hx hb dX12_keeps_29 rfl (lv_at hl 0 rfl) ?_
  refine lv_bipush (v := 12) hx hb dX12_keeps_30 (by decide) ?_
  refine lv_icmp_ge (tgt := 57) hx hb dX12_keeps_32 (by decide) (fun c2530 => ?_) (fun c2530 => ?_)
  · exact absurd c2530 (by decide)
  · refine lv_aload_n hx hb dX12_keeps_35 rfl (lv_at hl 2 rfl) ?_
    refine va_get (D := D) (ci := 12) (v := .ref h15) (C := RX12) (T := TX12) (N := 24) hx hb hts hin12 hown hK hP 0 rfl rfl 22 (by decide) (hts (.fieldLink RX12 56 "MissedPointsModel" "kept" "[I") (by decide +kernel)) (fun _ h9 => h9) rfl dX12_keeps_36 ?_
    refine lv_iload_n hx hb dX12_keeps_39 rfl (lv_at hl 1 rfl) ?_
    refine lv_iconst (v := 2) hx hb dX12_keeps_40 (by decide) ?_
    refine lv_iadd hx hb dX12_keeps_41 ?_
    refine lz_top (y := 2) (by decide) ?_
    refine lv_iload_n hx hb dX12_keeps_42 rfl (lv_at hl 0 rfl) ?_
    refine lv_iadd hx hb dX12_keeps_43 ?_
    refine lz_top (y := 2) (by decide) ?_
    refine lv_aload_n hx hb dX12_keeps_44 rfl (lv_at hl 2 rfl) ?_
    refine va_get (D := D) (ci := 12) (v := .ref h1) (C := RX12) (T := TX12) (N := 24) hx hb hts hin12 hown hK hP 0 rfl rfl 2 (by decide) (hts (.fieldLink RX12 13 "MissedPointsModel" "near" "[I") (by decide +kernel)) (fun _ h9 => h9) rfl dX12_keeps_45 ?_
    refine lv_iload_n hx hb dX12_keeps_48 rfl (lv_at hl 0 rfl) ?_
    refine va_iald hx hb hK hP 1 0 rfl rfl (lz_vp (x := 0) (n := 12) (by decide) (by decide)) dX12_keeps_49 ?_
    refine lz_top (y := 0) rfl ?_
    refine va_iast hx hb hK hP hD hS 2 0 rfl rfl (lz_vp (x := 2) (n := 28) (by decide) (by decide)) dX12_keeps_50 (fun H locs hP hD hS => ?_)
    have hP : va_P D cls [(h0, .inr (12, [.int 0, .int 1, .ref h1, .ref h2, .ref h3, .ref h4, .ref h5, .ref h6, .ref h7, .ref h8, .int 0, .int 0, .int 0, .int 0, .int 0, .int 0, .ref h9, .ref h10, .ref h11, .ref h12, .ref h13, .ref h14, .ref h15, .int 0])), (h1, .inl (cI, 12, .inl (fun _ => 0))), (h15, .inl (cI, 28, .inl (upd (upd (fun _ => 0) 1 1) 2 0)))] H := hP
    have hD : va_D A [(h0, .inr (12, [.int 0, .int 1, .ref h1, .ref h2, .ref h3, .ref h4, .ref h5, .ref h6, .ref h7, .ref h8, .int 0, .int 0, .int 0, .int 0, .int 0, .int 0, .ref h9, .ref h10, .ref h11, .ref h12, .ref h13, .ref h14, .ref h15, .int 0])), (h1, .inl (cI, 12, .inl (fun _ => 0))), (h15, .inl (cI, 28, .inl (upd (upd (fun _ => 0) 1 1) 2 0)))] := hD
    refine lv_iinc (v := 1) (lv' := [(3, .int 1), (2, .int 0), (0, .ref h0), (1, .int 0)]) hx hb dX12_keeps_51 hl (k := 0) rfl (by decide) (by decide) rfl (fun ls hl => ?_)
    refine lv_goto (tgt := 29) hx hb dX12_keeps_54 (by decide) ?_
    refine lv_iload_n hx hb dX12_keeps_29 rfl (lv_at hl 0 rfl) ?_
    refine lv_bipush (v := 12) hx hb dX12_keeps_30 (by decide) ?_
    refine lv_icmp_ge (tgt := 57) hx hb dX12_keeps_32 (by decide) (fun c2531 => ?_) (fun c2531 => ?_)
    · exact absurd c2531 (by decide)
    · refine lv_aload_n hx hb dX12_keeps_35 rfl (lv_at hl 2 rfl) ?_
      refine va_get (D := D) (ci := 12) (v := .ref h15) (C := RX12) (T := TX12) (N := 24) hx hb hts hin12 hown hK hP 0 rfl rfl 22 (by decide) (hts (.fieldLink RX12 56 "MissedPointsModel" "kept" "[I") (by decide +kernel)) (fun _ h9 => h9) rfl dX12_keeps_36 ?_
      refine lv_iload_n hx hb dX12_keeps_39 rfl (lv_at hl 1 rfl) ?_
      refine lv_iconst (v := 2) hx hb dX12_keeps_40 (by decide) ?_
      refine lv_iadd hx hb dX12_keeps_41 ?_
      refine lz_top (y := 2) (by decide) ?_
      refine lv_iload_n hx hb dX12_keeps_42 rfl (lv_at hl 0 rfl) ?_
      refine lv_iadd hx hb dX12_keeps_43 ?_
      refine lz_top (y := 3) (by decide) ?_
      refine lv_aload_n hx hb dX12_keeps_44 rfl (lv_at hl 2 rfl) ?_
      refine va_get (D := D) (ci := 12) (v := .ref h1) (C := RX12) (T := TX12) (N := 24) hx hb hts hin12 hown hK hP 0 rfl rfl 2 (by decide) (hts (.fieldLink RX12 13 "MissedPointsModel" "near" "[I") (by decide +kernel)) (fun _ h9 => h9) rfl dX12_keeps_45 ?_
      refine lv_iload_n hx hb dX12_keeps_48 rfl (lv_at hl 0 rfl) ?_
      refine va_iald hx hb hK hP 1 0 rfl rfl (lz_vp (x := 1) (n := 12) (by decide) (by decide)) dX12_keeps_49 ?_
      refine lz_top (y := 0) rfl ?_
      refine va_iast hx hb hK hP hD hS 2 0 rfl rfl (lz_vp (x := 3) (n := 28) (by decide) (by decide)) dX12_keeps_50 (fun H locs hP hD hS => ?_)
      have hP : va_P D cls [(h0, .inr (12, [.int 0, .int 1, .ref h1, .ref h2, .ref h3, .ref h4, .ref h5, .ref h6, .ref h7, .ref h8, .int 0, .int 0, .int 0, .int 0, .int 0, .int 0, .ref h9, .ref h10, .ref h11, .ref h12, .ref h13, .ref h14, .ref h15, .int 0])), (h1, .inl (cI, 12, .inl (fun _ => 0))), (h15, .inl (cI, 28, .inl (upd (upd (upd (fun _ => 0) 1 1) 2 0) 3 0)))] H := hP
      have hD : va_D A [(h0, .inr (12, [.int 0, .int 1, .ref h1, .ref h2, .ref h3, .ref h4, .ref h5, .ref h6, .ref h7, .ref h8, .int 0, .int 0, .int 0, .int 0, .int 0, .int 0, .ref h9, .ref h10, .ref h11, .ref h12, .ref h13, .ref h14, .ref h15, .int 0])), (h1, .inl (cI, 12, .inl (fun _ => 0))), (h15, .inl (cI, 28, .inl (upd (upd (upd (fun _ => 0) 1 1) 2 0) 3 0)))] := hD
      refine lv_iinc (v := 2) (lv' := [(3, .int 2), (2, .int 0), (0, .ref h0), (1, .int 0)]) hx hb dX12_keeps_51 hl (k := 0) rfl (by decide) (by decide) rfl (fun ls hl => ?_)
      refine lv_goto (tgt := 29) hx hb dX12_keeps_54 (by decide) ?_
      refine lv_iload_n hx hb dX12_keeps_29 rfl (lv_at hl 0 rfl) ?_
      refine lv_bipush (v := 12) hx hb dX12_keeps_30 (by decide) ?_
      refine lv_icmp_ge (tgt := 57) hx hb dX12_keeps_32 (by decide) (fun c2532 => ?_) (fun c2532 => ?_)
      · exact absurd c2532 (by decide)
      · refine lv_aload_n hx hb dX12_keeps_35 rfl (lv_at hl 2 rfl) ?_
        refine va_get (D := D) (ci := 12) (v := .ref h15) (C := RX12) (T := TX12) (N := 24) hx hb hts hin12 hown hK hP 0 rfl rfl 22 (by decide) (hts (.fieldLink RX12 56 "MissedPointsModel" "kept" "[I") (by decide +kernel)) (fun _ h9 => h9) rfl dX12_keeps_36 ?_
        refine lv_iload_n hx hb dX12_keeps_39 rfl (lv_at hl 1 rfl) ?_
        refine lv_iconst (v := 2) hx hb dX12_keeps_40 (by decide) ?_
        refine lv_iadd hx hb dX12_keeps_41 ?_
        refine lz_top (y := 2) (by decide) ?_
        refine lv_iload_n hx hb dX12_keeps_42 rfl (lv_at hl 0 rfl) ?_
        refine lv_iadd hx hb dX12_keeps_43 ?_
        refine lz_top (y := 4) (by decide) ?_
        refine lv_aload_n hx hb dX12_keeps_44 rfl (lv_at hl 2 rfl) ?_
        refine va_get (D := D) (ci := 12) (v := .ref h1) (C := RX12) (T := TX12) (N := 24) hx hb hts hin12 hown hK hP 0 rfl rfl 2 (by decide) (hts (.fieldLink RX12 13 "MissedPointsModel" "near" "[I") (by decide +kernel)) (fun _ h9 => h9) rfl dX12_keeps_45 ?_
        refine lv_iload_n hx hb dX12_keeps_48 rfl (lv_at hl 0 rfl) ?_
        refine va_iald hx hb hK hP 1 0 rfl rfl (lz_vp (x := 2) (n := 12) (by decide) (by decide)) dX12_keeps_49 ?_
        refine lz_top (y := 0) rfl ?_
        refine va_iast hx hb hK hP hD hS 2 0 rfl rfl (lz_vp (x := 4) (n := 28) (by decide) (by decide)) dX12_keeps_50 (fun H locs hP hD hS => ?_)
        have hP : va_P D cls [(h0, .inr (12, [.int 0, .int 1, .ref h1, .ref h2, .ref h3, .ref h4, .ref h5, .ref h6, .ref h7, .ref h8, .int 0, .int 0, .int 0, .int 0, .int 0, .int 0, .ref h9, .ref h10, .ref h11, .ref h12, .ref h13, .ref h14, .ref h15, .int 0])), (h1, .inl (cI, 12, .inl (fun _ => 0))), (h15, .inl (cI, 28, .inl (upd (upd (upd (upd (fun _ => 0) 1 1) 2 0) 3 0) 4 0)))] H := hP
        have hD : va_D A [(h0, .inr (12, [.int 0, .int 1, .ref h1, .ref h2, .ref h3, .ref h4, .ref h5, .ref h6, .ref h7, .ref h8, .int 0, .int 0, .int 0, .int 0, .int 0, .int 0, .ref h9, .ref h10, .ref h11, .ref h12, .ref h13, .ref h14, .ref h15, .int 0])), (h1, .inl (cI, 12, .inl (fun _ => 0))), (h15, .inl (cI, 28, .inl (upd (upd (upd (upd (fun _ => 0) 1 1) 2 0) 3 0) 4 0)))] := hD
        refine lv_iinc (v := 3) (lv' := [(3, .int 3), (2, .int 0), (0, .ref h0), (1, .int 0)]) hx hb dX12_keeps_51 hl (k := 0) rfl (by decide) (by decide) rfl (fun ls hl => ?_)
        refine lv_goto (tgt := 29) hx hb dX12_keeps_54 (by decide) ?_
        refine lv_iload_n hx hb dX12_keeps_29 rfl (lv_at hl 0 rfl) ?_
        refine lv_bipush (v := 12) hx hb dX12_keeps_30 (by decide) ?_
        refine lv_icmp_ge (tgt := 57) hx hb dX12_keeps_32 (by decide) (fun c2533 => ?_) (fun c2533 => ?_)
        · exact absurd c2533 (by decide)
        · refine lv_aload_n hx hb dX12_keeps_35 rfl (lv_at hl 2 rfl) ?_
          refine va_get (D := D) (ci := 12) (v := .ref h15) (C := RX12) (T := TX12) (N := 24) hx hb hts hin12 hown hK hP 0 rfl rfl 22 (by decide) (hts (.fieldLink RX12 56 "MissedPointsModel" "kept" "[I") (by decide +kernel)) (fun _ h9 => h9) rfl dX12_keeps_36 ?_
          refine lv_iload_n hx hb dX12_keeps_39 rfl (lv_at hl 1 rfl) ?_
          refine lv_iconst (v := 2) hx hb dX12_keeps_40 (by decide) ?_
          refine lv_iadd hx hb dX12_keeps_41 ?_
          refine lz_top (y := 2) (by decide) ?_
          refine lv_iload_n hx hb dX12_keeps_42 rfl (lv_at hl 0 rfl) ?_
          refine lv_iadd hx hb dX12_keeps_43 ?_
          refine lz_top (y := 5) (by decide) ?_
          refine lv_aload_n hx hb dX12_keeps_44 rfl (lv_at hl 2 rfl) ?_
          refine va_get (D := D) (ci := 12) (v := .ref h1) (C := RX12) (T := TX12) (N := 24) hx hb hts hin12 hown hK hP 0 rfl rfl 2 (by decide) (hts (.fieldLink RX12 13 "MissedPointsModel" "near" "[I") (by decide +kernel)) (fun _ h9 => h9) rfl dX12_keeps_45 ?_
          refine lv_iload_n hx hb dX12_keeps_48 rfl (lv_at hl 0 rfl) ?_
          refine va_iald hx hb hK hP 1 0 rfl rfl (lz_vp (x := 3) (n := 12) (by decide) (by decide)) dX12_keeps_49 ?_
          refine lz_top (y := 0) rfl ?_
          refine va_iast hx hb hK hP hD hS 2 0 rfl rfl (lz_vp (x := 5) (n := 28) (by decide) (by decide)) dX12_keeps_50 (fun H locs hP hD hS => ?_)
          have hP : va_P D cls [(h0, .inr (12, [.int 0, .int 1, .ref h1, .ref h2, .ref h3, .ref h4, .ref h5, .ref h6, .ref h7, .ref h8, .int 0, .int 0, .int 0, .int 0, .int 0, .int 0, .ref h9, .ref h10, .ref h11, .ref h12, .ref h13, .ref h14, .ref h15, .int 0])), (h1, .inl (cI, 12, .inl (fun _ => 0))), (h15, .inl (cI, 28, .inl (upd (upd (upd (upd (upd (fun _ => 0) 1 1) 2 0) 3 0) 4 0) 5 0)))] H := hP
          have hD : va_D A [(h0, .inr (12, [.int 0, .int 1, .ref h1, .ref h2, .ref h3, .ref h4, .ref h5, .ref h6, .ref h7, .ref h8, .int 0, .int 0, .int 0, .int 0, .int 0, .int 0, .ref h9, .ref h10, .ref h11, .ref h12, .ref h13, .ref h14, .ref h15, .int 0])), (h1, .inl (cI, 12, .inl (fun _ => 0))), (h15, .inl (cI, 28, .inl (upd (upd (upd (upd (upd (fun _ => 0) 1 1) 2 0) 3 0) 4 0) 5 0)))] := hD
          refine lv_iinc (v := 4) (lv' := [(3, .int 4), (2, .int 0), (0, .ref h0), (1, .int 0)]) hx hb dX12_keeps_51 hl (k := 0) rfl (by decide) (by decide) rfl (fun ls hl => ?_)
          refine lv_goto (tgt := 29) hx hb dX12_keeps_54 (by decide) ?_
          refine lv_iload_n hx hb dX12_keeps_29 rfl (lv_at hl 0 rfl) ?_
          refine lv_bipush (v := 12) hx hb dX12_keeps_30 (by decide) ?_
          refine lv_icmp_ge (tgt := 57) hx hb dX12_keeps_32 (by decide) (fun c2534 => ?_) (fun c2534 => ?_)
          · exact absurd c2534 (by decide)
          · refine lv_aload_n hx hb dX12_keeps_35 rfl (lv_at hl 2 rfl) ?_
            refine va_get (D := D) (ci := 12) (v := .ref h15) (C := RX12) (T := TX12) (N := 24) hx hb hts hin12 hown hK hP 0 rfl rfl 22 (by decide) (hts (.fieldLink RX12 56 "MissedPointsModel" "kept" "[I") (by decide +kernel)) (fun _ h9 => h9) rfl dX12_keeps_36 ?_
            refine lv_iload_n hx hb dX12_keeps_39 rfl (lv_at hl 1 rfl) ?_
            refine lv_iconst (v := 2) hx hb dX12_keeps_40 (by decide) ?_
            refine lv_iadd hx hb dX12_keeps_41 ?_
            refine lz_top (y := 2) (by decide) ?_
            refine lv_iload_n hx hb dX12_keeps_42 rfl (lv_at hl 0 rfl) ?_
            refine lv_iadd hx hb dX12_keeps_43 ?_
            refine lz_top (y := 6) (by decide) ?_
            refine lv_aload_n hx hb dX12_keeps_44 rfl (lv_at hl 2 rfl) ?_
            refine va_get (D := D) (ci := 12) (v := .ref h1) (C := RX12) (T := TX12) (N := 24) hx hb hts hin12 hown hK hP 0 rfl rfl 2 (by decide) (hts (.fieldLink RX12 13 "MissedPointsModel" "near" "[I") (by decide +kernel)) (fun _ h9 => h9) rfl dX12_keeps_45 ?_
            refine lv_iload_n hx hb dX12_keeps_48 rfl (lv_at hl 0 rfl) ?_
            refine va_iald hx hb hK hP 1 0 rfl rfl (lz_vp (x := 4) (n := 12) (by decide) (by decide)) dX12_keeps_49 ?_
            refine lz_top (y := 0) rfl ?_
            refine va_iast hx hb hK hP hD hS 2 0 rfl rfl (lz_vp (x := 6) (n := 28) (by decide) (by decide)) dX12_keeps_50 (fun H locs hP hD hS => ?_)
            have hP : va_P D cls [(h0, .inr (12, [.int 0, .int 1, .ref h1, .ref h2, .ref h3, .ref h4, .ref h5, .ref h6, .ref h7, .ref h8, .int 0, .int 0, .int 0, .int 0, .int 0, .int 0, .ref h9, .ref h10, .ref h11, .ref h12, .ref h13, .ref h14, .ref h15, .int 0])), (h1, .inl (cI, 12, .inl (fun _ => 0))), (h15, .inl (cI, 28, .inl (upd (upd (upd (upd (upd (upd (fun _ => 0) 1 1) 2 0) 3 0) 4 0) 5 0) 6 0)))] H := hP
            have hD : va_D A [(h0, .inr (12, [.int 0, .int 1, .ref h1, .ref h2, .ref h3, .ref h4, .ref h5, .ref h6, .ref h7, .ref h8, .int 0, .int 0, .int 0, .int 0, .int 0, .int 0, .ref h9, .ref h10, .ref h11, .ref h12, .ref h13, .ref h14, .ref h15, .int 0])), (h1, .inl (cI, 12, .inl (fun _ => 0))), (h15, .inl (cI, 28, .inl (upd (upd (upd (upd (upd (upd (fun _ => 0) 1 1) 2 0) 3 0) 4 0) 5 0) 6 0)))] := hD
            refine lv_iinc (v := 5) (lv' := [(3, .int 5), (2, .int 0), (0, .ref h0), (1, .int 0)]) hx hb dX12_keeps_51 hl (k := 0) rfl (by decide) (by decide) rfl (fun ls hl => ?_)
            refine lv_goto (tgt := 29) hx hb dX12_keeps_54 (by decide) ?_
            refine lv_iload_n hx hb dX12_keeps_29 rfl (lv_at hl 0 rfl) ?_
            refine lv_bipush (v := 12) hx hb dX12_keeps_30 (by decide) ?_
            refine lv_icmp_ge (tgt := 57) hx hb dX12_keeps_32 (by decide) (fun c2535 => ?_) (fun c2535 => ?_)
            · exact absurd c2535 (by decide)
            · refine lv_aload_n hx hb dX12_keeps_35 rfl (lv_at hl 2 rfl) ?_
              refine va_get (D := D) (ci := 12) (v := .ref h15) (C := RX12) (T := TX12) (N := 24) hx hb hts hin12 hown hK hP 0 rfl rfl 22 (by decide) (hts (.fieldLink RX12 56 "MissedPointsModel" "kept" "[I") (by decide +kernel)) (fun _ h9 => h9) rfl dX12_keeps_36 ?_
              refine lv_iload_n hx hb dX12_keeps_39 rfl (lv_at hl 1 rfl) ?_
              refine lv_iconst (v := 2) hx hb dX12_keeps_40 (by decide) ?_
              refine lv_iadd hx hb dX12_keeps_41 ?_
              refine lz_top (y := 2) (by decide) ?_
              refine lv_iload_n hx hb dX12_keeps_42 rfl (lv_at hl 0 rfl) ?_
              refine lv_iadd hx hb dX12_keeps_43 ?_
              refine lz_top (y := 7) (by decide) ?_
              refine lv_aload_n hx hb dX12_keeps_44 rfl (lv_at hl 2 rfl) ?_
              refine va_get (D := D) (ci := 12) (v := .ref h1) (C := RX12) (T := TX12) (N := 24) hx hb hts hin12 hown hK hP 0 rfl rfl 2 (by decide) (hts (.fieldLink RX12 13 "MissedPointsModel" "near" "[I") (by decide +kernel)) (fun _ h9 => h9) rfl dX12_keeps_45 ?_
              refine lv_iload_n hx hb dX12_keeps_48 rfl (lv_at hl 0 rfl) ?_
              refine va_iald hx hb hK hP 1 0 rfl rfl (lz_vp (x := 5) (n := 12) (by decide) (by decide)) dX12_keeps_49 ?_
              refine lz_top (y := 0) rfl ?_
              refine va_iast hx hb hK hP hD hS 2 0 rfl rfl (lz_vp (x := 7) (n := 28) (by decide) (by decide)) dX12_keeps_50 (fun H locs hP hD hS => ?_)
              have hP : va_P D cls [(h0, .inr (12, [.int 0, .int 1, .ref h1, .ref h2, .ref h3, .ref h4, .ref h5, .ref h6, .ref h7, .ref h8, .int 0, .int 0, .int 0, .int 0, .int 0, .int 0, .ref h9, .ref h10, .ref h11, .ref h12, .ref h13, .ref h14, .ref h15, .int 0])), (h1, .inl (cI, 12, .inl (fun _ => 0))), (h15, .inl (cI, 28, .inl (upd (upd (upd (upd (upd (upd (upd (fun _ => 0) 1 1) 2 0) 3 0) 4 0) 5 0) 6 0) 7 0)))] H := hP
              have hD : va_D A [(h0, .inr (12, [.int 0, .int 1, .ref h1, .ref h2, .ref h3, .ref h4, .ref h5, .ref h6, .ref h7, .ref h8, .int 0, .int 0, .int 0, .int 0, .int 0, .int 0, .ref h9, .ref h10, .ref h11, .ref h12, .ref h13, .ref h14, .ref h15, .int 0])), (h1, .inl (cI, 12, .inl (fun _ => 0))), (h15, .inl (cI, 28, .inl (upd (upd (upd (upd (upd (upd (upd (fun _ => 0) 1 1) 2 0) 3 0) 4 0) 5 0) 6 0) 7 0)))] := hD
              refine lv_iinc (v := 6) (lv' := [(3, .int 6), (2, .int 0), (0, .ref h0), (1, .int 0)]) hx hb dX12_keeps_51 hl (k := 0) rfl (by decide) (by decide) rfl (fun ls hl => ?_)
              refine lv_goto (tgt := 29) hx hb dX12_keeps_54 (by decide) ?_
              refine lv_iload_n hx hb dX12_keeps_29 rfl (lv_at hl 0 rfl) ?_
              refine lv_bipush (v := 12) hx hb dX12_keeps_30 (by decide) ?_
              refine lv_icmp_ge (tgt := 57) hx hb dX12_keeps_32 (by decide) (fun c2536 => ?_) (fun c2536 => ?_)
              · exact absurd c2536 (by decide)
              · refine lv_aload_n hx hb dX12_keeps_35 rfl (lv_at hl 2 rfl) ?_
                refine va_get (D := D) (ci := 12) (v := .ref h15) (C := RX12) (T := TX12) (N := 24) hx hb hts hin12 hown hK hP 0 rfl rfl 22 (by decide) (hts (.fieldLink RX12 56 "MissedPointsModel" "kept" "[I") (by decide +kernel)) (fun _ h9 => h9) rfl dX12_keeps_36 ?_
                refine lv_iload_n hx hb dX12_keeps_39 rfl (lv_at hl 1 rfl) ?_
                refine lv_iconst (v := 2) hx hb dX12_keeps_40 (by decide) ?_
                refine lv_iadd hx hb dX12_keeps_41 ?_
                refine lz_top (y := 2) (by decide) ?_
                refine lv_iload_n hx hb dX12_keeps_42 rfl (lv_at hl 0 rfl) ?_
                refine lv_iadd hx hb dX12_keeps_43 ?_
                refine lz_top (y := 8) (by decide) ?_
                refine lv_aload_n hx hb dX12_keeps_44 rfl (lv_at hl 2 rfl) ?_
                refine va_get (D := D) (ci := 12) (v := .ref h1) (C := RX12) (T := TX12) (N := 24) hx hb hts hin12 hown hK hP 0 rfl rfl 2 (by decide) (hts (.fieldLink RX12 13 "MissedPointsModel" "near" "[I") (by decide +kernel)) (fun _ h9 => h9) rfl dX12_keeps_45 ?_
                refine lv_iload_n hx hb dX12_keeps_48 rfl (lv_at hl 0 rfl) ?_
                refine va_iald hx hb hK hP 1 0 rfl rfl (lz_vp (x := 6) (n := 12) (by decide) (by decide)) dX12_keeps_49 ?_
                refine lz_top (y := 0) rfl ?_
                refine va_iast hx hb hK hP hD hS 2 0 rfl rfl (lz_vp (x := 8) (n := 28) (by decide) (by decide)) dX12_keeps_50 (fun H locs hP hD hS => ?_)
                have hP : va_P D cls [(h0, .inr (12, [.int 0, .int 1, .ref h1, .ref h2, .ref h3, .ref h4, .ref h5, .ref h6, .ref h7, .ref h8, .int 0, .int 0, .int 0, .int 0, .int 0, .int 0, .ref h9, .ref h10, .ref h11, .ref h12, .ref h13, .ref h14, .ref h15, .int 0])), (h1, .inl (cI, 12, .inl (fun _ => 0))), (h15, .inl (cI, 28, .inl (upd (upd (upd (upd (upd (upd (upd (upd (fun _ => 0) 1 1) 2 0) 3 0) 4 0) 5 0) 6 0) 7 0) 8 0)))] H := hP
                have hD : va_D A [(h0, .inr (12, [.int 0, .int 1, .ref h1, .ref h2, .ref h3, .ref h4, .ref h5, .ref h6, .ref h7, .ref h8, .int 0, .int 0, .int 0, .int 0, .int 0, .int 0, .ref h9, .ref h10, .ref h11, .ref h12, .ref h13, .ref h14, .ref h15, .int 0])), (h1, .inl (cI, 12, .inl (fun _ => 0))), (h15, .inl (cI, 28, .inl (upd (upd (upd (upd (upd (upd (upd (upd (fun _ => 0) 1 1) 2 0) 3 0) 4 0) 5 0) 6 0) 7 0) 8 0)))] := hD
                refine lv_iinc (v := 7) (lv' := [(3, .int 7), (2, .int 0), (0, .ref h0), (1, .int 0)]) hx hb dX12_keeps_51 hl (k := 0) rfl (by decide) (by decide) rfl (fun ls hl => ?_)
                refine lv_goto (tgt := 29) hx hb dX12_keeps_54 (by decide) ?_
                refine lv_iload_n hx hb dX12_keeps_29 rfl (lv_at hl 0 rfl) ?_
                refine lv_bipush (v := 12) hx hb dX12_keeps_30 (by decide) ?_
                refine lv_icmp_ge (tgt := 57) hx hb dX12_keeps_32 (by decide) (fun c2537 => ?_) (fun c2537 => ?_)
                · exact absurd c2537 (by decide)
                · refine lv_aload_n hx hb dX12_keeps_35 rfl (lv_at hl 2 rfl) ?_
                  refine va_get (D := D) (ci := 12) (v := .ref h15) (C := RX12) (T := TX12) (N := 24) hx hb hts hin12 hown hK hP 0 rfl rfl 22 (by decide) (hts (.fieldLink RX12 56 "MissedPointsModel" "kept" "[I") (by decide +kernel)) (fun _ h9 => h9) rfl dX12_keeps_36 ?_
                  refine lv_iload_n hx hb dX12_keeps_39 rfl (lv_at hl 1 rfl) ?_
                  refine lv_iconst (v := 2) hx hb dX12_keeps_40 (by decide) ?_
                  refine lv_iadd hx hb dX12_keeps_41 ?_
                  refine lz_top (y := 2) (by decide) ?_
                  refine lv_iload_n hx hb dX12_keeps_42 rfl (lv_at hl 0 rfl) ?_
                  refine lv_iadd hx hb dX12_keeps_43 ?_
                  refine lz_top (y := 9) (by decide) ?_
                  refine lv_aload_n hx hb dX12_keeps_44 rfl (lv_at hl 2 rfl) ?_
                  refine va_get (D := D) (ci := 12) (v := .ref h1) (C := RX12) (T := TX12) (N := 24) hx hb hts hin12 hown hK hP 0 rfl rfl 2 (by decide) (hts (.fieldLink RX12 13 "MissedPointsModel" "near" "[I") (by decide +kernel)) (fun _ h9 => h9) rfl dX12_keeps_45 ?_
                  refine lv_iload_n hx hb dX12_keeps_48 rfl (lv_at hl 0 rfl) ?_
                  refine va_iald hx hb hK hP 1 0 rfl rfl (lz_vp (x := 7) (n := 12) (by decide) (by decide)) dX12_keeps_49 ?_
                  refine lz_top (y := 0) rfl ?_
                  refine va_iast hx hb hK hP hD hS 2 0 rfl rfl (lz_vp (x := 9) (n := 28) (by decide) (by decide)) dX12_keeps_50 (fun H locs hP hD hS => ?_)
                  have hP : va_P D cls [(h0, .inr (12, [.int 0, .int 1, .ref h1, .ref h2, .ref h3, .ref h4, .ref h5, .ref h6, .ref h7, .ref h8, .int 0, .int 0, .int 0, .int 0, .int 0, .int 0, .ref h9, .ref h10, .ref h11, .ref h12, .ref h13, .ref h14, .ref h15, .int 0])), (h1, .inl (cI, 12, .inl (fun _ => 0))), (h15, .inl (cI, 28, .inl (upd (upd (upd (upd (upd (upd (upd (upd (upd (fun _ => 0) 1 1) 2 0) 3 0) 4 0) 5 0) 6 0) 7 0) 8 0) 9 0)))] H := hP
                  have hD : va_D A [(h0, .inr (12, [.int 0, .int 1, .ref h1, .ref h2, .ref h3, .ref h4, .ref h5, .ref h6, .ref h7, .ref h8, .int 0, .int 0, .int 0, .int 0, .int 0, .int 0, .ref h9, .ref h10, .ref h11, .ref h12, .ref h13, .ref h14, .ref h15, .int 0])), (h1, .inl (cI, 12, .inl (fun _ => 0))), (h15, .inl (cI, 28, .inl (upd (upd (upd (upd (upd (upd (upd (upd (upd (fun _ => 0) 1 1) 2 0) 3 0) 4 0) 5 0) 6 0) 7 0) 8 0) 9 0)))] := hD
                  refine lv_iinc (v := 8) (lv' := [(3, .int 8), (2, .int 0), (0, .ref h0), (1, .int 0)]) hx hb dX12_keeps_51 hl (k := 0) rfl (by decide) (by decide) rfl (fun ls hl => ?_)
                  refine lv_goto (tgt := 29) hx hb dX12_keeps_54 (by decide) ?_
                  refine lv_iload_n hx hb dX12_keeps_29 rfl (lv_at hl 0 rfl) ?_
                  refine lv_bipush (v := 12) hx hb dX12_keeps_30 (by decide) ?_
                  refine lv_icmp_ge (tgt := 57) hx hb dX12_keeps_32 (by decide) (fun c2538 => ?_) (fun c2538 => ?_)
                  · exact absurd c2538 (by decide)
                  · refine lv_aload_n hx hb dX12_keeps_35 rfl (lv_at hl 2 rfl) ?_
                    refine va_get (D := D) (ci := 12) (v := .ref h15) (C := RX12) (T := TX12) (N := 24) hx hb hts hin12 hown hK hP 0 rfl rfl 22 (by decide) (hts (.fieldLink RX12 56 "MissedPointsModel" "kept" "[I") (by decide +kernel)) (fun _ h9 => h9) rfl dX12_keeps_36 ?_
                    refine lv_iload_n hx hb dX12_keeps_39 rfl (lv_at hl 1 rfl) ?_
                    refine lv_iconst (v := 2) hx hb dX12_keeps_40 (by decide) ?_
                    refine lv_iadd hx hb dX12_keeps_41 ?_
                    refine lz_top (y := 2) (by decide) ?_
                    refine lv_iload_n hx hb dX12_keeps_42 rfl (lv_at hl 0 rfl) ?_
                    refine lv_iadd hx hb dX12_keeps_43 ?_
                    refine lz_top (y := 10) (by decide) ?_
                    refine lv_aload_n hx hb dX12_keeps_44 rfl (lv_at hl 2 rfl) ?_
                    refine va_get (D := D) (ci := 12) (v := .ref h1) (C := RX12) (T := TX12) (N := 24) hx hb hts hin12 hown hK hP 0 rfl rfl 2 (by decide) (hts (.fieldLink RX12 13 "MissedPointsModel" "near" "[I") (by decide +kernel)) (fun _ h9 => h9) rfl dX12_keeps_45 ?_
                    refine lv_iload_n hx hb dX12_keeps_48 rfl (lv_at hl 0 rfl) ?_
                    refine va_iald hx hb hK hP 1 0 rfl rfl (lz_vp (x := 8) (n := 12) (by decide) (by decide)) dX12_keeps_49 ?_
                    refine lz_top (y := 0) rfl ?_
                    refine va_iast hx hb hK hP hD hS 2 0 rfl rfl (lz_vp (x := 10) (n := 28) (by decide) (by decide)) dX12_keeps_50 (fun H locs hP hD hS => ?_)
                    have hP : va_P D cls [(h0, .inr (12, [.int 0, .int 1, .ref h1, .ref h2, .ref h3, .ref h4, .ref h5, .ref h6, .ref h7, .ref h8, .int 0, .int 0, .int 0, .int 0, .int 0, .int 0, .ref h9, .ref h10, .ref h11, .ref h12, .ref h13, .ref h14, .ref h15, .int 0])), (h1, .inl (cI, 12, .inl (fun _ => 0))), (h15, .inl (cI, 28, .inl (upd (upd (upd (upd (upd (upd (upd (upd (upd (upd (fun _ => 0) 1 1) 2 0) 3 0) 4 0) 5 0) 6 0) 7 0) 8 0) 9 0) 10 0)))] H := hP
                    have hD : va_D A [(h0, .inr (12, [.int 0, .int 1, .ref h1, .ref h2, .ref h3, .ref h4, .ref h5, .ref h6, .ref h7, .ref h8, .int 0, .int 0, .int 0, .int 0, .int 0, .int 0, .ref h9, .ref h10, .ref h11, .ref h12, .ref h13, .ref h14, .ref h15, .int 0])), (h1, .inl (cI, 12, .inl (fun _ => 0))), (h15, .inl (cI, 28, .inl (upd (upd (upd (upd (upd (upd (upd (upd (upd (upd (fun _ => 0) 1 1) 2 0) 3 0) 4 0) 5 0) 6 0) 7 0) 8 0) 9 0) 10 0)))] := hD
                    refine lv_iinc (v := 9) (lv' := [(3, .int 9), (2, .int 0), (0, .ref h0), (1, .int 0)]) hx hb dX12_keeps_51 hl (k := 0) rfl (by decide) (by decide) rfl (fun ls hl => ?_)
                    refine lv_goto (tgt := 29) hx hb dX12_keeps_54 (by decide) ?_
                    refine lv_iload_n hx hb dX12_keeps_29 rfl (lv_at hl 0 rfl) ?_
                    refine lv_bipush (v := 12) hx hb dX12_keeps_30 (by decide) ?_
                    refine lv_icmp_ge (tgt := 57) hx hb dX12_keeps_32 (by decide) (fun c2539 => ?_) (fun c2539 => ?_)
                    · exact absurd c2539 (by decide)
                    · refine lv_aload_n hx hb dX12_keeps_35 rfl (lv_at hl 2 rfl) ?_
                      refine va_get (D := D) (ci := 12) (v := .ref h15) (C := RX12) (T := TX12) (N := 24) hx hb hts hin12 hown hK hP 0 rfl rfl 22 (by decide) (hts (.fieldLink RX12 56 "MissedPointsModel" "kept" "[I") (by decide +kernel)) (fun _ h9 => h9) rfl dX12_keeps_36 ?_
                      refine lv_iload_n hx hb dX12_keeps_39 rfl (lv_at hl 1 rfl) ?_
                      refine lv_iconst (v := 2) hx hb dX12_keeps_40 (by decide) ?_
                      refine lv_iadd hx hb dX12_keeps_41 ?_
                      refine lz_top (y := 2) (by decide) ?_
                      refine lv_iload_n hx hb dX12_keeps_42 rfl (lv_at hl 0 rfl) ?_
                      refine lv_iadd hx hb dX12_keeps_43 ?_
                      refine lz_top (y := 11) (by decide) ?_
                      refine lv_aload_n hx hb dX12_keeps_44 rfl (lv_at hl 2 rfl) ?_
                      refine va_get (D := D) (ci := 12) (v := .ref h1) (C := RX12) (T := TX12) (N := 24) hx hb hts hin12 hown hK hP 0 rfl rfl 2 (by decide) (hts (.fieldLink RX12 13 "MissedPointsModel" "near" "[I") (by decide +kernel)) (fun _ h9 => h9) rfl dX12_keeps_45 ?_
                      refine lv_iload_n hx hb dX12_keeps_48 rfl (lv_at hl 0 rfl) ?_
                      refine va_iald hx hb hK hP 1 0 rfl rfl (lz_vp (x := 9) (n := 12) (by decide) (by decide)) dX12_keeps_49 ?_
                      refine lz_top (y := 0) rfl ?_
                      refine va_iast hx hb hK hP hD hS 2 0 rfl rfl (lz_vp (x := 11) (n := 28) (by decide) (by decide)) dX12_keeps_50 (fun H locs hP hD hS => ?_)
                      have hP : va_P D cls [(h0, .inr (12, [.int 0, .int 1, .ref h1, .ref h2, .ref h3, .ref h4, .ref h5, .ref h6, .ref h7, .ref h8, .int 0, .int 0, .int 0, .int 0, .int 0, .int 0, .ref h9, .ref h10, .ref h11, .ref h12, .ref h13, .ref h14, .ref h15, .int 0])), (h1, .inl (cI, 12, .inl (fun _ => 0))), (h15, .inl (cI, 28, .inl (upd (upd (upd (upd (upd (upd (upd (upd (upd (upd (upd (fun _ => 0) 1 1) 2 0) 3 0) 4 0) 5 0) 6 0) 7 0) 8 0) 9 0) 10 0) 11 0)))] H := hP
                      have hD : va_D A [(h0, .inr (12, [.int 0, .int 1, .ref h1, .ref h2, .ref h3, .ref h4, .ref h5, .ref h6, .ref h7, .ref h8, .int 0, .int 0, .int 0, .int 0, .int 0, .int 0, .ref h9, .ref h10, .ref h11, .ref h12, .ref h13, .ref h14, .ref h15, .int 0])), (h1, .inl (cI, 12, .inl (fun _ => 0))), (h15, .inl (cI, 28, .inl (upd (upd (upd (upd (upd (upd (upd (upd (upd (upd (upd (fun _ => 0) 1 1) 2 0) 3 0) 4 0) 5 0) 6 0) 7 0) 8 0) 9 0) 10 0) 11 0)))] := hD
                      refine lv_iinc (v := 10) (lv' := [(3, .int 10), (2, .int 0), (0, .ref h0), (1, .int 0)]) hx hb dX12_keeps_51 hl (k := 0) rfl (by decide) (by decide) rfl (fun ls hl => ?_)
                      refine lv_goto (tgt := 29) hx hb dX12_keeps_54 (by decide) ?_
                      refine lv_iload_n hx hb dX12_keeps_29 rfl (lv_at hl 0 rfl) ?_
                      refine lv_bipush (v := 12) hx hb dX12_keeps_30 (by decide) ?_
                      refine lv_icmp_ge (tgt := 57) hx hb dX12_keeps_32 (by decide) (fun c2540 => ?_) (fun c2540 => ?_)
                      · exact absurd c2540 (by decide)
                      · refine lv_aload_n hx hb dX12_keeps_35 rfl (lv_at hl 2 rfl) ?_
                        refine va_get (D := D) (ci := 12) (v := .ref h15) (C := RX12) (T := TX12) (N := 24) hx hb hts hin12 hown hK hP 0 rfl rfl 22 (by decide) (hts (.fieldLink RX12 56 "MissedPointsModel" "kept" "[I") (by decide +kernel)) (fun _ h9 => h9) rfl dX12_keeps_36 ?_
                        refine lv_iload_n hx hb dX12_keeps_39 rfl (lv_at hl 1 rfl) ?_
                        refine lv_iconst (v := 2) hx hb dX12_keeps_40 (by decide) ?_
                        refine lv_iadd hx hb dX12_keeps_41 ?_
                        refine lz_top (y := 2) (by decide) ?_
                        refine lv_iload_n hx hb dX12_keeps_42 rfl (lv_at hl 0 rfl) ?_
                        refine lv_iadd hx hb dX12_keeps_43 ?_
                        refine lz_top (y := 12) (by decide) ?_
                        refine lv_aload_n hx hb dX12_keeps_44 rfl (lv_at hl 2 rfl) ?_
                        refine va_get (D := D) (ci := 12) (v := .ref h1) (C := RX12) (T := TX12) (N := 24) hx hb hts hin12 hown hK hP 0 rfl rfl 2 (by decide) (hts (.fieldLink RX12 13 "MissedPointsModel" "near" "[I") (by decide +kernel)) (fun _ h9 => h9) rfl dX12_keeps_45 ?_
                        refine lv_iload_n hx hb dX12_keeps_48 rfl (lv_at hl 0 rfl) ?_
                        refine va_iald hx hb hK hP 1 0 rfl rfl (lz_vp (x := 10) (n := 12) (by decide) (by decide)) dX12_keeps_49 ?_
                        refine lz_top (y := 0) rfl ?_
                        refine va_iast hx hb hK hP hD hS 2 0 rfl rfl (lz_vp (x := 12) (n := 28) (by decide) (by decide)) dX12_keeps_50 (fun H locs hP hD hS => ?_)
                        have hP : va_P D cls [(h0, .inr (12, [.int 0, .int 1, .ref h1, .ref h2, .ref h3, .ref h4, .ref h5, .ref h6, .ref h7, .ref h8, .int 0, .int 0, .int 0, .int 0, .int 0, .int 0, .ref h9, .ref h10, .ref h11, .ref h12, .ref h13, .ref h14, .ref h15, .int 0])), (h1, .inl (cI, 12, .inl (fun _ => 0))), (h15, .inl (cI, 28, .inl (upd (upd (upd (upd (upd (upd (upd (upd (upd (upd (upd (upd (fun _ => 0) 1 1) 2 0) 3 0) 4 0) 5 0) 6 0) 7 0) 8 0) 9 0) 10 0) 11 0) 12 0)))] H := hP
                        have hD : va_D A [(h0, .inr (12, [.int 0, .int 1, .ref h1, .ref h2, .ref h3, .ref h4, .ref h5, .ref h6, .ref h7, .ref h8, .int 0, .int 0, .int 0, .int 0, .int 0, .int 0, .ref h9, .ref h10, .ref h11, .ref h12, .ref h13, .ref h14, .ref h15, .int 0])), (h1, .inl (cI, 12, .inl (fun _ => 0))), (h15, .inl (cI, 28, .inl (upd (upd (upd (upd (upd (upd (upd (upd (upd (upd (upd (upd (fun _ => 0) 1 1) 2 0) 3 0) 4 0) 5 0) 6 0) 7 0) 8 0) 9 0) 10 0) 11 0) 12 0)))] := hD
                        refine lv_iinc (v := 11) (lv' := [(3, .int 11), (2, .int 0), (0, .ref h0), (1, .int 0)]) hx hb dX12_keeps_51 hl (k := 0) rfl (by decide) (by decide) rfl (fun ls hl => ?_)
                        refine lv_goto (tgt := 29) hx hb dX12_keeps_54 (by decide) ?_
                        refine lv_iload_n hx hb dX12_keeps_29 rfl (lv_at hl 0 rfl) ?_
                        refine lv_bipush (v := 12) hx hb dX12_keeps_30 (by decide) ?_
                        refine lv_icmp_ge (tgt := 57) hx hb dX12_keeps_32 (by decide) (fun c2541 => ?_) (fun c2541 => ?_)
                        · exact absurd c2541 (by decide)
                        · refine lv_aload_n hx hb dX12_keeps_35 rfl (lv_at hl 2 rfl) ?_
                          refine va_get (D := D) (ci := 12) (v := .ref h15) (C := RX12) (T := TX12) (N := 24) hx hb hts hin12 hown hK hP 0 rfl rfl 22 (by decide) (hts (.fieldLink RX12 56 "MissedPointsModel" "kept" "[I") (by decide +kernel)) (fun _ h9 => h9) rfl dX12_keeps_36 ?_
                          refine lv_iload_n hx hb dX12_keeps_39 rfl (lv_at hl 1 rfl) ?_
                          refine lv_iconst (v := 2) hx hb dX12_keeps_40 (by decide) ?_
                          refine lv_iadd hx hb dX12_keeps_41 ?_
                          refine lz_top (y := 2) (by decide) ?_
                          refine lv_iload_n hx hb dX12_keeps_42 rfl (lv_at hl 0 rfl) ?_
                          refine lv_iadd hx hb dX12_keeps_43 ?_
                          refine lz_top (y := 13) (by decide) ?_
                          refine lv_aload_n hx hb dX12_keeps_44 rfl (lv_at hl 2 rfl) ?_
                          refine va_get (D := D) (ci := 12) (v := .ref h1) (C := RX12) (T := TX12) (N := 24) hx hb hts hin12 hown hK hP 0 rfl rfl 2 (by decide) (hts (.fieldLink RX12 13 "MissedPointsModel" "near" "[I") (by decide +kernel)) (fun _ h9 => h9) rfl dX12_keeps_45 ?_
                          refine lv_iload_n hx hb dX12_keeps_48 rfl (lv_at hl 0 rfl) ?_
                          refine va_iald hx hb hK hP 1 0 rfl rfl (lz_vp (x := 11) (n := 12) (by decide) (by decide)) dX12_keeps_49 ?_
                          refine lz_top (y := 0) rfl ?_
                          refine va_iast hx hb hK hP hD hS 2 0 rfl rfl (lz_vp (x := 13) (n := 28) (by decide) (by decide)) dX12_keeps_50 (fun H locs hP hD hS => ?_)
                          have hP : va_P D cls [(h0, .inr (12, [.int 0, .int 1, .ref h1, .ref h2, .ref h3, .ref h4, .ref h5, .ref h6, .ref h7, .ref h8, .int 0, .int 0, .int 0, .int 0, .int 0, .int 0, .ref h9, .ref h10, .ref h11, .ref h12, .ref h13, .ref h14, .ref h15, .int 0])), (h1, .inl (cI, 12, .inl (fun _ => 0))), (h15, .inl (cI, 28, .inl (upd (upd (upd (upd (upd (upd (upd (upd (upd (upd (upd (upd (upd (fun _ => 0) 1 1) 2 0) 3 0) 4 0) 5 0) 6 0) 7 0) 8 0) 9 0) 10 0) 11 0) 12 0) 13 0)))] H := hP
                          have hD : va_D A [(h0, .inr (12, [.int 0, .int 1, .ref h1, .ref h2, .ref h3, .ref h4, .ref h5, .ref h6, .ref h7, .ref h8, .int 0, .int 0, .int 0, .int 0, .int 0, .int 0, .ref h9, .ref h10, .ref h11, .ref h12, .ref h13, .ref h14, .ref h15, .int 0])), (h1, .inl (cI, 12, .inl (fun _ => 0))), (h15, .inl (cI, 28, .inl (upd (upd (upd (upd (upd (upd (upd (upd (upd (upd (upd (upd (upd (fun _ => 0) 1 1) 2 0) 3 0) 4 0) 5 0) 6 0) 7 0) 8 0) 9 0) 10 0) 11 0) 12 0) 13 0)))] := hD
                          refine lv_iinc (v := 12) (lv' := [(3, .int 12), (2, .int 0), (0, .ref h0), (1, .int 0)]) hx hb dX12_keeps_51 hl (k := 0) rfl (by decide) (by decide) rfl (fun ls hl => ?_)
                          refine lv_goto (tgt := 29) hx hb dX12_keeps_54 (by decide) ?_
                          refine lv_iload_n hx hb dX12_keeps_29 rfl (lv_at hl 0 rfl) ?_
                          refine lv_bipush (v := 12) hx hb dX12_keeps_30 (by decide) ?_
                          refine lv_icmp_ge (tgt := 57) hx hb dX12_keeps_32 (by decide) (fun c2542 => ?_) (fun c2542 => ?_)
                          · have hP9 := hP.sub (ws' := [(h0, .inr (12, [.int 0, .int 1, .ref h1, .ref h2, .ref h3, .ref h4, .ref h5, .ref h6, .ref h7, .ref h8, .int 0, .int 0, .int 0, .int 0, .int 0, .int 0, .ref h9, .ref h10, .ref h11, .ref h12, .ref h13, .ref h14, .ref h15, .int 0])), (h1, .inl (cI, 12, .inl (fun _ => 0))), (h15, .inl (cI, 28, .inl (upd (upd (upd (upd (upd (upd (upd (upd (upd (upd (upd (upd (upd (fun _ => 0) 1 1) 2 0) 3 0) 4 0) 5 0) 6 0) 7 0) 8 0) 9 0) 10 0) 11 0) 12 0) 13 0)))]) [0, 1, 2] rfl
                            have hD9 := hD.sub (ws' := [(h0, .inr (12, [.int 0, .int 1, .ref h1, .ref h2, .ref h3, .ref h4, .ref h5, .ref h6, .ref h7, .ref h8, .int 0, .int 0, .int 0, .int 0, .int 0, .int 0, .ref h9, .ref h10, .ref h11, .ref h12, .ref h13, .ref h14, .ref h15, .int 0])), (h1, .inl (cI, 12, .inl (fun _ => 0))), (h15, .inl (cI, 28, .inl (upd (upd (upd (upd (upd (upd (upd (upd (upd (upd (upd (upd (upd (fun _ => 0) 1 1) 2 0) 3 0) 4 0) 5 0) 6 0) 7 0) 8 0) 9 0) 10 0) 11 0) 12 0) 13 0)))]) [0, 1, 2] (by decide) rfl
                            subst hAe
                            exact W.vret hx hb hr (fun t ht hW => ⟨⟨(), rfl, trivial, by rw [ht]; exact hP9, hD9⟩, hS.F ht⟩) hS.2.2 dX12_keeps_57
                          · exact absurd c2542 (by decide)
set_option maxHeartbeats 4000000 in
set_option maxRecDepth 100000 in
theorem c_X12_image_0 (l : Launch) (D : va_G) (cI cS : ClassId) (sz : Nat) (h0 h1 h2 h3 h4 h5 h6 h7 h8 h9 h10 h11 h12 h13 h14 h15 : Nat) : Met l yX12_image wsX12_image ({ frames := 1, cells := 0, slots := 0, locals := 40 }) (PQ D cI cS [(h0, .inr (12, [.int 0, .int 1, .ref h1, .ref h2, .ref h3, .ref h4, .ref h5, .ref h6, .ref h7, .ref h8, .int 0, .int 0, .int 0, .int 0, .int 0, .int 0, .ref h9, .ref h10, .ref h11, .ref h12, .ref h13, .ref h14, .ref h15, .int 0])), (h1, .inl (cI, 12, .inl (fun _ => 0))), (h15, .inl (cI, 28, .inl (fun _ => 0)))] sz [.ref h0]) (QI D [(h0, .inr (12, [.int 0, .int 1, .ref h1, .ref h2, .ref h3, .ref h4, .ref h5, .ref h6, .ref h7, .ref h8, .int 0, .int 0, .int 0, .int 0, .int 0, .int 0, .ref h9, .ref h10, .ref h11, .ref h12, .ref h13, .ref h14, .ref h15, .int 0])), (h1, .inl (cI, 12, .inl (fun _ => 0))), (h15, .inl (cI, 28, .inl (fun _ => 0)))] [] sz (fun r => r = (0 : Int32))) 0 0 (va_A [(h0, .inr (12, [.int 0, .int 1, .ref h1, .ref h2, .ref h3, .ref h4, .ref h5, .ref h6, .ref h7, .ref h8, .int 0, .int 0, .int 0, .int 0, .int 0, .int 0, .ref h9, .ref h10, .ref h11, .ref h12, .ref h13, .ref h14, .ref h15, .int 0])), (h1, .inl (cI, 12, .inl (fun _ => 0))), (h15, .inl (cI, 28, .inl (fun _ => 0)))] sz) := by
  refine Met.ofW (cc := cX12_image) (maxL := 1) (ret := (some .int)) (by decide) rfl ?_
  intro p e s m args below meth c s₁ B hml hv
  obtain ⟨rfl, hsz, hP, hKK, hD0⟩ := hv
  have hx := B.exec
  have hb := B.bytes
  have hr := B.returns
  have hts := atoms_spec (ws := wsX12_image) B.pre
  have hown : s.vm.findClass RX12 = some m.cls := findClass_of_methodNamed B.named
  have hlocks := B.notSynchronized
  have hK := hKK.1
  have hN := hKK.2
  have hin12 : ∀ w ∈ wsX120, w ∈ wsX12_image := by decide +kernel
  subst hsz
  have hD := hD0.self (sz := s.heap.size)
  obtain ⟨A, hAe⟩ : ∃ A, A = va_A [(h0, .inr (12, [.int 0, .int 1, .ref h1, .ref h2, .ref h3, .ref h4, .ref h5, .ref h6, .ref h7, .ref h8, .int 0, .int 0, .int 0, .int 0, .int 0, .int 0, .ref h9, .ref h10, .ref h11, .ref h12, .ref h13, .ref h14, .ref h15, .int 0])), (h1, .inl (cI, 12, .inl (fun _ => 0))), (h15, .inl (cI, 28, .inl (fun _ => 0)))] s.heap.size := ⟨_, rfl⟩
  rw [← hAe] at hD
  have hA : ∀ q : Nat, s.heap.size ≤ q → A q := fun q h => by rw [hAe]; exact Or.inr h
  have hS : va_S A s.heap s.heap [] := va_S.rf
  have hl := lv_entry ([.ref h0]) (n := 1) (Nat.le_of_ble_eq_true rfl)
  rw [lg_entry_eq]
  generalize (lg_sl ([.ref h0]) ++ List.replicate (1 - (lg_sl ([.ref h0])).length) Slot.unset).toArray = ls at hl ⊢
  have hl : lv_has ls 1 [(0, .ref h0)] := hl
  refine lv_aload_n hx hb dX12_image_0 rfl (lv_at hl 0 rfl) ?_
  refine lv_iconst (v := 0) hx hb dX12_image_1 (by decide) ?_
  have hPc := hP.sub (ws' := [(h0, .inr (12, [.int 0, .int 1, .ref h1, .ref h2, .ref h3, .ref h4, .ref h5, .ref h6, .ref h7, .ref h8, .int 0, .int 0, .int 0, .int 0, .int 0, .int 0, .ref h9, .ref h10, .ref h11, .ref h12, .ref h13, .ref h14, .ref h15, .int 0])), (h1, .inl (cI, 12, .inl (fun _ => 0))), (h15, .inl (cI, 28, .inl (fun _ => 0)))]) [0, 1, 2] rfl
  have hDc := hD.sub (ws' := [(h0, .inr (12, [.int 0, .int 1, .ref h1, .ref h2, .ref h3, .ref h4, .ref h5, .ref h6, .ref h7, .ref h8, .int 0, .int 0, .int 0, .int 0, .int 0, .int 0, .ref h9, .ref h10, .ref h11, .ref h12, .ref h13, .ref h14, .ref h15, .int 0])), (h1, .inl (cI, 12, .inl (fun _ => 0))), (h15, .inl (cI, 28, .inl (fun _ => 0)))]) [0, 1, 2] (by decide) rfl
  refine lz_qv (wr := []) (w1 := [(h0, .inr (12, [.int 0, .int 1, .ref h1, .ref h2, .ref h3, .ref h4, .ref h5, .ref h6, .ref h7, .ref h8, .int 0, .int 0, .int 0, .int 0, .int 0, .int 0, .ref h9, .ref h10, .ref h11, .ref h12, .ref h13, .ref h14, .ref h15, .int 0])), (h1, .inl (cI, 12, .inl (fun _ => 0))), (h15, .inl (cI, 28, .inl (upd (upd (upd (upd (upd (upd (upd (upd (upd (upd (upd (upd (upd (fun _ => 0) 1 1) 2 0) 3 0) 4 0) 5 0) 6 0) 7 0) 8 0) 9 0) 10 0) 11 0) 12 0) 13 0)))]) (As := [.int 0]) (rest := []) ⟨hx, hb, hml, hown, hts⟩ (c_X12_keeps_1 l D cI cS _ h0 h1 h2 h3 h4 h5 h6 h7 h8 h9 h10 h11 h12 h13 h14 h15) hKK hP hD hS hA [0, 1, 2] [] (by decide) rfl rfl (by decide) (by decide) hPc hDc (ci := 12) rfl rfl (cwV 1 hts gX12_image_X12_keeps rfl rfl rfl (by decide +kernel) ⟨Nat.le_of_ble_eq_true rfl, Nat.le_of_ble_eq_true rfl⟩) rfl hl.1 rfl (Nat.le_of_ble_eq_true rfl) dX12_image_2 ⟨Nat.le_of_ble_eq_true rfl, Nat.le_of_ble_eq_true rfl⟩ (fun H locs hP hD hS => ?_)
  have hP : va_P D cls [(h0, .inr (12, [.int 0, .int 1, .ref h1, .ref h2, .ref h3, .ref h4, .ref h5, .ref h6, .ref h7, .ref h8, .int 0, .int 0, .int 0, .int 0, .int 0, .int 0, .ref h9, .ref h10, .ref h11, .ref h12, .ref h13, .ref h14, .ref h15, .int 0])), (h1, .inl (cI, 12, .inl (fun _ => 0))), (h15, .inl (cI, 28, .inl (upd (upd (upd (upd (upd (upd (upd (upd (upd (upd (upd (upd (upd (fun _ => 0) 1 1) 2 0) 3 0) 4 0) 5 0) 6 0) 7 0) 8 0) 9 0) 10 0) 11 0) 12 0) 13 0)))] H := hP
  have hD : va_D A [(h0, .inr (12, [.int 0, .int 1, .ref h1, .ref h2, .ref h3, .ref h4, .ref h5, .ref h6, .ref h7, .ref h8, .int 0, .int 0, .int 0, .int 0, .int 0, .int 0, .ref h9, .ref h10, .ref h11, .ref h12, .ref h13, .ref h14, .ref h15, .int 0])), (h1, .inl (cI, 12, .inl (fun _ => 0))), (h15, .inl (cI, 28, .inl (upd (upd (upd (upd (upd (upd (upd (upd (upd (upd (upd (upd (upd (fun _ => 0) 1 1) 2 0) 3 0) 4 0) 5 0) 6 0) 7 0) 8 0) 9 0) 10 0) 11 0) 12 0) 13 0)))] := hD
  refine lv_aload_n hx hb dX12_image_5 rfl (lv_at hl 0 rfl) ?_
  refine lv_iconst (v := 1) hx hb dX12_image_6 (by decide) ?_
  refine va_put (D := D) (ci := 12) (v := .int 1) (ty := .boolean) (C := RX12) (T := TX12) (N := 24) hx hb hts hin12 tyX12 tyX12_ok nmX12 hown hK hP hD hS 0 rfl rfl 23 (by decide) (hts (.fieldLink RX12 237 "MissedPointsModel" "hasImage" "Z") (by decide +kernel)) (fun _ h9 => h9) rfl (by decide +kernel) rfl rfl (Nat.le_of_ble_eq_true rfl) dX12_image_7 (fun H locs hP hD hS => ?_)
  have hP : va_P D cls [(h0, .inr (12, [.int 0, .int 1, .ref h1, .ref h2, .ref h3, .ref h4, .ref h5, .ref h6, .ref h7, .ref h8, .int 0, .int 0, .int 0, .int 0, .int 0, .int 0, .ref h9, .ref h10, .ref h11, .ref h12, .ref h13, .ref h14, .ref h15, .int 1])), (h1, .inl (cI, 12, .inl (fun _ => 0))), (h15, .inl (cI, 28, .inl (upd (upd (upd (upd (upd (upd (upd (upd (upd (upd (upd (upd (upd (fun _ => 0) 1 1) 2 0) 3 0) 4 0) 5 0) 6 0) 7 0) 8 0) 9 0) 10 0) 11 0) 12 0) 13 0)))] H := hP
  have hD : va_D A [(h0, .inr (12, [.int 0, .int 1, .ref h1, .ref h2, .ref h3, .ref h4, .ref h5, .ref h6, .ref h7, .ref h8, .int 0, .int 0, .int 0, .int 0, .int 0, .int 0, .ref h9, .ref h10, .ref h11, .ref h12, .ref h13, .ref h14, .ref h15, .int 1])), (h1, .inl (cI, 12, .inl (fun _ => 0))), (h15, .inl (cI, 28, .inl (upd (upd (upd (upd (upd (upd (upd (upd (upd (upd (upd (upd (upd (fun _ => 0) 1 1) 2 0) 3 0) 4 0) 5 0) 6 0) 7 0) 8 0) 9 0) 10 0) 11 0) 12 0) 13 0)))] := hD
  refine lv_aload_n hx hb dX12_image_10 rfl (lv_at hl 0 rfl) ?_
  refine va_get (D := D) (ci := 12) (v := .int 0) (C := RX12) (T := TX12) (N := 24) hx hb hts hin12 hown hK hP 0 rfl rfl 0 (by decide) (hts (.fieldLink RX12 63 "MissedPointsModel" "many" "I") (by decide +kernel)) (fun _ h9 => h9) rfl dX12_image_11 ?_
  have hP9 := hP.sub (ws' := []) [] rfl
  have hD9 := hD.sub (ws' := []) [] (by decide) rfl
  subst hAe
  exact W.iret (v := 0) hx hb hr (fun t ht hW => ⟨⟨_, (), rfl, rfl, by rw [ht]; exact hP9, hD9⟩, hS.F ht⟩) hS.2.2 dX12_image_14
set_option maxHeartbeats 4000000 in
set_option maxRecDepth 100000 in
theorem c_X12_back_0 (l : Launch) (D : va_G) (cI cS : ClassId) (h0 h1 h2 h3 h4 h5 h6 h7 h8 h9 h10 h11 h12 h13 h14 h15 : Nat) : Met l yX12_back wsX12_back ({ frames := 0, cells := 0, slots := 0, locals := 0 }) (PS D cI cS [(h0, .inr (12, [.int 0, .int 1, .ref h1, .ref h2, .ref h3, .ref h4, .ref h5, .ref h6, .ref h7, .ref h8, .int 0, .int 0, .int 0, .int 0, .int 0, .int 0, .ref h9, .ref h10, .ref h11, .ref h12, .ref h13, .ref h14, .ref h15, .int 0]))] [.ref h0]) (vp_Si (fun r => r = ((-3) : Int32))) 0 0 (fun _ => False) := by
  refine Met.ofW (cc := cX12_back) (maxL := 1) (ret := (some .int)) (by decide) rfl ?_
  intro p e s m args below meth c s₁ B hml hv
  obtain ⟨rfl, hP, hKK⟩ := hv
  have hx := B.exec
  have hb := B.bytes
  have hr := B.returns
  have hts := atoms_spec (ws := wsX12_back) B.pre
  have hown : s.vm.findClass RX12 = some m.cls := findClass_of_methodNamed B.named
  have hlocks := B.notSynchronized
  have hK := hKK.1
  have hN := hKK.2
  have hin12 : ∀ w ∈ wsX120, w ∈ wsX12_back := by decide +kernel
  have hl := lv_entry ([.ref h0]) (n := 1) (Nat.le_of_ble_eq_true rfl)
  rw [lg_entry_eq]
  generalize (lg_sl ([.ref h0]) ++ List.replicate (1 - (lg_sl ([.ref h0])).length) Slot.unset).toArray = ls at hl ⊢
  have hl : lv_has ls 1 [(0, .ref h0)] := hl
  refine lv_aload_n hx hb dX12_back_0 rfl (lv_at hl 0 rfl) ?_
  refine va_get (D := D) (ci := 12) (v := .int 0) (C := RX12) (T := TX12) (N := 24) hx hb hts hin12 hown hK hP 0 rfl rfl 23 (by decide) (hts (.fieldLink RX12 237 "MissedPointsModel" "hasImage" "Z") (by decide +kernel)) (fun _ h9 => h9) rfl dX12_back_1 ?_
  refine lv_if_ne (tgt := 10) hx hb dX12_back_4 (by decide) (fun c2546 => ?_) (fun c2546 => ?_)
  · exact absurd c2546 (by decide)
  · refine lv_bipush (v := (-3)) hx hb dX12_back_7 (by decide) ?_
    exact W.iret (v := (-3)) hx hb hr (fun t ht hW => ⟨_, rfl, rfl, ht⟩) (fun q hq => absurd hq List.not_mem_nil) dX12_back_9
set_option maxHeartbeats 4000000 in
set_option maxRecDepth 100000 in
theorem c_X2_add_0 (l : Launch) (D : va_G) (cI cS : ClassId) (sz : Nat) (h0 h1 : Nat) (x0 : Int32) : Met l yX2_add wsX2_add ({ frames := 1, cells := 0, slots := 0, locals := 40 }) (PQ D cI cS [(h0, .inr (2, [.ref h1, .int 0, .int 0]))] sz [.ref h0, .int x0]) (QV D [(h0, .inr (2, [.ref h1, .int 0, .int 0]))] [(h0, .inr (2, [.ref h1, .int (if (12 : Int32) < x0 then (12 : Int32) else x0), .int 1]))] sz) 0 0 (va_A [(h0, .inr (2, [.ref h1, .int 0, .int 0]))] sz) := by
  refine Met.ofW (cc := cX2_add) (maxL := 2) (ret := none) (by decide) rfl ?_
  intro p e s m args below meth c s₁ B hml hv
  obtain ⟨rfl, hsz, hP, hKK, hD0⟩ := hv
  have hx := B.exec
  have hb := B.bytes
  have hr := B.returns
  have hts := atoms_spec (ws := wsX2_add) B.pre
  have hown : s.vm.findClass RX2 = some m.cls := findClass_of_methodNamed B.named
  have hlocks := B.notSynchronized
  have hK := hKK.1
  have hN := hKK.2
  have hin2 : ∀ w ∈ wsX20, w ∈ wsX2_add := by decide +kernel
  subst hsz
  have hD := hD0.self (sz := s.heap.size)
  obtain ⟨A, hAe⟩ : ∃ A, A = va_A [(h0, .inr (2, [.ref h1, .int 0, .int 0]))] s.heap.size := ⟨_, rfl⟩
  rw [← hAe] at hD
  have hA : ∀ q : Nat, s.heap.size ≤ q → A q := fun q h => by rw [hAe]; exact Or.inr h
  have hS : va_S A s.heap s.heap [] := va_S.rf
  have hl := lv_entry ([.ref h0, .int x0]) (n := 2) (Nat.le_of_ble_eq_true rfl)
  rw [lg_entry_eq]
  generalize (lg_sl ([.ref h0, .int x0]) ++ List.replicate (2 - (lg_sl ([.ref h0, .int x0])).length) Slot.unset).toArray = ls at hl ⊢
  have hl : lv_has ls 2 [(0, .ref h0), (1, .int x0)] := hl
  refine lv_aload_n hx hb dX2_add_0 rfl (lv_at hl 0 rfl) ?_
  refine lv_aload_n hx hb dX2_add_1 rfl (lv_at hl 0 rfl) ?_
  refine va_get (D := D) (ci := 2) (v := .int 0) (C := RX2) (T := TX2) (N := 3) hx hb hts hin2 hown hK hP 0 rfl rfl 1 (by decide) (hts (.fieldLink RX2 15 "MissedPoints$Net" "size" "I") (by decide +kernel)) (fun _ h9 => h9) rfl dX2_add_2 ?_
  refine lv_iload_n hx hb dX2_add_5 rfl (lv_at hl 1 rfl) ?_
  refine lv_iadd hx hb dX2_add_6 ?_
  refine lz_top (y := x0) (by simp) ?_
  refine lv_bipush (v := 12) hx hb dX2_add_7 (by decide) ?_
  refine va_mmin hx hb (by rw [hml]; exact hl.1.symm) hown (hts (.methodLink RX2 27 Lib.Math.min.name) (by decide +kernel)) (hts (.static Lib.Math.min.name) (by decide +kernel)) (hts (.initialized "java/lang/Math") (by decide +kernel)) (hts (.code Lib.Math.min.name Lib.Math.min.code 2 (some .int)) (by decide +kernel)) (Nat.le_of_ble_eq_true rfl) (Nat.le_of_ble_eq_true rfl) (Nat.le_of_ble_eq_true rfl) (Nat.le_of_ble_eq_true rfl) dX2_add_9 ?_
  refine va_put (D := D) (ci := 2) (v := .int (if (12 : Int32) < x0 then (12 : Int32) else x0)) (ty := .int) (C := RX2) (T := TX2) (N := 3) hx hb hts hin2 tyX2 tyX2_ok nmX2 hown hK hP hD hS 0 rfl rfl 1 (by decide) (hts (.fieldLink RX2 15 "MissedPoints$Net" "size" "I") (by decide +kernel)) (fun _ h9 => h9) rfl (by decide +kernel) rfl rfl (Nat.le_of_ble_eq_true rfl) dX2_add_12 (fun H locs hP hD hS => ?_)
  have hP : va_P D cls [(h0, .inr (2, [.ref h1, .int (if (12 : Int32) < x0 then (12 : Int32) else x0), .int 0]))] H := hP
  have hD : va_D A [(h0, .inr (2, [.ref h1, .int (if (12 : Int32) < x0 then (12 : Int32) else x0), .int 0]))] := hD
  refine lv_aload_n hx hb dX2_add_15 rfl (lv_at hl 0 rfl) ?_
  refine lv_dup hx hb dX2_add_16 rfl ?_
  refine va_get (D := D) (ci := 2) (v := .int 0) (C := RX2) (T := TX2) (N := 3) hx hb hts hin2 hown hK hP 0 rfl rfl 2 (by decide) (hts (.fieldLink RX2 33 "MissedPoints$Net" "changes" "I") (by decide +kernel)) (fun _ h9 => h9) rfl dX2_add_17 ?_
  refine lv_iconst (v := 1) hx hb dX2_add_20 (by decide) ?_
  refine lv_iadd hx hb dX2_add_21 ?_
  refine lz_top (y := 1) (by decide) ?_
  refine va_put (D := D) (ci := 2) (v := .int 1) (ty := .int) (C := RX2) (T := TX2) (N := 3) hx hb hts hin2 tyX2 tyX2_ok nmX2 hown hK hP hD hS 0 rfl rfl 2 (by decide) (hts (.fieldLink RX2 33 "MissedPoints$Net" "changes" "I") (by decide +kernel)) (fun _ h9 => h9) rfl (by decide +kernel) rfl rfl (Nat.le_of_ble_eq_true rfl) dX2_add_22 (fun H locs hP hD hS => ?_)
  have hP : va_P D cls [(h0, .inr (2, [.ref h1, .int (if (12 : Int32) < x0 then (12 : Int32) else x0), .int 1]))] H := hP
  have hD : va_D A [(h0, .inr (2, [.ref h1, .int (if (12 : Int32) < x0 then (12 : Int32) else x0), .int 1]))] := hD
  have hP9 := hP.sub (ws' := [(h0, .inr (2, [.ref h1, .int (if (12 : Int32) < x0 then (12 : Int32) else x0), .int 1]))]) [0] rfl
  have hD9 := hD.sub (ws' := [(h0, .inr (2, [.ref h1, .int (if (12 : Int32) < x0 then (12 : Int32) else x0), .int 1]))]) [0] (by decide) rfl
  subst hAe
  exact W.vret hx hb hr (fun t ht hW => ⟨⟨(), rfl, trivial, by rw [ht]; exact hP9, hD9⟩, hS.F ht⟩) hS.2.2 dX2_add_25
set_option maxHeartbeats 4000000 in
set_option maxRecDepth 100000 in
theorem c_X11_points_0 (l : Launch) (D : va_G) (cI cS : ClassId) (sz : Nat) (h0 h1 h2 h3 h4 h5 h6 h7 h8 h9 h10 h11 h12 h13 h14 h15 : Nat) (x0 : Int32) : Met l yX11_points wsX11_points ({ frames := 2, cells := 0, slots := 0, locals := 80 }) (PQ D cI cS [(h0, .inr (11, [.ref h1, .ref h2, .ref h3, .ref h4, .ref h5, .ref h6, .ref h7, .int 0, .int 0, .ref h8, .ref h9, .ref h10, .ref h11, .ref h12, .ref h13, .ref h14])), (h1, .inr (2, [.ref h15, .int 0, .int 0]))] sz [.ref h0, .int x0]) (QI D [(h0, .inr (11, [.ref h1, .ref h2, .ref h3, .ref h4, .ref h5, .ref h6, .ref h7, .int 0, .int 0, .ref h8, .ref h9, .ref h10, .ref h11, .ref h12, .ref h13, .ref h14])), (h1, .inr (2, [.ref h15, .int 0, .int 0]))] [] sz (fun r => r = if x0 < 1 then ((-2) : Int32) else (if x0 ≤ 12 then (if (12 : Int32) < x0 then (12 : Int32) else x0) else ((-2) : Int32)))) 0 0 (va_A [(h0, .inr (11, [.ref h1, .ref h2, .ref h3, .ref h4, .ref h5, .ref h6, .ref h7, .int 0, .int 0, .ref h8, .ref h9, .ref h10, .ref h11, .ref h12, .ref h13, .ref h14])), (h1, .inr (2, [.ref h15, .int 0, .int 0]))] sz) := by
  refine Met.ofW (cc := cX11_points) (maxL := 2) (ret := (some .int)) (by decide) rfl ?_
  intro p e s m args below meth c s₁ B hml hv
  obtain ⟨rfl, hsz, hP, hKK, hD0⟩ := hv
  have hx := B.exec
  have hb := B.bytes
  have hr := B.returns
  have hts := atoms_spec (ws := wsX11_points) B.pre
  have hown : s.vm.findClass RX11 = some m.cls := findClass_of_methodNamed B.named
  have hlocks := B.notSynchronized
  have hK := hKK.1
  have hN := hKK.2
  have hin2 : ∀ w ∈ wsX20, w ∈ wsX11_points := by decide +kernel
  have hin11 : ∀ w ∈ wsX110, w ∈ wsX11_points := by decide +kernel
  subst hsz
  have hD := hD0.self (sz := s.heap.size)
  obtain ⟨A, hAe⟩ : ∃ A, A = va_A [(h0, .inr (11, [.ref h1, .ref h2, .ref h3, .ref h4, .ref h5, .ref h6, .ref h7, .int 0, .int 0, .ref h8, .ref h9, .ref h10, .ref h11, .ref h12, .ref h13, .ref h14])), (h1, .inr (2, [.ref h15, .int 0, .int 0]))] s.heap.size := ⟨_, rfl⟩
  rw [← hAe] at hD
  have hA : ∀ q : Nat, s.heap.size ≤ q → A q := fun q h => by rw [hAe]; exact Or.inr h
  have hS : va_S A s.heap s.heap [] := va_S.rf
  have hl := lv_entry ([.ref h0, .int x0]) (n := 2) (Nat.le_of_ble_eq_true rfl)
  rw [lg_entry_eq]
  generalize (lg_sl ([.ref h0, .int x0]) ++ List.replicate (2 - (lg_sl ([.ref h0, .int x0])).length) Slot.unset).toArray = ls at hl ⊢
  have hl : lv_has ls 2 [(0, .ref h0), (1, .int x0)] := hl
  refine lv_iload_n hx hb dX11_points_0 rfl (lv_at hl 1 rfl) ?_
  refine lv_iconst (v := 1) hx hb dX11_points_1 (by decide) ?_
  refine lv_icmp_lt (tgt := 11) hx hb dX11_points_2 (by decide) (fun c2551 => ?_) (fun c2551 => ?_)
  · refine lv_bipush (v := (-2)) hx hb dX11_points_11 (by decide) ?_
    have hP9 := hP.sub (ws' := []) [] rfl
    have hD9 := hD.sub (ws' := []) [] (by decide) rfl
    subst hAe
    exact W.iret (v := (-2)) hx hb hr (fun t ht hW => ⟨⟨_, (), rfl, by rw [if_pos c2551], by rw [ht]; exact hP9, hD9⟩, hS.F ht⟩) hS.2.2 dX11_points_13
  · refine lv_iload_n hx hb dX11_points_5 rfl (lv_at hl 1 rfl) ?_
    refine lv_bipush (v := 12) hx hb dX11_points_6 (by decide) ?_
    refine lv_icmp_le (tgt := 14) hx hb dX11_points_8 (by decide) (fun c2552 => ?_) (fun c2552 => ?_)
    · refine lv_iload_n hx hb dX11_points_14 rfl (lv_at hl 1 rfl) ?_
      refine lv_bipush (v := 12) hx hb dX11_points_15 (by decide) ?_
      refine lv_aload_n hx hb dX11_points_17 rfl (lv_at hl 0 rfl) ?_
      refine va_get (D := D) (ci := 11) (v := .ref h1) (C := RX11) (T := TX11) (N := 16) hx hb hts hin11 hown hK hP 0 rfl rfl 0 (by decide) (hts (.fieldLink RX11 12 "MissedPoints" "net" "LMissedPoints$Net;") (by decide +kernel)) (fun _ h9 => h9) rfl dX11_points_18 ?_
      refine va_getN (D := D) (ci := 2) (v := .int 0) (C := RX2) (T := TX2) (N := 3) hx hb hts hin2 hown hK hP 1 rfl rfl 1 (by decide) (va_Nw.use rfl hN.2.2.2.2.2.2.2.2.2.1) (fun _ h9 => h9) rfl dX11_points_21 ?_
      refine lv_isub hx hb dX11_points_24 ?_
      refine lz_top (y := 12) (by decide) ?_
      refine lv_icmp_le (tgt := 31) hx hb dX11_points_25 (by decide) (fun c2553 => ?_) (fun c2553 => ?_)
      · refine lv_aload_n hx hb dX11_points_31 rfl (lv_at hl 0 rfl) ?_
        refine va_get (D := D) (ci := 11) (v := .ref h1) (C := RX11) (T := TX11) (N := 16) hx hb hts hin11 hown hK hP 0 rfl rfl 0 (by decide) (hts (.fieldLink RX11 12 "MissedPoints" "net" "LMissedPoints$Net;") (by decide +kernel)) (fun _ h9 => h9) rfl dX11_points_32 ?_
        refine lv_iload_n hx hb dX11_points_35 rfl (lv_at hl 1 rfl) ?_
        have hPc := hP.sub (ws' := [(h1, .inr (2, [.ref h15, .int 0, .int 0]))]) [1] rfl
        have hDc := hD.sub (ws' := [(h1, .inr (2, [.ref h15, .int 0, .int 0]))]) [1] (by decide) rfl
        refine lz_qv (wr := [(h0, .inr (11, [.ref h1, .ref h2, .ref h3, .ref h4, .ref h5, .ref h6, .ref h7, .int 0, .int 0, .ref h8, .ref h9, .ref h10, .ref h11, .ref h12, .ref h13, .ref h14]))]) (w1 := [(h1, .inr (2, [.ref h15, .int (if (12 : Int32) < x0 then (12 : Int32) else x0), .int 1]))]) (As := [.int x0]) (rest := []) ⟨hx, hb, hml, hown, hts⟩ (c_X2_add_0 l D cI cS _ h1 h15 x0) hKK hP hD hS hA [1] [0] (by decide) rfl rfl (by decide) (by decide) hPc hDc (ci := 2) rfl rfl (cwV 1 hts gX11_points_X2_add rfl rfl rfl (by decide +kernel) ⟨Nat.le_of_ble_eq_true rfl, Nat.le_of_ble_eq_true rfl⟩) rfl hl.1 rfl (Nat.le_of_ble_eq_true rfl) dX11_points_36 ⟨Nat.le_of_ble_eq_true rfl, Nat.le_of_ble_eq_true rfl⟩ (fun H locs hP hD hS => ?_)
        have hP : va_P D cls [(h0, .inr (11, [.ref h1, .ref h2, .ref h3, .ref h4, .ref h5, .ref h6, .ref h7, .int 0, .int 0, .ref h8, .ref h9, .ref h10, .ref h11, .ref h12, .ref h13, .ref h14])), (h1, .inr (2, [.ref h15, .int (if (12 : Int32) < x0 then (12 : Int32) else x0), .int 1]))] H := hP
        have hD : va_D A [(h0, .inr (11, [.ref h1, .ref h2, .ref h3, .ref h4, .ref h5, .ref h6, .ref h7, .int 0, .int 0, .ref h8, .ref h9, .ref h10, .ref h11, .ref h12, .ref h13, .ref h14])), (h1, .inr (2, [.ref h15, .int (if (12 : Int32) < x0 then (12 : Int32) else x0), .int 1]))] := hD
        refine lv_aload_n hx hb dX11_points_39 rfl (lv_at hl 0 rfl) ?_
        refine va_get (D := D) (ci := 11) (v := .ref h1) (C := RX11) (T := TX11) (N := 16) hx hb hts hin11 hown hK hP 0 rfl rfl 0 (by decide) (hts (.fieldLink RX11 12 "MissedPoints" "net" "LMissedPoints$Net;") (by decide +kernel)) (fun _ h9 => h9) rfl dX11_points_40 ?_
        refine va_getN (D := D) (ci := 2) (v := .int (if (12 : Int32) < x0 then (12 : Int32) else x0)) (C := RX2) (T := TX2) (N := 3) hx hb hts hin2 hown hK hP 1 rfl rfl 1 (by decide) (va_Nw.use rfl hN.2.2.2.2.2.2.2.2.2.1) (fun _ h9 => h9) rfl dX11_points_43 ?_
        have hP9 := hP.sub (ws' := []) [] rfl
        have hD9 := hD.sub (ws' := []) [] (by decide) rfl
        subst hAe
        exact W.iret (v := (if (12 : Int32) < x0 then (12 : Int32) else x0)) hx hb hr (fun t ht hW => ⟨⟨_, (), rfl, by rw [if_neg c2551, if_pos c2552], by rw [ht]; exact hP9, hD9⟩, hS.F ht⟩) hS.2.2 dX11_points_46
      · exact absurd c2552 c2553
    · refine lv_bipush (v := (-2)) hx hb dX11_points_11 (by decide) ?_
      have hP9 := hP.sub (ws' := []) [] rfl
      have hD9 := hD.sub (ws' := []) [] (by decide) rfl
      subst hAe
      exact W.iret (v := (-2)) hx hb hr (fun t ht hW => ⟨⟨_, (), rfl, by rw [if_neg c2551, if_neg c2552], by rw [ht]; exact hP9, hD9⟩, hS.F ht⟩) hS.2.2 dX11_points_13
set_option maxHeartbeats 4000000 in
set_option maxRecDepth 100000 in
theorem c_X2_hasPoint_0 (l : Launch) (D : va_G) (cI cS : ClassId) (h0 h1 : Nat) (x0 : Int32) : Met l yX2_hasPoint wsX2_hasPoint ({ frames := 0, cells := 0, slots := 0, locals := 0 }) (PS D cI cS [(h0, .inr (2, [.ref h1, .int 0, .int 0]))] [.ref h0, .int x0]) (vp_Si (fun r => r = (0 : Int32))) 0 0 (fun _ => False) := by
  refine Met.ofW (cc := cX2_hasPoint) (maxL := 2) (ret := (some .boolean)) (by decide) rfl ?_
  intro p e s m args below meth c s₁ B hml hv
  obtain ⟨rfl, hP, hKK⟩ := hv
  have hx := B.exec
  have hb := B.bytes
  have hr := B.returns
  have hts := atoms_spec (ws := wsX2_hasPoint) B.pre
  have hown : s.vm.findClass RX2 = some m.cls := findClass_of_methodNamed B.named
  have hlocks := B.notSynchronized
  have hK := hKK.1
  have hN := hKK.2
  have hin2 : ∀ w ∈ wsX20, w ∈ wsX2_hasPoint := by decide +kernel
  have hl := lv_entry ([.ref h0, .int x0]) (n := 2) (Nat.le_of_ble_eq_true rfl)
  rw [lg_entry_eq]
  generalize (lg_sl ([.ref h0, .int x0]) ++ List.replicate (2 - (lg_sl ([.ref h0, .int x0])).length) Slot.unset).toArray = ls at hl ⊢
  have hl : lv_has ls 2 [(0, .ref h0), (1, .int x0)] := hl
  refine lv_iload_n hx hb dX2_hasPoint_0 rfl (lv_at hl 1 rfl) ?_
  refine lv_if_lt (tgt := 16) hx hb dX2_hasPoint_1 (by decide) (fun c2557 => ?_) (fun c2557 => ?_)
  · refine lv_iconst (v := 0) hx hb dX2_hasPoint_16 (by decide) ?_
    exact W.zret (v := 0) hx hb hr (by decide) (fun t ht hW => ⟨_, rfl, rfl, ht⟩) (fun q hq => absurd hq List.not_mem_nil) dX2_hasPoint_17
  · refine lv_iload_n hx hb dX2_hasPoint_4 rfl (lv_at hl 1 rfl) ?_
    refine lv_aload_n hx hb dX2_hasPoint_5 rfl (lv_at hl 0 rfl) ?_
    refine va_get (D := D) (ci := 2) (v := .int 0) (C := RX2) (T := TX2) (N := 3) hx hb hts hin2 hown hK hP 0 rfl rfl 1 (by decide) (hts (.fieldLink RX2 15 "MissedPoints$Net" "size" "I") (by decide +kernel)) (fun _ h9 => h9) rfl dX2_hasPoint_6 ?_
    refine lv_icmp_ge (tgt := 16) hx hb dX2_hasPoint_9 (by decide) (fun c2558 => ?_) (fun c2558 => ?_)
    · refine lv_iconst (v := 0) hx hb dX2_hasPoint_16 (by decide) ?_
      exact W.zret (v := 0) hx hb hr (by decide) (fun t ht hW => ⟨_, rfl, rfl, ht⟩) (fun q hq => absurd hq List.not_mem_nil) dX2_hasPoint_17
    · exact absurd (show (0 : Int32) ≤ x0 from by have zf1 := mt (lz_lt x0 (0 : Int32)).mpr c2557; have zn0 : (0 : Int32).toInt = 0 := (by decide); rw [lz_le]; omega) c2558
set_option maxHeartbeats 4000000 in
set_option maxRecDepth 100000 in
theorem c_X2_areTwo_0 (l : Launch) (D : va_G) (cI cS : ClassId) (h0 h1 : Nat) (x0 x1 : Int32) : Met l yX2_areTwo wsX2_areTwo ({ frames := 1, cells := 0, slots := 0, locals := 40 }) (PS D cI cS [(h0, .inr (2, [.ref h1, .int 0, .int 0]))] [.ref h0, .int x0, .int x1]) (vp_Si (fun r => r = (0 : Int32))) 0 0 (fun _ => False) := by
  refine Met.ofW (cc := cX2_areTwo) (maxL := 3) (ret := (some .boolean)) (by decide) rfl ?_
  intro p e s m args below meth c s₁ B hml hv
  obtain ⟨rfl, hP, hKK⟩ := hv
  have hx := B.exec
  have hb := B.bytes
  have hr := B.returns
  have hts := atoms_spec (ws := wsX2_areTwo) B.pre
  have hown : s.vm.findClass RX2 = some m.cls := findClass_of_methodNamed B.named
  have hlocks := B.notSynchronized
  have hK := hKK.1
  have hN := hKK.2
  have hl := lv_entry ([.ref h0, .int x0, .int x1]) (n := 3) (Nat.le_of_ble_eq_true rfl)
  rw [lg_entry_eq]
  generalize (lg_sl ([.ref h0, .int x0, .int x1]) ++ List.replicate (3 - (lg_sl ([.ref h0, .int x0, .int x1])).length) Slot.unset).toArray = ls at hl ⊢
  have hl : lv_has ls 3 [(0, .ref h0), (1, .int x0), (2, .int x1)] := hl
  refine lv_aload_n hx hb dX2_areTwo_0 rfl (lv_at hl 0 rfl) ?_
  refine lv_iload_n hx hb dX2_areTwo_1 rfl (lv_at hl 1 rfl) ?_
  have hPc := hP.sub (ws' := [(h0, .inr (2, [.ref h1, .int 0, .int 0]))]) [0] rfl
  refine lz_sv (As := [.int x0]) (rest := []) ⟨hx, hb, hml, hown, hts⟩ (c_X2_hasPoint_0 l D cI cS h0 h1 x0) hKK hPc (ci := 2) rfl rfl (cwV 1 hts gX2_areTwo_X2_hasPoint rfl rfl rfl (by decide +kernel) ⟨Nat.le_of_ble_eq_true rfl, Nat.le_of_ble_eq_true rfl⟩) rfl hl.1 rfl (Nat.le_of_ble_eq_true rfl) dX2_areTwo_2 ⟨Nat.le_of_ble_eq_true rfl, Nat.le_of_ble_eq_true rfl⟩ (fun r2561 hw => ?_)
  subst hw
  refine lv_if_eq (tgt := 25) hx hb dX2_areTwo_5 (by decide) (fun c2562 => ?_) (fun c2562 => ?_)
  · refine lv_iconst (v := 0) hx hb dX2_areTwo_25 (by decide) ?_
    exact W.zret (v := 0) hx hb hr (by decide) (fun t ht hW => ⟨_, rfl, rfl, ht⟩) (fun q hq => absurd hq List.not_mem_nil) dX2_areTwo_26
  · exact absurd c2562 (by decide)
set_option maxHeartbeats 4000000 in
set_option maxRecDepth 100000 in
theorem c_X11_line_0 (l : Launch) (D : va_G) (cI cS : ClassId) (h0 h1 h2 h3 h4 h5 h6 h7 h8 h9 h10 h11 h12 h13 h14 h15 : Nat) (x0 x1 x2 : Int32) : Met l yX11_line wsX11_line ({ frames := 2, cells := 0, slots := 0, locals := 80 }) (PS D cI cS [(h0, .inr (11, [.ref h1, .ref h2, .ref h3, .ref h4, .ref h5, .ref h6, .ref h7, .int 0, .int 0, .ref h8, .ref h9, .ref h10, .ref h11, .ref h12, .ref h13, .ref h14])), (h1, .inr (2, [.ref h15, .int 0, .int 0]))] [.ref h0, .int x0, .int x1, .int x2]) (vp_Si (fun r => r = ((-2) : Int32))) 0 0 (fun _ => False) := by
  refine Met.ofW (cc := cX11_line) (maxL := 5) (ret := (some .int)) (by decide) rfl ?_
  intro p e s m args below meth c s₁ B hml hv
  obtain ⟨rfl, hP, hKK⟩ := hv
  have hx := B.exec
  have hb := B.bytes
  have hr := B.returns
  have hts := atoms_spec (ws := wsX11_line) B.pre
  have hown : s.vm.findClass RX11 = some m.cls := findClass_of_methodNamed B.named
  have hlocks := B.notSynchronized
  have hK := hKK.1
  have hN := hKK.2
  have hin11 : ∀ w ∈ wsX110, w ∈ wsX11_line := by decide +kernel
  have hl := lv_entry ([.ref h0, .int x0, .int x1, .int x2]) (n := 5) (Nat.le_of_ble_eq_true rfl)
  rw [lg_entry_eq]
  generalize (lg_sl ([.ref h0, .int x0, .int x1, .int x2]) ++ List.replicate (5 - (lg_sl ([.ref h0, .int x0, .int x1, .int x2])).length) Slot.unset).toArray = ls at hl ⊢
  have hl : lv_has ls 5 [(0, .ref h0), (1, .int x0), (2, .int x1), (3, .int x2)] := hl
  refine lv_aload_n hx hb dX11_line_0 rfl (lv_at hl 0 rfl) ?_
  refine va_get (D := D) (ci := 11) (v := .ref h1) (C := RX11) (T := TX11) (N := 16) hx hb hts hin11 hown hK hP 0 rfl rfl 0 (by decide) (hts (.fieldLink RX11 12 "MissedPoints" "net" "LMissedPoints$Net;") (by decide +kernel)) (fun _ h9 => h9) rfl dX11_line_1 ?_
  refine lv_iload_n hx hb dX11_line_4 rfl (lv_at hl 1 rfl) ?_
  refine lv_iload_n hx hb dX11_line_5 rfl (lv_at hl 2 rfl) ?_
  have hPc := hP.sub (ws' := [(h1, .inr (2, [.ref h15, .int 0, .int 0]))]) [1] rfl
  refine lz_sv (As := [.int x0, .int x1]) (rest := []) ⟨hx, hb, hml, hown, hts⟩ (c_X2_areTwo_0 l D cI cS h1 h15 x0 x1) hKK hPc (ci := 2) rfl rfl (cwV 2 hts gX11_line_X2_areTwo rfl rfl rfl (by decide +kernel) ⟨Nat.le_of_ble_eq_true rfl, Nat.le_of_ble_eq_true rfl⟩) rfl hl.1 rfl (Nat.le_of_ble_eq_true rfl) dX11_line_6 ⟨Nat.le_of_ble_eq_true rfl, Nat.le_of_ble_eq_true rfl⟩ (fun r2565 hw => ?_)
  subst hw
  refine lv_if_eq (tgt := 21) hx hb dX11_line_9 (by decide) (fun c2566 => ?_) (fun c2566 => ?_)
  · refine lv_bipush (v := (-2)) hx hb dX11_line_21 (by decide) ?_
    exact W.iret (v := (-2)) hx hb hr (fun t ht hW => ⟨_, rfl, rfl, ht⟩) (fun q hq => absurd hq List.not_mem_nil) dX11_line_23
  · exact absurd c2566 (by decide)
set_option maxHeartbeats 4000000 in
set_option maxRecDepth 100000 in
theorem c_X11_next_0 (l : Launch) (D : va_G) (cI cS : ClassId) (h0 h1 h2 h3 h4 h5 h6 h7 h8 h9 h10 h11 h12 h13 h14 h15 : Nat) (x0 : Int32) : Met l yX11_next wsX11_next ({ frames := 1, cells := 0, slots := 0, locals := 40 }) (PS D cI cS [(h0, .inr (11, [.ref h1, .ref h2, .ref h3, .ref h4, .ref h5, .ref h6, .ref h7, .int 0, .int 0, .ref h8, .ref h9, .ref h10, .ref h11, .ref h12, .ref h13, .ref h14])), (h1, .inr (2, [.ref h15, .int 0, .int 0]))] [.ref h0, .int x0]) (vp_Si (fun r => r = ((-2) : Int32))) 0 0 (fun _ => False) := by
  refine Met.ofW (cc := cX11_next) (maxL := 2) (ret := (some .int)) (by decide) rfl ?_
  intro p e s m args below meth c s₁ B hml hv
  obtain ⟨rfl, hP, hKK⟩ := hv
  have hx := B.exec
  have hb := B.bytes
  have hr := B.returns
  have hts := atoms_spec (ws := wsX11_next) B.pre
  have hown : s.vm.findClass RX11 = some m.cls := findClass_of_methodNamed B.named
  have hlocks := B.notSynchronized
  have hK := hKK.1
  have hN := hKK.2
  have hin11 : ∀ w ∈ wsX110, w ∈ wsX11_next := by decide +kernel
  have hl := lv_entry ([.ref h0, .int x0]) (n := 2) (Nat.le_of_ble_eq_true rfl)
  rw [lg_entry_eq]
  generalize (lg_sl ([.ref h0, .int x0]) ++ List.replicate (2 - (lg_sl ([.ref h0, .int x0])).length) Slot.unset).toArray = ls at hl ⊢
  have hl : lv_has ls 2 [(0, .ref h0), (1, .int x0)] := hl
  refine lv_aload_n hx hb dX11_next_0 rfl (lv_at hl 0 rfl) ?_
  refine va_get (D := D) (ci := 11) (v := .ref h1) (C := RX11) (T := TX11) (N := 16) hx hb hts hin11 hown hK hP 0 rfl rfl 0 (by decide) (hts (.fieldLink RX11 12 "MissedPoints" "net" "LMissedPoints$Net;") (by decide +kernel)) (fun _ h9 => h9) rfl dX11_next_1 ?_
  refine lv_iload_n hx hb dX11_next_4 rfl (lv_at hl 1 rfl) ?_
  have hPc := hP.sub (ws' := [(h1, .inr (2, [.ref h15, .int 0, .int 0]))]) [1] rfl
  refine lz_sv (As := [.int x0]) (rest := []) ⟨hx, hb, hml, hown, hts⟩ (c_X2_hasPoint_0 l D cI cS h1 h15 x0) hKK hPc (ci := 2) rfl rfl (cwV 1 hts gX11_next_X2_hasPoint rfl rfl rfl (by decide +kernel) ⟨Nat.le_of_ble_eq_true rfl, Nat.le_of_ble_eq_true rfl⟩) rfl hl.1 rfl (Nat.le_of_ble_eq_true rfl) dX11_next_5 ⟨Nat.le_of_ble_eq_true rfl, Nat.le_of_ble_eq_true rfl⟩ (fun r2569 hw => ?_)
  subst hw
  refine lv_if_eq (tgt := 22) hx hb dX11_next_8 (by decide) (fun c2570 => ?_) (fun c2570 => ?_)
  · refine lv_bipush (v := (-2)) hx hb dX11_next_22 (by decide) ?_
    exact W.iret (v := (-2)) hx hb hr (fun t ht hW => ⟨_, rfl, rfl, ht⟩) (fun q hq => absurd hq List.not_mem_nil) dX11_next_24
  · exact absurd c2570 (by decide)
set_option maxHeartbeats 4000000 in
set_option maxRecDepth 100000 in
theorem c_X2_lineCount_0 (l : Launch) (D : va_G) (cI cS : ClassId) (h0 h1 : Nat) : Met l yX2_lineCount wsX2_lineCount ({ frames := 0, cells := 0, slots := 0, locals := 0 }) (PS D cI cS [(h0, .inr (2, [.ref h1, .int 0, .int 0]))] [.ref h0]) (vp_Si (fun r => r = (0 : Int32))) 0 0 (fun _ => False) := by
  refine Met.ofW (cc := cX2_lineCount) (maxL := 3) (ret := (some .int)) (by decide) rfl ?_
  intro p e s m args below meth c s₁ B hml hv
  obtain ⟨rfl, hP, hKK⟩ := hv
  have hx := B.exec
  have hb := B.bytes
  have hr := B.returns
  have hts := atoms_spec (ws := wsX2_lineCount) B.pre
  have hown : s.vm.findClass RX2 = some m.cls := findClass_of_methodNamed B.named
  have hlocks := B.notSynchronized
  have hK := hKK.1
  have hN := hKK.2
  have hin2 : ∀ w ∈ wsX20, w ∈ wsX2_lineCount := by decide +kernel
  have hl := lv_entry ([.ref h0]) (n := 3) (Nat.le_of_ble_eq_true rfl)
  rw [lg_entry_eq]
  generalize (lg_sl ([.ref h0]) ++ List.replicate (3 - (lg_sl ([.ref h0])).length) Slot.unset).toArray = ls at hl ⊢
  have hl : lv_has ls 3 [(0, .ref h0)] := hl
  refine lv_iconst (v := 0) hx hb dX2_lineCount_0 (by decide) ?_
  refine lv_istore_n (lv' := [(1, .int 0), (0, .ref h0)]) hx hb dX2_lineCount_1 rfl hl (by decide) rfl (fun ls hl => ?_)
  refine lv_iconst (v := 0) hx hb dX2_lineCount_2 (by decide) ?_
  refine lv_istore_n (lv' := [(2, .int 0), (1, .int 0), (0, .ref h0)]) hx hb dX2_lineCount_3 rfl hl (by decide) rfl (fun ls hl => ?_)
  refine lv_iload_n hx hb dX2_lineCount_4 rfl (lv_at hl 0 rfl) ?_
  refine lv_aload_n hx hb dX2_lineCount_5 rfl (lv_at hl 2 rfl) ?_
  refine va_get (D := D) (ci := 2) (v := .int 0) (C := RX2) (T := TX2) (N := 3) hx hb hts hin2 hown hK hP 0 rfl rfl 1 (by decide) (hts (.fieldLink RX2 15 "MissedPoints$Net" "size" "I") (by decide +kernel)) (fun _ h9 => h9) rfl dX2_lineCount_6 ?_
  refine lv_icmp_ge (tgt := 30) hx hb dX2_lineCount_9 (by decide) (fun c2574 => ?_) (fun c2574 => ?_)
  · refine lv_iload_n hx hb dX2_lineCount_30 rfl (lv_at hl 1 rfl) ?_
    refine lv_iconst (v := 2) hx hb dX2_lineCount_31 (by decide) ?_
    refine lv_idiv hx hb dX2_lineCount_32 (by decide) ?_
    refine lz_top (y := 0) (by decide) ?_
    exact W.iret (v := 0) hx hb hr (fun t ht hW => ⟨_, rfl, rfl, ht⟩) (fun q hq => absurd hq List.not_mem_nil) dX2_lineCount_33
  · exact absurd c2574 (by decide)
set_option maxHeartbeats 4000000 in
set_option maxRecDepth 100000 in
theorem c_X2_all_0 (l : Launch) (D : va_G) (cI cS : ClassId) (h0 h1 : Nat) : Met l yX2_all wsX2_all ({ frames := 0, cells := 0, slots := 0, locals := 0 }) (PS D cI cS [(h0, .inr (2, [.ref h1, .int 0, .int 0]))] [.ref h0]) (vp_Si (fun r => r = (0 : Int32))) 0 0 (fun _ => False) := by
  refine Met.ofW (cc := cX2_all) (maxL := 1) (ret := (some .int)) (by decide) rfl ?_
  intro p e s m args below meth c s₁ B hml hv
  obtain ⟨rfl, hP, hKK⟩ := hv
  have hx := B.exec
  have hb := B.bytes
  have hr := B.returns
  have hts := atoms_spec (ws := wsX2_all) B.pre
  have hown : s.vm.findClass RX2 = some m.cls := findClass_of_methodNamed B.named
  have hlocks := B.notSynchronized
  have hK := hKK.1
  have hN := hKK.2
  have hin2 : ∀ w ∈ wsX20, w ∈ wsX2_all := by decide +kernel
  have hl := lv_entry ([.ref h0]) (n := 1) (Nat.le_of_ble_eq_true rfl)
  rw [lg_entry_eq]
  generalize (lg_sl ([.ref h0]) ++ List.replicate (1 - (lg_sl ([.ref h0])).length) Slot.unset).toArray = ls at hl ⊢
  have hl : lv_has ls 1 [(0, .ref h0)] := hl
  refine lv_iconst (v := 1) hx hb dX2_all_0 (by decide) ?_
  refine lv_aload_n hx hb dX2_all_1 rfl (lv_at hl 0 rfl) ?_
  refine va_get (D := D) (ci := 2) (v := .int 0) (C := RX2) (T := TX2) (N := 3) hx hb hts hin2 hown hK hP 0 rfl rfl 1 (by decide) (hts (.fieldLink RX2 15 "MissedPoints$Net" "size" "I") (by decide +kernel)) (fun _ h9 => h9) rfl dX2_all_2 ?_
  refine lv_ishl hx hb dX2_all_5 ?_
  refine lz_top (y := 1) (by decide) ?_
  refine lv_iconst (v := 1) hx hb dX2_all_6 (by decide) ?_
  refine lv_isub hx hb dX2_all_7 ?_
  refine lz_top (y := 0) (by decide) ?_
  exact W.iret (v := 0) hx hb hr (fun t ht hW => ⟨_, rfl, rfl, ht⟩) (fun q hq => absurd hq List.not_mem_nil) dX2_all_8
set_option maxHeartbeats 4000000 in
set_option maxRecDepth 100000 in
theorem c_X3_notice_0 (l : Launch) (D : va_G) (cI cS : ClassId) (h0 h1 h2 h3 h4 : Nat) : Met l yX3_notice wsX3_notice ({ frames := 0, cells := 0, slots := 0, locals := 0 }) (PS D cI cS [(h0, .inr (3, [.ref h1, .ref h2, .ref h3, .int 0])), (h1, .inr (2, [.ref h4, .int 0, .int 0]))] [.ref h0]) (va_Sv (fun _ => True)) 0 0 (fun _ => False) := by
  refine Met.ofW (cc := cX3_notice) (maxL := 1) (ret := none) (by decide) rfl ?_
  intro p e s m args below meth c s₁ B hml hv
  obtain ⟨rfl, hP, hKK⟩ := hv
  have hx := B.exec
  have hb := B.bytes
  have hr := B.returns
  have hts := atoms_spec (ws := wsX3_notice) B.pre
  have hown : s.vm.findClass RX3 = some m.cls := findClass_of_methodNamed B.named
  have hlocks := B.notSynchronized
  have hK := hKK.1
  have hN := hKK.2
  have hin2 : ∀ w ∈ wsX20, w ∈ wsX3_notice := by decide +kernel
  have hin3 : ∀ w ∈ wsX30, w ∈ wsX3_notice := by decide +kernel
  have hl := lv_entry ([.ref h0]) (n := 1) (Nat.le_of_ble_eq_true rfl)
  rw [lg_entry_eq]
  generalize (lg_sl ([.ref h0]) ++ List.replicate (1 - (lg_sl ([.ref h0])).length) Slot.unset).toArray = ls at hl ⊢
  have hl : lv_has ls 1 [(0, .ref h0)] := hl
  refine lv_aload_n hx hb dX3_notice_0 rfl (lv_at hl 0 rfl) ?_
  refine va_get (D := D) (ci := 3) (v := .int 0) (C := RX3) (T := TX3) (N := 4) hx hb hts hin3 hown hK hP 0 rfl rfl 3 (by decide) (hts (.fieldLink RX3 27 "MissedPoints$Pairs" "changesSeen" "I") (by decide +kernel)) (fun _ h9 => h9) rfl dX3_notice_1 ?_
  refine lv_aload_n hx hb dX3_notice_4 rfl (lv_at hl 0 rfl) ?_
  refine va_get (D := D) (ci := 3) (v := .ref h1) (C := RX3) (T := TX3) (N := 4) hx hb hts hin3 hown hK hP 0 rfl rfl 0 (by decide) (hts (.fieldLink RX3 23 "MissedPoints$Pairs" "net" "LMissedPoints$Net;") (by decide +kernel)) (fun _ h9 => h9) rfl dX3_notice_5 ?_
  refine va_getN (D := D) (ci := 2) (v := .int 0) (C := RX2) (T := TX2) (N := 3) hx hb hts hin2 hown hK hP 1 rfl rfl 2 (by decide) (va_Nw.use rfl hN.2.2.2.2.2.2.2.2.2.2.1) (fun _ h9 => h9) rfl dX3_notice_8 ?_
  refine lv_icmp_eq (tgt := 39) hx hb dX3_notice_11 (by decide) (fun c2579 => ?_) (fun c2579 => ?_)
  · exact W.vret hx hb hr (fun t ht hW => ⟨rfl, trivial, ht⟩) (fun q hq => absurd hq List.not_mem_nil) dX3_notice_39
  · exact absurd c2579 (by decide)
set_option maxHeartbeats 4000000 in
set_option maxRecDepth 100000 in
theorem c_J6_numberOfLeadingZeros_0f7a4_0 (l : Launch) (D : va_G) (cI cS : ClassId) : Met l yJ6_numberOfLeadingZeros_0f7a4 wsJ6_numberOfLeadingZeros_0f7a4 ({ frames := 0, cells := 0, slots := 0, locals := 0 }) (PS D cI cS [] [.int 0]) (vp_Si (fun r => r = (32 : Int32))) 0 0 (fun _ => False) := by
  refine Met.ofW (cc := cJ6_numberOfLeadingZeros_0f7a4) (maxL := 2) (ret := (some .int)) (by decide) rfl ?_
  intro p e s m args below meth c s₁ B hml hv
  obtain ⟨rfl, hP, hKK⟩ := hv
  have hx := B.exec
  have hb := B.bytes
  have hr := B.returns
  have hts := atoms_spec (ws := wsJ6_numberOfLeadingZeros_0f7a4) B.pre
  have hown : s.vm.findClass RJ6 = some m.cls := findClass_of_methodNamed B.named
  have hlocks := B.notSynchronized
  have hK := hKK.1
  have hN := hKK.2
  have hl := lv_entry ([.int 0]) (n := 2) (Nat.le_of_ble_eq_true rfl)
  rw [lg_entry_eq]
  generalize (lg_sl ([.int 0]) ++ List.replicate (2 - (lg_sl ([.int 0])).length) Slot.unset).toArray = ls at hl ⊢
  have hl : lv_has ls 2 [(0, .int 0)] := hl
  refine lv_iload_n hx hb dJ6_numberOfLeadingZeros_0f7a4_0 rfl (lv_at hl 0 rfl) ?_
  refine lv_if_gt (tgt := 15) hx hb dJ6_numberOfLeadingZeros_0f7a4_1 (by decide) (fun c2583 => ?_) (fun c2583 => ?_)
  · exact absurd c2583 (by decide)
  · refine lv_iload_n hx hb dJ6_numberOfLeadingZeros_0f7a4_4 rfl (lv_at hl 0 rfl) ?_
    refine lv_if_ne (tgt := 13) hx hb dJ6_numberOfLeadingZeros_0f7a4_5 (by decide) (fun c2584 => ?_) (fun c2584 => ?_)
    · exact absurd c2584 (by decide)
    · refine lv_bipush (v := 32) hx hb dJ6_numberOfLeadingZeros_0f7a4_8 (by decide) ?_
      refine lv_goto (tgt := 14) hx hb dJ6_numberOfLeadingZeros_0f7a4_10 (by decide) ?_
      exact W.iret (v := 32) hx hb hr (fun t ht hW => ⟨_, rfl, rfl, ht⟩) (fun q hq => absurd hq List.not_mem_nil) dJ6_numberOfLeadingZeros_0f7a4_14
set_option maxHeartbeats 4000000 in
set_option maxRecDepth 100000 in
theorem c_X3_bestOf_0 (l : Launch) (D : va_G) (cI cS : ClassId) (h0 h1 h2 h3 : Nat) : Met l yX3_bestOf wsX3_bestOf ({ frames := 1, cells := 0, slots := 0, locals := 40 }) (PS D cI cS [(h0, .inr (3, [.ref h1, .ref h2, .ref h3, .int 0]))] [.ref h0, .int 0, .int 0]) (vp_Si (fun r => r = (0 : Int32))) 0 0 (fun _ => False) := by
  refine Met.ofW (cc := cX3_bestOf) (maxL := 11) (ret := (some .int)) (by decide) rfl ?_
  intro p e s m args below meth c s₁ B hml hv
  obtain ⟨rfl, hP, hKK⟩ := hv
  have hx := B.exec
  have hb := B.bytes
  have hr := B.returns
  have hts := atoms_spec (ws := wsX3_bestOf) B.pre
  have hown : s.vm.findClass RX3 = some m.cls := findClass_of_methodNamed B.named
  have hlocks := B.notSynchronized
  have hK := hKK.1
  have hN := hKK.2
  have hl := lv_entry ([.ref h0, .int 0, .int 0]) (n := 11) (Nat.le_of_ble_eq_true rfl)
  rw [lg_entry_eq]
  generalize (lg_sl ([.ref h0, .int 0, .int 0]) ++ List.replicate (11 - (lg_sl ([.ref h0, .int 0, .int 0])).length) Slot.unset).toArray = ls at hl ⊢
  have hl : lv_has ls 11 [(0, .ref h0), (1, .int 0), (2, .int 0)] := hl
  refine lv_bipush (v := 31) hx hb dX3_bestOf_0 (by decide) ?_
  refine lv_iload_n hx hb dX3_bestOf_2 rfl (lv_at hl 1 rfl) ?_
  have hPc := hP.sub (ws' := []) [] rfl
  refine lz_ss (As := [.int 0]) (rest := [.int 31]) ⟨hx, hb, hml, hown, hts⟩ (c_J6_numberOfLeadingZeros_0f7a4_0 l D cI cS) hKK hPc (va_cwS 1 hts gX3_bestOf_J6_numberOfLeadingZeros_0f7a4 rfl rfl rfl (by decide +kernel) ⟨Nat.le_of_ble_eq_true rfl, Nat.le_of_ble_eq_true rfl⟩) rfl hl.1 rfl (Nat.le_of_ble_eq_true rfl) dX3_bestOf_3 ⟨Nat.le_of_ble_eq_true rfl, Nat.le_of_ble_eq_true rfl⟩ (fun r2587 hw => ?_)
  subst hw
  refine lv_isub hx hb dX3_bestOf_6 ?_
  refine lz_top (y := (-1)) (by decide) ?_
  refine lv_istore_n (lv' := [(3, .int (-1)), (0, .ref h0), (1, .int 0), (2, .int 0)]) hx hb dX3_bestOf_7 rfl hl (by decide) rfl (fun ls hl => ?_)
  refine lv_iload_n hx hb dX3_bestOf_8 rfl (lv_at hl 0 rfl) ?_
  refine lv_iconst (v := 1) hx hb dX3_bestOf_9 (by decide) ?_
  refine lv_icmp_lt (tgt := 25) hx hb dX3_bestOf_10 (by decide) (fun c2588 => ?_) (fun c2588 => ?_)
  · refine lv_iconst (v := 0) hx hb dX3_bestOf_25 (by decide) ?_
    exact W.iret (v := 0) hx hb hr (fun t ht hW => ⟨_, rfl, rfl, ht⟩) (fun q hq => absurd hq List.not_mem_nil) dX3_bestOf_26
  · exact absurd c2588 (by decide)
set_option maxHeartbeats 4000000 in
set_option maxRecDepth 100000 in
theorem c_X3_best_0 (l : Launch) (D : va_G) (cI cS : ClassId) (h0 h1 h2 h3 h4 : Nat) : Met l yX3_best wsX3_best ({ frames := 2, cells := 0, slots := 0, locals := 80 }) (PS D cI cS [(h0, .inr (3, [.ref h1, .ref h2, .ref h3, .int 0])), (h1, .inr (2, [.ref h4, .int 0, .int 0]))] [.ref h0, .int 0]) (vp_Si (fun r => r = (0 : Int32))) 0 0 (fun _ => False) := by
  refine Met.ofW (cc := cX3_best) (maxL := 2) (ret := (some .int)) (by decide) rfl ?_
  intro p e s m args below meth c s₁ B hml hv
  obtain ⟨rfl, hP, hKK⟩ := hv
  have hx := B.exec
  have hb := B.bytes
  have hr := B.returns
  have hts := atoms_spec (ws := wsX3_best) B.pre
  have hown : s.vm.findClass RX3 = some m.cls := findClass_of_methodNamed B.named
  have hlocks := B.notSynchronized
  have hK := hKK.1
  have hN := hKK.2
  have hl := lv_entry ([.ref h0, .int 0]) (n := 2) (Nat.le_of_ble_eq_true rfl)
  rw [lg_entry_eq]
  generalize (lg_sl ([.ref h0, .int 0]) ++ List.replicate (2 - (lg_sl ([.ref h0, .int 0])).length) Slot.unset).toArray = ls at hl ⊢
  have hl : lv_has ls 2 [(0, .ref h0), (1, .int 0)] := hl
  refine lv_aload_n hx hb dX3_best_0 rfl (lv_at hl 0 rfl) ?_
  have hPc := hP.sub (ws' := [(h0, .inr (3, [.ref h1, .ref h2, .ref h3, .int 0])), (h1, .inr (2, [.ref h4, .int 0, .int 0]))]) [0, 1] rfl
  refine lz_sw (As := []) (rest := []) ⟨hx, hb, hml, hown, hts⟩ (c_X3_notice_0 l D cI cS h0 h1 h2 h3 h4) hKK hPc (ci := 3) rfl rfl (cwV 0 hts gX3_best_X3_notice rfl rfl rfl (by decide +kernel) ⟨Nat.le_of_ble_eq_true rfl, Nat.le_of_ble_eq_true rfl⟩) rfl hl.1 rfl (Nat.le_of_ble_eq_true rfl) dX3_best_1 ⟨Nat.le_of_ble_eq_true rfl, Nat.le_of_ble_eq_true rfl⟩ ?_
  refine lv_aload_n hx hb dX3_best_4 rfl (lv_at hl 0 rfl) ?_
  refine lv_iload_n hx hb dX3_best_5 rfl (lv_at hl 1 rfl) ?_
  refine lv_iconst (v := 0) hx hb dX3_best_6 (by decide) ?_
  have hPc := hP.sub (ws' := [(h0, .inr (3, [.ref h1, .ref h2, .ref h3, .int 0]))]) [0] rfl
  refine lz_sv (As := [.int 0, .int 0]) (rest := []) ⟨hx, hb, hml, hown, hts⟩ (c_X3_bestOf_0 l D cI cS h0 h1 h2 h3) hKK hPc (ci := 3) rfl rfl (cwV 2 hts gX3_best_X3_bestOf rfl rfl rfl (by decide +kernel) ⟨Nat.le_of_ble_eq_true rfl, Nat.le_of_ble_eq_true rfl⟩) rfl hl.1 rfl (Nat.le_of_ble_eq_true rfl) dX3_best_7 ⟨Nat.le_of_ble_eq_true rfl, Nat.le_of_ble_eq_true rfl⟩ (fun r2591 hw => ?_)
  subst hw
  exact W.iret (v := 0) hx hb hr (fun t ht hW => ⟨_, rfl, rfl, ht⟩) (fun q hq => absurd hq List.not_mem_nil) dX3_best_10
set_option maxHeartbeats 4000000 in
set_option maxRecDepth 100000 in
theorem c_J6_bitCount_0f7a4_0 (l : Launch) (D : va_G) (cI cS : ClassId) : Met l yJ6_bitCount_0f7a4 wsJ6_bitCount_0f7a4 ({ frames := 0, cells := 0, slots := 0, locals := 0 }) (PS D cI cS [] [.int 0]) (vp_Si (fun r => r = (0 : Int32))) 0 0 (fun _ => False) := by
  refine Met.ofW (cc := cJ6_bitCount_0f7a4) (maxL := 1) (ret := (some .int)) (by decide) rfl ?_
  intro p e s m args below meth c s₁ B hml hv
  obtain ⟨rfl, hP, hKK⟩ := hv
  have hx := B.exec
  have hb := B.bytes
  have hr := B.returns
  have hts := atoms_spec (ws := wsJ6_bitCount_0f7a4) B.pre
  have hown : s.vm.findClass RJ6 = some m.cls := findClass_of_methodNamed B.named
  have hlocks := B.notSynchronized
  have hK := hKK.1
  have hN := hKK.2
  have hl := lv_entry ([.int 0]) (n := 1) (Nat.le_of_ble_eq_true rfl)
  rw [lg_entry_eq]
  generalize (lg_sl ([.int 0]) ++ List.replicate (1 - (lg_sl ([.int 0])).length) Slot.unset).toArray = ls at hl ⊢
  have hl : lv_has ls 1 [(0, .int 0)] := hl
  refine lv_iload_n hx hb dJ6_bitCount_0f7a4_0 rfl (lv_at hl 0 rfl) ?_
  refine lv_iload_n hx hb dJ6_bitCount_0f7a4_1 rfl (lv_at hl 0 rfl) ?_
  refine lv_iconst (v := 1) hx hb dJ6_bitCount_0f7a4_2 (by decide) ?_
  refine lv_iushr (v := 0) hx hb dJ6_bitCount_0f7a4_3 (by decide) ?_
  refine lv_ldcw hx hb hown (hts (.constant RJ6 265 (1431655765)) (by decide +kernel)) dJ6_bitCount_0f7a4_4 ?_
  refine lv_iand hx hb dJ6_bitCount_0f7a4_7 ?_
  refine lz_top (y := 0) (by decide) ?_
  refine lv_isub hx hb dJ6_bitCount_0f7a4_8 ?_
  refine lz_top (y := 0) (by decide) ?_
  refine lv_istore_n (lv' := [(0, .int 0)]) hx hb dJ6_bitCount_0f7a4_9 rfl hl (by decide) rfl (fun ls hl => ?_)
  refine lv_iload_n hx hb dJ6_bitCount_0f7a4_10 rfl (lv_at hl 0 rfl) ?_
  refine lv_ldcw hx hb hown (hts (.constant RJ6 266 (858993459)) (by decide +kernel)) dJ6_bitCount_0f7a4_11 ?_
  refine lv_iand hx hb dJ6_bitCount_0f7a4_14 ?_
  refine lz_top (y := 0) (by decide) ?_
  refine lv_iload_n hx hb dJ6_bitCount_0f7a4_15 rfl (lv_at hl 0 rfl) ?_
  refine lv_iconst (v := 2) hx hb dJ6_bitCount_0f7a4_16 (by decide) ?_
  refine lv_iushr (v := 0) hx hb dJ6_bitCount_0f7a4_17 (by decide) ?_
  refine lv_ldcw hx hb hown (hts (.constant RJ6 266 (858993459)) (by decide +kernel)) dJ6_bitCount_0f7a4_18 ?_
  refine lv_iand hx hb dJ6_bitCount_0f7a4_21 ?_
  refine lz_top (y := 0) (by decide) ?_
  refine lv_iadd hx hb dJ6_bitCount_0f7a4_22 ?_
  refine lz_top (y := 0) (by decide) ?_
  refine lv_istore_n (lv' := [(0, .int 0)]) hx hb dJ6_bitCount_0f7a4_23 rfl hl (by decide) rfl (fun ls hl => ?_)
  refine lv_iload_n hx hb dJ6_bitCount_0f7a4_24 rfl (lv_at hl 0 rfl) ?_
  refine lv_iload_n hx hb dJ6_bitCount_0f7a4_25 rfl (lv_at hl 0 rfl) ?_
  refine lv_iconst (v := 4) hx hb dJ6_bitCount_0f7a4_26 (by decide) ?_
  refine lv_iushr (v := 0) hx hb dJ6_bitCount_0f7a4_27 (by decide) ?_
  refine lv_iadd hx hb dJ6_bitCount_0f7a4_28 ?_
  refine lz_top (y := 0) (by decide) ?_
  refine lv_ldcw hx hb hown (hts (.constant RJ6 267 (252645135)) (by decide +kernel)) dJ6_bitCount_0f7a4_29 ?_
  refine lv_iand hx hb dJ6_bitCount_0f7a4_32 ?_
  refine lz_top (y := 0) (by decide) ?_
  refine lv_istore_n (lv' := [(0, .int 0)]) hx hb dJ6_bitCount_0f7a4_33 rfl hl (by decide) rfl (fun ls hl => ?_)
  refine lv_iload_n hx hb dJ6_bitCount_0f7a4_34 rfl (lv_at hl 0 rfl) ?_
  refine lv_iload_n hx hb dJ6_bitCount_0f7a4_35 rfl (lv_at hl 0 rfl) ?_
  refine lv_bipush (v := 8) hx hb dJ6_bitCount_0f7a4_36 (by decide) ?_
  refine lv_iushr (v := 0) hx hb dJ6_bitCount_0f7a4_38 (by decide) ?_
  refine lv_iadd hx hb dJ6_bitCount_0f7a4_39 ?_
  refine lz_top (y := 0) (by decide) ?_
  refine lv_istore_n (lv' := [(0, .int 0)]) hx hb dJ6_bitCount_0f7a4_40 rfl hl (by decide) rfl (fun ls hl => ?_)
  refine lv_iload_n hx hb dJ6_bitCount_0f7a4_41 rfl (lv_at hl 0 rfl) ?_
  refine lv_iload_n hx hb dJ6_bitCount_0f7a4_42 rfl (lv_at hl 0 rfl) ?_
  refine lv_bipush (v := 16) hx hb dJ6_bitCount_0f7a4_43 (by decide) ?_
  refine lv_iushr (v := 0) hx hb dJ6_bitCount_0f7a4_45 (by decide) ?_
  refine lv_iadd hx hb dJ6_bitCount_0f7a4_46 ?_
  refine lz_top (y := 0) (by decide) ?_
  refine lv_istore_n (lv' := [(0, .int 0)]) hx hb dJ6_bitCount_0f7a4_47 rfl hl (by decide) rfl (fun ls hl => ?_)
  refine lv_iload_n hx hb dJ6_bitCount_0f7a4_48 rfl (lv_at hl 0 rfl) ?_
  refine lv_bipush (v := 63) hx hb dJ6_bitCount_0f7a4_49 (by decide) ?_
  refine lv_iand hx hb dJ6_bitCount_0f7a4_51 ?_
  refine lz_top (y := 0) (by decide) ?_
  exact W.iret (v := 0) hx hb hr (fun t ht hW => ⟨_, rfl, rfl, ht⟩) (fun q hq => absurd hq List.not_mem_nil) dJ6_bitCount_0f7a4_52
set_option maxHeartbeats 4000000 in
set_option maxRecDepth 100000 in
theorem c_X3_lack_0 (l : Launch) (D : va_G) (cI cS : ClassId) (h0 h1 h2 h3 h4 : Nat) : Met l yX3_lack wsX3_lack ({ frames := 3, cells := 0, slots := 0, locals := 120 }) (PS D cI cS [(h0, .inr (3, [.ref h1, .ref h2, .ref h3, .int 0])), (h1, .inr (2, [.ref h4, .int 0, .int 0]))] [.ref h0, .int 0]) (vp_Si (fun r => r = (0 : Int32))) 0 0 (fun _ => False) := by
  refine Met.ofW (cc := cX3_lack) (maxL := 2) (ret := (some .int)) (by decide) rfl ?_
  intro p e s m args below meth c s₁ B hml hv
  obtain ⟨rfl, hP, hKK⟩ := hv
  have hx := B.exec
  have hb := B.bytes
  have hr := B.returns
  have hts := atoms_spec (ws := wsX3_lack) B.pre
  have hown : s.vm.findClass RX3 = some m.cls := findClass_of_methodNamed B.named
  have hlocks := B.notSynchronized
  have hK := hKK.1
  have hN := hKK.2
  have hl := lv_entry ([.ref h0, .int 0]) (n := 2) (Nat.le_of_ble_eq_true rfl)
  rw [lg_entry_eq]
  generalize (lg_sl ([.ref h0, .int 0]) ++ List.replicate (2 - (lg_sl ([.ref h0, .int 0])).length) Slot.unset).toArray = ls at hl ⊢
  have hl : lv_has ls 2 [(0, .ref h0), (1, .int 0)] := hl
  refine lv_iload_n hx hb dX3_lack_0 rfl (lv_at hl 1 rfl) ?_
  have hPc := hP.sub (ws' := []) [] rfl
  refine lz_ss (As := [.int 0]) (rest := []) ⟨hx, hb, hml, hown, hts⟩ (c_J6_bitCount_0f7a4_0 l D cI cS) hKK hPc (va_cwS 1 hts gX3_lack_J6_bitCount_0f7a4 rfl rfl rfl (by decide +kernel) ⟨Nat.le_of_ble_eq_true rfl, Nat.le_of_ble_eq_true rfl⟩) rfl hl.1 rfl (Nat.le_of_ble_eq_true rfl) dX3_lack_1 ⟨Nat.le_of_ble_eq_true rfl, Nat.le_of_ble_eq_true rfl⟩ (fun r2597 hw => ?_)
  subst hw
  refine lv_iconst (v := 2) hx hb dX3_lack_4 (by decide) ?_
  refine lv_aload_n hx hb dX3_lack_5 rfl (lv_at hl 0 rfl) ?_
  refine lv_iload_n hx hb dX3_lack_6 rfl (lv_at hl 1 rfl) ?_
  have hPc := hP.sub (ws' := [(h0, .inr (3, [.ref h1, .ref h2, .ref h3, .int 0])), (h1, .inr (2, [.ref h4, .int 0, .int 0]))]) [0, 1] rfl
  refine lz_sv (As := [.int 0]) (rest := [.int 2, .int 0]) ⟨hx, hb, hml, hown, hts⟩ (c_X3_best_0 l D cI cS h0 h1 h2 h3 h4) hKK hPc (ci := 3) rfl rfl (cwV 1 hts gX3_lack_X3_best rfl rfl rfl (by decide +kernel) ⟨Nat.le_of_ble_eq_true rfl, Nat.le_of_ble_eq_true rfl⟩) rfl hl.1 rfl (Nat.le_of_ble_eq_true rfl) dX3_lack_7 ⟨Nat.le_of_ble_eq_true rfl, Nat.le_of_ble_eq_true rfl⟩ (fun r2598 hw => ?_)
  subst hw
  refine lv_imul hx hb dX3_lack_10 ?_
  refine lz_top (y := 0) (by decide) ?_
  refine lv_isub hx hb dX3_lack_11 ?_
  refine lz_top (y := 0) (by decide) ?_
  exact W.iret (v := 0) hx hb hr (fun t ht hW => ⟨_, rfl, rfl, ht⟩) (fun q hq => absurd hq List.not_mem_nil) dX3_lack_12
set_option maxHeartbeats 4000000 in
set_option maxRecDepth 100000 in
theorem c_X2_pieceCount_0 (l : Launch) (D : va_G) (cI cS : ClassId) (h0 h1 : Nat) : Met l yX2_pieceCount wsX2_pieceCount ({ frames := 1, cells := 0, slots := 0, locals := 40 }) (PS D cI cS [(h0, .inr (2, [.ref h1, .int 0, .int 0]))] [.ref h0, .int 0]) (vp_Si (fun r => r = (0 : Int32))) 0 0 (fun _ => False) := by
  refine Met.ofW (cc := cX2_pieceCount) (maxL := 5) (ret := (some .int)) (by decide) rfl ?_
  intro p e s m args below meth c s₁ B hml hv
  obtain ⟨rfl, hP, hKK⟩ := hv
  have hx := B.exec
  have hb := B.bytes
  have hr := B.returns
  have hts := atoms_spec (ws := wsX2_pieceCount) B.pre
  have hown : s.vm.findClass RX2 = some m.cls := findClass_of_methodNamed B.named
  have hlocks := B.notSynchronized
  have hK := hKK.1
  have hN := hKK.2
  have hl := lv_entry ([.ref h0, .int 0]) (n := 5) (Nat.le_of_ble_eq_true rfl)
  rw [lg_entry_eq]
  generalize (lg_sl ([.ref h0, .int 0]) ++ List.replicate (5 - (lg_sl ([.ref h0, .int 0])).length) Slot.unset).toArray = ls at hl ⊢
  have hl : lv_has ls 5 [(0, .ref h0), (1, .int 0)] := hl
  refine lv_iload_n hx hb dX2_pieceCount_0 rfl (lv_at hl 1 rfl) ?_
  refine lv_aload_n hx hb dX2_pieceCount_1 rfl (lv_at hl 0 rfl) ?_
  have hPc := hP.sub (ws' := [(h0, .inr (2, [.ref h1, .int 0, .int 0]))]) [0] rfl
  refine lz_sv (As := []) (rest := [.int 0]) ⟨hx, hb, hml, hown, hts⟩ (c_X2_all_0 l D cI cS h0 h1) hKK hPc (ci := 2) rfl rfl (cwV 0 hts gX2_pieceCount_X2_all rfl rfl rfl (by decide +kernel) ⟨Nat.le_of_ble_eq_true rfl, Nat.le_of_ble_eq_true rfl⟩) rfl hl.1 rfl (Nat.le_of_ble_eq_true rfl) dX2_pieceCount_2 ⟨Nat.le_of_ble_eq_true rfl, Nat.le_of_ble_eq_true rfl⟩ (fun r2605 hw => ?_)
  subst hw
  refine lv_iand hx hb dX2_pieceCount_5 ?_
  refine lz_top (y := 0) (by decide) ?_
  refine lv_istore_n (lv' := [(2, .int 0), (0, .ref h0), (1, .int 0)]) hx hb dX2_pieceCount_6 rfl hl (by decide) rfl (fun ls hl => ?_)
  refine lv_iconst (v := 0) hx hb dX2_pieceCount_7 (by decide) ?_
  refine lv_istore_n (lv' := [(3, .int 0), (2, .int 0), (0, .ref h0), (1, .int 0)]) hx hb dX2_pieceCount_8 rfl hl (by decide) rfl (fun ls hl => ?_)
  refine lv_iconst (v := 0) hx hb dX2_pieceCount_9 (by decide) ?_
  refine lv_istore (lv' := [(4, .int 0), (3, .int 0), (2, .int 0), (0, .ref h0), (1, .int 0)]) hx hb dX2_pieceCount_10 hl (by decide) rfl (fun ls hl => ?_)
  refine lv_iload hx hb dX2_pieceCount_12 (lv_at hl 0 rfl) ?_
  refine lv_bipush (v := 12) hx hb dX2_pieceCount_14 (by decide) ?_
  refine lv_icmp_ge (tgt := 45) hx hb dX2_pieceCount_16 (by decide) (fun c2606 => ?_) (fun c2606 => ?_)
  · exact absurd c2606 (by decide)
  · refine lv_iload_n hx hb dX2_pieceCount_19 rfl (lv_at hl 2 rfl) ?_
    refine lv_if_eq (tgt := 45) hx hb dX2_pieceCount_20 (by decide) (fun c2607 => ?_) (fun c2607 => ?_)
    · refine lv_iload_n hx hb dX2_pieceCount_45 rfl (lv_at hl 1 rfl) ?_
      exact W.iret (v := 0) hx hb hr (fun t ht hW => ⟨_, rfl, rfl, ht⟩) (fun q hq => absurd hq List.not_mem_nil) dX2_pieceCount_46
    · exact absurd c2607 (by decide)
set_option maxHeartbeats 4000000 in
set_option maxRecDepth 100000 in
theorem c_X11_count_0 (l : Launch) (D : va_G) (cI cS : ClassId) (h0 h1 h2 h3 h4 h5 h6 h7 h8 h9 h10 h11 h12 h13 h14 h15 h16 h17 h23 : Nat) (x0 : Int32) : Met l yX11_count wsX11_count ({ frames := 4, cells := 0, slots := 0, locals := 160 }) (PS D cI cS [(h0, .inr (11, [.ref h1, .ref h2, .ref h3, .ref h4, .ref h5, .ref h6, .ref h7, .int 0, .int 0, .ref h8, .ref h9, .ref h10, .ref h11, .ref h12, .ref h13, .ref h14])), (h1, .inr (2, [.ref h15, .int 0, .int 0])), (h2, .inr (3, [.ref h1, .ref h16, .ref h17, .int 0])), (h8, .inr (0, [.int 1])), (h9, .inr (8, [.ref h23, .int 0]))] [.ref h0, .int x0]) (vp_Si (fun r => r = if x0 = 0 then (0 : Int32) else (if x0 = 1 then (0 : Int32) else (if x0 = 2 then (0 : Int32) else (if x0 = 3 then (0 : Int32) else (if x0 = 4 then (0 : Int32) else (if x0 = 5 then (0 : Int32) else (if x0 = 6 then (1 : Int32) else ((-2) : Int32))))))))) 0 0 (fun _ => False) := by
  refine Met.ofW (cc := cX11_count) (maxL := 2) (ret := (some .int)) (by decide) rfl ?_
  intro p e s m args below meth c s₁ B hml hv
  obtain ⟨rfl, hP, hKK⟩ := hv
  have hx := B.exec
  have hb := B.bytes
  have hr := B.returns
  have hts := atoms_spec (ws := wsX11_count) B.pre
  have hown : s.vm.findClass RX11 = some m.cls := findClass_of_methodNamed B.named
  have hlocks := B.notSynchronized
  have hK := hKK.1
  have hN := hKK.2
  have hin0 : ∀ w ∈ wsX00, w ∈ wsX11_count := by decide +kernel
  have hin2 : ∀ w ∈ wsX20, w ∈ wsX11_count := by decide +kernel
  have hin8 : ∀ w ∈ wsX80, w ∈ wsX11_count := by decide +kernel
  have hin11 : ∀ w ∈ wsX110, w ∈ wsX11_count := by decide +kernel
  have hl := lv_entry ([.ref h0, .int x0]) (n := 2) (Nat.le_of_ble_eq_true rfl)
  rw [lg_entry_eq]
  generalize (lg_sl ([.ref h0, .int x0]) ++ List.replicate (2 - (lg_sl ([.ref h0, .int x0])).length) Slot.unset).toArray = ls at hl ⊢
  have hl : lv_has ls 2 [(0, .ref h0), (1, .int x0)] := hl
  refine lv_iload_n hx hb dX11_count_0 rfl (lv_at hl 1 rfl) ?_
  by_cases k2611 : x0 = 0
  · subst k2611
    refine lv_tableIn (tgt := 44) (off := 43) hx hb dX11_count_1 (by decide) (by decide) rfl (by decide) ?_
    refine lv_aload_n hx hb dX11_count_44 rfl (lv_at hl 0 rfl) ?_
    refine va_get (D := D) (ci := 11) (v := .ref h1) (C := RX11) (T := TX11) (N := 16) hx hb hts hin11 hown hK hP 0 rfl rfl 0 (by decide) (hts (.fieldLink RX11 12 "MissedPoints" "net" "LMissedPoints$Net;") (by decide +kernel)) (fun _ h9 => h9) rfl dX11_count_45 ?_
    refine va_getN (D := D) (ci := 2) (v := .int 0) (C := RX2) (T := TX2) (N := 3) hx hb hts hin2 hown hK hP 1 rfl rfl 1 (by decide) (va_Nw.use rfl hN.2.2.2.2.2.2.2.2.2.1) (fun _ h9 => h9) rfl dX11_count_48 ?_
    exact W.iret (v := 0) hx hb hr (fun t ht hW => ⟨_, rfl, by rw [if_pos rfl], ht⟩) (fun q hq => absurd hq List.not_mem_nil) dX11_count_51
  · by_cases k2612 : x0 = 1
    · subst k2612
      refine lv_tableIn (tgt := 52) (off := 51) hx hb dX11_count_1 (by decide) (by decide) rfl (by decide) ?_
      refine lv_aload_n hx hb dX11_count_52 rfl (lv_at hl 0 rfl) ?_
      refine va_get (D := D) (ci := 11) (v := .ref h1) (C := RX11) (T := TX11) (N := 16) hx hb hts hin11 hown hK hP 0 rfl rfl 0 (by decide) (hts (.fieldLink RX11 12 "MissedPoints" "net" "LMissedPoints$Net;") (by decide +kernel)) (fun _ h9 => h9) rfl dX11_count_53 ?_
      have hPc := hP.sub (ws' := [(h1, .inr (2, [.ref h15, .int 0, .int 0]))]) [1] rfl
      refine lz_sv (As := []) (rest := []) ⟨hx, hb, hml, hown, hts⟩ (c_X2_lineCount_0 l D cI cS h1 h15) hKK hPc (ci := 2) rfl rfl (cwV 0 hts gX11_count_X2_lineCount rfl rfl rfl (by decide +kernel) ⟨Nat.le_of_ble_eq_true rfl, Nat.le_of_ble_eq_true rfl⟩) rfl hl.1 rfl (Nat.le_of_ble_eq_true rfl) dX11_count_56 ⟨Nat.le_of_ble_eq_true rfl, Nat.le_of_ble_eq_true rfl⟩ (fun r2613 hw => ?_)
      subst hw
      exact W.iret (v := 0) hx hb hr (fun t ht hW => ⟨_, rfl, by rw [if_neg k2611, if_pos rfl], ht⟩) (fun q hq => absurd hq List.not_mem_nil) dX11_count_59
    · by_cases k2614 : x0 = 2
      · subst k2614
        refine lv_tableIn (tgt := 60) (off := 59) hx hb dX11_count_1 (by decide) (by decide) rfl (by decide) ?_
        refine lv_aload_n hx hb dX11_count_60 rfl (lv_at hl 0 rfl) ?_
        refine va_get (D := D) (ci := 11) (v := .ref h2) (C := RX11) (T := TX11) (N := 16) hx hb hts hin11 hown hK hP 0 rfl rfl 1 (by decide) (hts (.fieldLink RX11 21 "MissedPoints" "pairs" "LMissedPoints$Pairs;") (by decide +kernel)) (fun _ h9 => h9) rfl dX11_count_61 ?_
        refine lv_aload_n hx hb dX11_count_64 rfl (lv_at hl 0 rfl) ?_
        refine va_get (D := D) (ci := 11) (v := .ref h1) (C := RX11) (T := TX11) (N := 16) hx hb hts hin11 hown hK hP 0 rfl rfl 0 (by decide) (hts (.fieldLink RX11 12 "MissedPoints" "net" "LMissedPoints$Net;") (by decide +kernel)) (fun _ h9 => h9) rfl dX11_count_65 ?_
        have hPc := hP.sub (ws' := [(h1, .inr (2, [.ref h15, .int 0, .int 0]))]) [1] rfl
        refine lz_sv (As := []) (rest := [.ref h2]) ⟨hx, hb, hml, hown, hts⟩ (c_X2_all_0 l D cI cS h1 h15) hKK hPc (ci := 2) rfl rfl (cwV 0 hts gX11_count_X2_all rfl rfl rfl (by decide +kernel) ⟨Nat.le_of_ble_eq_true rfl, Nat.le_of_ble_eq_true rfl⟩) rfl hl.1 rfl (Nat.le_of_ble_eq_true rfl) dX11_count_68 ⟨Nat.le_of_ble_eq_true rfl, Nat.le_of_ble_eq_true rfl⟩ (fun r2615 hw => ?_)
        subst hw
        have hPc := hP.sub (ws' := [(h2, .inr (3, [.ref h1, .ref h16, .ref h17, .int 0])), (h1, .inr (2, [.ref h15, .int 0, .int 0]))]) [2, 1] rfl
        refine lz_sv (As := [.int 0]) (rest := []) ⟨hx, hb, hml, hown, hts⟩ (c_X3_best_0 l D cI cS h2 h1 h16 h17 h15) hKK hPc (ci := 3) rfl rfl (cwV 1 hts gX11_count_X3_best rfl rfl rfl (by decide +kernel) ⟨Nat.le_of_ble_eq_true rfl, Nat.le_of_ble_eq_true rfl⟩) rfl hl.1 rfl (Nat.le_of_ble_eq_true rfl) dX11_count_71 ⟨Nat.le_of_ble_eq_true rfl, Nat.le_of_ble_eq_true rfl⟩ (fun r2616 hw => ?_)
        subst hw
        exact W.iret (v := 0) hx hb hr (fun t ht hW => ⟨_, rfl, by rw [if_neg k2611, if_neg k2612, if_pos rfl], ht⟩) (fun q hq => absurd hq List.not_mem_nil) dX11_count_74
      · by_cases k2617 : x0 = 3
        · subst k2617
          refine lv_tableIn (tgt := 75) (off := 74) hx hb dX11_count_1 (by decide) (by decide) rfl (by decide) ?_
          refine lv_aload_n hx hb dX11_count_75 rfl (lv_at hl 0 rfl) ?_
          refine va_get (D := D) (ci := 11) (v := .ref h2) (C := RX11) (T := TX11) (N := 16) hx hb hts hin11 hown hK hP 0 rfl rfl 1 (by decide) (hts (.fieldLink RX11 21 "MissedPoints" "pairs" "LMissedPoints$Pairs;") (by decide +kernel)) (fun _ h9 => h9) rfl dX11_count_76 ?_
          refine lv_aload_n hx hb dX11_count_79 rfl (lv_at hl 0 rfl) ?_
          refine va_get (D := D) (ci := 11) (v := .ref h1) (C := RX11) (T := TX11) (N := 16) hx hb hts hin11 hown hK hP 0 rfl rfl 0 (by decide) (hts (.fieldLink RX11 12 "MissedPoints" "net" "LMissedPoints$Net;") (by decide +kernel)) (fun _ h9 => h9) rfl dX11_count_80 ?_
          have hPc := hP.sub (ws' := [(h1, .inr (2, [.ref h15, .int 0, .int 0]))]) [1] rfl
          refine lz_sv (As := []) (rest := [.ref h2]) ⟨hx, hb, hml, hown, hts⟩ (c_X2_all_0 l D cI cS h1 h15) hKK hPc (ci := 2) rfl rfl (cwV 0 hts gX11_count_X2_all rfl rfl rfl (by decide +kernel) ⟨Nat.le_of_ble_eq_true rfl, Nat.le_of_ble_eq_true rfl⟩) rfl hl.1 rfl (Nat.le_of_ble_eq_true rfl) dX11_count_83 ⟨Nat.le_of_ble_eq_true rfl, Nat.le_of_ble_eq_true rfl⟩ (fun r2618 hw => ?_)
          subst hw
          have hPc := hP.sub (ws' := [(h2, .inr (3, [.ref h1, .ref h16, .ref h17, .int 0])), (h1, .inr (2, [.ref h15, .int 0, .int 0]))]) [2, 1] rfl
          refine lz_sv (As := [.int 0]) (rest := []) ⟨hx, hb, hml, hown, hts⟩ (c_X3_lack_0 l D cI cS h2 h1 h16 h17 h15) hKK hPc (ci := 3) rfl rfl (cwV 1 hts gX11_count_X3_lack rfl rfl rfl (by decide +kernel) ⟨Nat.le_of_ble_eq_true rfl, Nat.le_of_ble_eq_true rfl⟩) rfl hl.1 rfl (Nat.le_of_ble_eq_true rfl) dX11_count_86 ⟨Nat.le_of_ble_eq_true rfl, Nat.le_of_ble_eq_true rfl⟩ (fun r2619 hw => ?_)
          subst hw
          exact W.iret (v := 0) hx hb hr (fun t ht hW => ⟨_, rfl, by rw [if_neg k2611, if_neg k2612, if_neg k2614, if_pos rfl], ht⟩) (fun q hq => absurd hq List.not_mem_nil) dX11_count_89
        · by_cases k2620 : x0 = 4
          · subst k2620
            refine lv_tableIn (tgt := 90) (off := 89) hx hb dX11_count_1 (by decide) (by decide) rfl (by decide) ?_
            refine lv_aload_n hx hb dX11_count_90 rfl (lv_at hl 0 rfl) ?_
            refine va_get (D := D) (ci := 11) (v := .ref h1) (C := RX11) (T := TX11) (N := 16) hx hb hts hin11 hown hK hP 0 rfl rfl 0 (by decide) (hts (.fieldLink RX11 12 "MissedPoints" "net" "LMissedPoints$Net;") (by decide +kernel)) (fun _ h9 => h9) rfl dX11_count_91 ?_
            refine lv_aload_n hx hb dX11_count_94 rfl (lv_at hl 0 rfl) ?_
            refine va_get (D := D) (ci := 11) (v := .ref h1) (C := RX11) (T := TX11) (N := 16) hx hb hts hin11 hown hK hP 0 rfl rfl 0 (by decide) (hts (.fieldLink RX11 12 "MissedPoints" "net" "LMissedPoints$Net;") (by decide +kernel)) (fun _ h9 => h9) rfl dX11_count_95 ?_
            have hPc := hP.sub (ws' := [(h1, .inr (2, [.ref h15, .int 0, .int 0]))]) [1] rfl
            refine lz_sv (As := []) (rest := [.ref h1]) ⟨hx, hb, hml, hown, hts⟩ (c_X2_all_0 l D cI cS h1 h15) hKK hPc (ci := 2) rfl rfl (cwV 0 hts gX11_count_X2_all rfl rfl rfl (by decide +kernel) ⟨Nat.le_of_ble_eq_true rfl, Nat.le_of_ble_eq_true rfl⟩) rfl hl.1 rfl (Nat.le_of_ble_eq_true rfl) dX11_count_98 ⟨Nat.le_of_ble_eq_true rfl, Nat.le_of_ble_eq_true rfl⟩ (fun r2621 hw => ?_)
            subst hw
            have hPc := hP.sub (ws' := [(h1, .inr (2, [.ref h15, .int 0, .int 0]))]) [1] rfl
            refine lz_sv (As := [.int 0]) (rest := []) ⟨hx, hb, hml, hown, hts⟩ (c_X2_pieceCount_0 l D cI cS h1 h15) hKK hPc (ci := 2) rfl rfl (cwV 1 hts gX11_count_X2_pieceCount rfl rfl rfl (by decide +kernel) ⟨Nat.le_of_ble_eq_true rfl, Nat.le_of_ble_eq_true rfl⟩) rfl hl.1 rfl (Nat.le_of_ble_eq_true rfl) dX11_count_101 ⟨Nat.le_of_ble_eq_true rfl, Nat.le_of_ble_eq_true rfl⟩ (fun r2622 hw => ?_)
            subst hw
            exact W.iret (v := 0) hx hb hr (fun t ht hW => ⟨_, rfl, by rw [if_neg k2611, if_neg k2612, if_neg k2614, if_neg k2617, if_pos rfl], ht⟩) (fun q hq => absurd hq List.not_mem_nil) dX11_count_104
          · by_cases k2623 : x0 = 5
            · subst k2623
              refine lv_tableIn (tgt := 105) (off := 104) hx hb dX11_count_1 (by decide) (by decide) rfl (by decide) ?_
              refine lv_aload_n hx hb dX11_count_105 rfl (lv_at hl 0 rfl) ?_
              refine va_get (D := D) (ci := 11) (v := .ref h9) (C := RX11) (T := TX11) (N := 16) hx hb hts hin11 hown hK hP 0 rfl rfl 10 (by decide) (hts (.fieldLink RX11 60 "MissedPoints" "tape" "LMissedPoints$Tape;") (by decide +kernel)) (fun _ h9 => h9) rfl dX11_count_106 ?_
              refine va_getN (D := D) (ci := 8) (v := .int 0) (C := RX8) (T := TX8) (N := 2) hx hb hts hin8 hown hK hP 4 rfl rfl 1 (by decide) (va_Nw.use rfl hN.1) (fun _ h9 => h9) rfl dX11_count_109 ?_
              exact W.iret (v := 0) hx hb hr (fun t ht hW => ⟨_, rfl, by rw [if_neg k2611, if_neg k2612, if_neg k2614, if_neg k2617, if_neg k2620, if_pos rfl], ht⟩) (fun q hq => absurd hq List.not_mem_nil) dX11_count_112
            · by_cases k2624 : x0 = 6
              · subst k2624
                refine lv_tableIn (tgt := 113) (off := 112) hx hb dX11_count_1 (by decide) (by decide) rfl (by decide) ?_
                refine lv_aload_n hx hb dX11_count_113 rfl (lv_at hl 0 rfl) ?_
                refine va_get (D := D) (ci := 11) (v := .ref h8) (C := RX11) (T := TX11) (N := 16) hx hb hts hin11 hown hK hP 0 rfl rfl 9 (by decide) (hts (.fieldLink RX11 53 "MissedPoints" "draws" "LMissedPoints$Draws;") (by decide +kernel)) (fun _ h9 => h9) rfl dX11_count_114 ?_
                refine va_getN (D := D) (ci := 0) (v := .int 1) (C := RX0) (T := TX0) (N := 1) hx hb hts hin0 hown hK hP 3 rfl rfl 0 (by decide) (va_Nw.use rfl hN.2.1) (fun _ h9 => h9) rfl dX11_count_117 ?_
                exact W.iret (v := 1) hx hb hr (fun t ht hW => ⟨_, rfl, by rw [if_neg k2611, if_neg k2612, if_neg k2614, if_neg k2617, if_neg k2620, if_neg k2623, if_pos rfl], ht⟩) (fun q hq => absurd hq List.not_mem_nil) dX11_count_120
              · refine lv_tableOut (tgt := 121) hx hb dX11_count_1 (by have zf1 := mt (lz_eq x0 (0 : Int32)).mpr k2611; have zf2 := mt (lz_eq x0 (1 : Int32)).mpr k2612; have zf3 := mt (lz_eq x0 (2 : Int32)).mpr k2614; have zf4 := mt (lz_eq x0 (3 : Int32)).mpr k2617; have zf5 := mt (lz_eq x0 (4 : Int32)).mpr k2620; have zf6 := mt (lz_eq x0 (5 : Int32)).mpr k2623; have zf7 := mt (lz_eq x0 (6 : Int32)).mpr k2624; have zn0 : (0 : Int32).toInt = 0 := (by decide); have zn1 : (1 : Int32).toInt = 1 := (by decide); have zn2 : (2 : Int32).toInt = 2 := (by decide); have zn3 : (3 : Int32).toInt = 3 := (by decide); have zn4 : (4 : Int32).toInt = 4 := (by decide); have zn5 : (5 : Int32).toInt = 5 := (by decide); have zn6 : (6 : Int32).toInt = 6 := (by decide); omega) (by decide) ?_
                refine lv_bipush (v := (-2)) hx hb dX11_count_121 (by decide) ?_
                exact W.iret (v := (-2)) hx hb hr (fun t ht hW => ⟨_, rfl, by rw [if_neg k2611, if_neg k2612, if_neg k2614, if_neg k2617, if_neg k2620, if_neg k2623, if_neg k2624], ht⟩) (fun q hq => absurd hq List.not_mem_nil) dX11_count_123
set_option maxHeartbeats 4000000 in
set_option maxRecDepth 100000 in
theorem c_X2_hasAll_0 (l : Launch) (D : va_G) (cI cS : ClassId) (h0 h1 : Nat) (x0 : Int32) : Met l yX2_hasAll wsX2_hasAll ({ frames := 1, cells := 0, slots := 0, locals := 40 }) (PS D cI cS [(h0, .inr (2, [.ref h1, .int 0, .int 0]))] [.ref h0, .int x0]) (vp_Si (fun r => r = if x0 = 0 then (1 : Int32) else (0 : Int32))) 0 0 (fun _ => False) := by
  refine Met.ofW (cc := cX2_hasAll) (maxL := 2) (ret := (some .boolean)) (by decide) rfl ?_
  intro p e s m args below meth c s₁ B hml hv
  obtain ⟨rfl, hP, hKK⟩ := hv
  have hx := B.exec
  have hb := B.bytes
  have hr := B.returns
  have hts := atoms_spec (ws := wsX2_hasAll) B.pre
  have hown : s.vm.findClass RX2 = some m.cls := findClass_of_methodNamed B.named
  have hlocks := B.notSynchronized
  have hK := hKK.1
  have hN := hKK.2
  have hl := lv_entry ([.ref h0, .int x0]) (n := 2) (Nat.le_of_ble_eq_true rfl)
  rw [lg_entry_eq]
  generalize (lg_sl ([.ref h0, .int x0]) ++ List.replicate (2 - (lg_sl ([.ref h0, .int x0])).length) Slot.unset).toArray = ls at hl ⊢
  have hl : lv_has ls 2 [(0, .ref h0), (1, .int x0)] := hl
  refine lv_iload_n hx hb dX2_hasAll_0 rfl (lv_at hl 1 rfl) ?_
  refine lv_aload_n hx hb dX2_hasAll_1 rfl (lv_at hl 0 rfl) ?_
  have hPc := hP.sub (ws' := [(h0, .inr (2, [.ref h1, .int 0, .int 0]))]) [0] rfl
  refine lz_sv (As := []) (rest := [.int x0]) ⟨hx, hb, hml, hown, hts⟩ (c_X2_all_0 l D cI cS h0 h1) hKK hPc (ci := 2) rfl rfl (cwV 0 hts gX2_hasAll_X2_all rfl rfl rfl (by decide +kernel) ⟨Nat.le_of_ble_eq_true rfl, Nat.le_of_ble_eq_true rfl⟩) rfl hl.1 rfl (Nat.le_of_ble_eq_true rfl) dX2_hasAll_2 ⟨Nat.le_of_ble_eq_true rfl, Nat.le_of_ble_eq_true rfl⟩ (fun r2627 hw => ?_)
  subst hw
  refine lv_iconst (v := (-1)) hx hb dX2_hasAll_5 (by decide) ?_
  refine lv_ixor hx hb dX2_hasAll_6 ?_
  refine lz_top (y := (-1)) (by decide) ?_
  refine lv_iand hx hb dX2_hasAll_7 ?_
  refine lz_top (y := x0) (by simp) ?_
  refine lv_if_ne (tgt := 15) hx hb dX2_hasAll_8 (by decide) (fun c2628 => ?_) (fun c2628 => ?_)
  · refine lv_iconst (v := 0) hx hb dX2_hasAll_15 (by decide) ?_
    exact W.zret (v := 0) hx hb hr (by decide) (fun t ht hW => ⟨_, rfl, by rw [if_neg c2628], ht⟩) (fun q hq => absurd hq List.not_mem_nil) dX2_hasAll_16
  · subst c2628
    refine lv_iconst (v := 1) hx hb dX2_hasAll_11 (by decide) ?_
    refine lv_goto (tgt := 16) hx hb dX2_hasAll_12 (by decide) ?_
    exact W.zret (v := 1) hx hb hr (by decide) (fun t ht hW => ⟨_, rfl, by rw [if_pos rfl], ht⟩) (fun q hq => absurd hq List.not_mem_nil) dX2_hasAll_16
set_option maxHeartbeats 4000000 in
set_option maxRecDepth 100000 in
theorem c_X11_most_0 (l : Launch) (D : va_G) (cI cS : ClassId) (h0 h1 h2 h3 h4 h5 h6 h7 h8 h9 h10 h11 h12 h13 h14 h15 h16 h17 : Nat) (x0 : Int32) : Met l yX11_most wsX11_most ({ frames := 3, cells := 0, slots := 0, locals := 120 }) (PS D cI cS [(h0, .inr (11, [.ref h1, .ref h2, .ref h3, .ref h4, .ref h5, .ref h6, .ref h7, .int 0, .int 0, .ref h8, .ref h9, .ref h10, .ref h11, .ref h12, .ref h13, .ref h14])), (h1, .inr (2, [.ref h15, .int 0, .int 0])), (h2, .inr (3, [.ref h1, .ref h16, .ref h17, .int 0]))] [.ref h0, .int x0]) (vp_Si (fun r => r = if x0 = 0 then (0 : Int32) else ((-2) : Int32))) 0 0 (fun _ => False) := by
  refine Met.ofW (cc := cX11_most) (maxL := 2) (ret := (some .int)) (by decide) rfl ?_
  intro p e s m args below meth c s₁ B hml hv
  obtain ⟨rfl, hP, hKK⟩ := hv
  have hx := B.exec
  have hb := B.bytes
  have hr := B.returns
  have hts := atoms_spec (ws := wsX11_most) B.pre
  have hown : s.vm.findClass RX11 = some m.cls := findClass_of_methodNamed B.named
  have hlocks := B.notSynchronized
  have hK := hKK.1
  have hN := hKK.2
  have hin11 : ∀ w ∈ wsX110, w ∈ wsX11_most := by decide +kernel
  have hl := lv_entry ([.ref h0, .int x0]) (n := 2) (Nat.le_of_ble_eq_true rfl)
  rw [lg_entry_eq]
  generalize (lg_sl ([.ref h0, .int x0]) ++ List.replicate (2 - (lg_sl ([.ref h0, .int x0])).length) Slot.unset).toArray = ls at hl ⊢
  have hl : lv_has ls 2 [(0, .ref h0), (1, .int x0)] := hl
  refine lv_aload_n hx hb dX11_most_0 rfl (lv_at hl 0 rfl) ?_
  refine va_get (D := D) (ci := 11) (v := .ref h1) (C := RX11) (T := TX11) (N := 16) hx hb hts hin11 hown hK hP 0 rfl rfl 0 (by decide) (hts (.fieldLink RX11 12 "MissedPoints" "net" "LMissedPoints$Net;") (by decide +kernel)) (fun _ h9 => h9) rfl dX11_most_1 ?_
  refine lv_iload_n hx hb dX11_most_4 rfl (lv_at hl 1 rfl) ?_
  have hPc := hP.sub (ws' := [(h1, .inr (2, [.ref h15, .int 0, .int 0]))]) [1] rfl
  refine lz_sv (As := [.int x0]) (rest := []) ⟨hx, hb, hml, hown, hts⟩ (c_X2_hasAll_0 l D cI cS h1 h15 x0) hKK hPc (ci := 2) rfl rfl (cwV 1 hts gX11_most_X2_hasAll rfl rfl rfl (by decide +kernel) ⟨Nat.le_of_ble_eq_true rfl, Nat.le_of_ble_eq_true rfl⟩) rfl hl.1 rfl (Nat.le_of_ble_eq_true rfl) dX11_most_5 ⟨Nat.le_of_ble_eq_true rfl, Nat.le_of_ble_eq_true rfl⟩ (fun r2634 hw => ?_)
  by_cases k2635 : x0 = 0
  · rw [if_pos k2635] at hw
    subst k2635
    subst hw
    refine lv_if_eq (tgt := 22) hx hb dX11_most_8 (by decide) (fun c2636 => ?_) (fun c2636 => ?_)
    · exact absurd c2636 (by decide)
    · refine lv_aload_n hx hb dX11_most_11 rfl (lv_at hl 0 rfl) ?_
      refine va_get (D := D) (ci := 11) (v := .ref h2) (C := RX11) (T := TX11) (N := 16) hx hb hts hin11 hown hK hP 0 rfl rfl 1 (by decide) (hts (.fieldLink RX11 21 "MissedPoints" "pairs" "LMissedPoints$Pairs;") (by decide +kernel)) (fun _ h9 => h9) rfl dX11_most_12 ?_
      refine lv_iload_n hx hb dX11_most_15 rfl (lv_at hl 1 rfl) ?_
      have hPc := hP.sub (ws' := [(h2, .inr (3, [.ref h1, .ref h16, .ref h17, .int 0])), (h1, .inr (2, [.ref h15, .int 0, .int 0]))]) [2, 1] rfl
      refine lz_sv (As := [.int 0]) (rest := []) ⟨hx, hb, hml, hown, hts⟩ (c_X3_best_0 l D cI cS h2 h1 h16 h17 h15) hKK hPc (ci := 3) rfl rfl (cwV 1 hts gX11_most_X3_best rfl rfl rfl (by decide +kernel) ⟨Nat.le_of_ble_eq_true rfl, Nat.le_of_ble_eq_true rfl⟩) rfl hl.1 rfl (Nat.le_of_ble_eq_true rfl) dX11_most_16 ⟨Nat.le_of_ble_eq_true rfl, Nat.le_of_ble_eq_true rfl⟩ (fun r2637 hw => ?_)
      subst hw
      refine lv_goto (tgt := 24) hx hb dX11_most_19 (by decide) ?_
      exact W.iret (v := 0) hx hb hr (fun t ht hW => ⟨_, rfl, by rw [if_pos rfl], ht⟩) (fun q hq => absurd hq List.not_mem_nil) dX11_most_24
  · rw [if_neg k2635] at hw
    subst hw
    refine lv_if_eq (tgt := 22) hx hb dX11_most_8 (by decide) (fun c2638 => ?_) (fun c2638 => ?_)
    · refine lv_bipush (v := (-2)) hx hb dX11_most_22 (by decide) ?_
      exact W.iret (v := (-2)) hx hb hr (fun t ht hW => ⟨_, rfl, by rw [if_neg k2635], ht⟩) (fun q hq => absurd hq List.not_mem_nil) dX11_most_24
    · exact absurd c2638 (by decide)
set_option maxHeartbeats 4000000 in
set_option maxRecDepth 100000 in
theorem c_X11_mate_0 (l : Launch) (D : va_G) (cI cS : ClassId) (h0 h1 h2 h3 h4 h5 h6 h7 h8 h9 h10 h11 h12 h13 h14 h15 : Nat) (x0 : Int32) : Met l yX11_mate wsX11_mate ({ frames := 1, cells := 0, slots := 0, locals := 40 }) (PS D cI cS [(h0, .inr (11, [.ref h1, .ref h2, .ref h3, .ref h4, .ref h5, .ref h6, .ref h7, .int 0, .int 0, .ref h8, .ref h9, .ref h10, .ref h11, .ref h12, .ref h13, .ref h14])), (h1, .inr (2, [.ref h15, .int 0, .int 0]))] [.ref h0, .int x0]) (vp_Si (fun r => r = ((-2) : Int32))) 0 0 (fun _ => False) := by
  refine Met.ofW (cc := cX11_mate) (maxL := 2) (ret := (some .int)) (by decide) rfl ?_
  intro p e s m args below meth c s₁ B hml hv
  obtain ⟨rfl, hP, hKK⟩ := hv
  have hx := B.exec
  have hb := B.bytes
  have hr := B.returns
  have hts := atoms_spec (ws := wsX11_mate) B.pre
  have hown : s.vm.findClass RX11 = some m.cls := findClass_of_methodNamed B.named
  have hlocks := B.notSynchronized
  have hK := hKK.1
  have hN := hKK.2
  have hin11 : ∀ w ∈ wsX110, w ∈ wsX11_mate := by decide +kernel
  have hl := lv_entry ([.ref h0, .int x0]) (n := 2) (Nat.le_of_ble_eq_true rfl)
  rw [lg_entry_eq]
  generalize (lg_sl ([.ref h0, .int x0]) ++ List.replicate (2 - (lg_sl ([.ref h0, .int x0])).length) Slot.unset).toArray = ls at hl ⊢
  have hl : lv_has ls 2 [(0, .ref h0), (1, .int x0)] := hl
  refine lv_aload_n hx hb dX11_mate_0 rfl (lv_at hl 0 rfl) ?_
  refine va_get (D := D) (ci := 11) (v := .ref h1) (C := RX11) (T := TX11) (N := 16) hx hb hts hin11 hown hK hP 0 rfl rfl 0 (by decide) (hts (.fieldLink RX11 12 "MissedPoints" "net" "LMissedPoints$Net;") (by decide +kernel)) (fun _ h9 => h9) rfl dX11_mate_1 ?_
  refine lv_iload_n hx hb dX11_mate_4 rfl (lv_at hl 1 rfl) ?_
  have hPc := hP.sub (ws' := [(h1, .inr (2, [.ref h15, .int 0, .int 0]))]) [1] rfl
  refine lz_sv (As := [.int x0]) (rest := []) ⟨hx, hb, hml, hown, hts⟩ (c_X2_hasPoint_0 l D cI cS h1 h15 x0) hKK hPc (ci := 2) rfl rfl (cwV 1 hts gX11_mate_X2_hasPoint rfl rfl rfl (by decide +kernel) ⟨Nat.le_of_ble_eq_true rfl, Nat.le_of_ble_eq_true rfl⟩) rfl hl.1 rfl (Nat.le_of_ble_eq_true rfl) dX11_mate_5 ⟨Nat.le_of_ble_eq_true rfl, Nat.le_of_ble_eq_true rfl⟩ (fun r2641 hw => ?_)
  subst hw
  refine lv_if_ne (tgt := 14) hx hb dX11_mate_8 (by decide) (fun c2642 => ?_) (fun c2642 => ?_)
  · exact absurd c2642 (by decide)
  · refine lv_bipush (v := (-2)) hx hb dX11_mate_11 (by decide) ?_
    exact W.iret (v := (-2)) hx hb hr (fun t ht hW => ⟨_, rfl, rfl, ht⟩) (fun q hq => absurd hq List.not_mem_nil) dX11_mate_13
set_option maxHeartbeats 4000000 in
set_option maxRecDepth 100000 in
theorem c_X1_isBlank_0 (l : Launch) (D : va_G) (cI cS : ClassId) (h0 h1 : Nat) : Met l yX1_isBlank wsX1_isBlank ({ frames := 0, cells := 0, slots := 0, locals := 0 }) (PS D cI cS [(h0, .inr (1, [.ref h1, .int 1])), (h1, .inl (cI, 0, .inl (fun _ => 0)))] [.ref h0]) (vp_Si (fun r => r = (1 : Int32))) 0 0 (fun _ => False) := by
  refine Met.ofW (cc := cX1_isBlank) (maxL := 1) (ret := (some .boolean)) (by decide) rfl ?_
  intro p e s m args below meth c s₁ B hml hv
  obtain ⟨rfl, hP, hKK⟩ := hv
  have hx := B.exec
  have hb := B.bytes
  have hr := B.returns
  have hts := atoms_spec (ws := wsX1_isBlank) B.pre
  have hown : s.vm.findClass RX1 = some m.cls := findClass_of_methodNamed B.named
  have hlocks := B.notSynchronized
  have hK := hKK.1
  have hN := hKK.2
  have hin1 : ∀ w ∈ wsX10, w ∈ wsX1_isBlank := by decide +kernel
  have hl := lv_entry ([.ref h0]) (n := 1) (Nat.le_of_ble_eq_true rfl)
  rw [lg_entry_eq]
  generalize (lg_sl ([.ref h0]) ++ List.replicate (1 - (lg_sl ([.ref h0])).length) Slot.unset).toArray = ls at hl ⊢
  have hl : lv_has ls 1 [(0, .ref h0)] := hl
  refine lv_aload_n hx hb dX1_isBlank_0 rfl (lv_at hl 0 rfl) ?_
  refine va_get (D := D) (ci := 1) (v := .ref h1) (C := RX1) (T := TX1) (N := 2) hx hb hts hin1 hown hK hP 0 rfl rfl 0 (by decide) (hts (.fieldLink RX1 21 "MissedPoints$Memo" "cells" "[I") (by decide +kernel)) (fun _ h9 => h9) rfl dX1_isBlank_1 ?_
  refine va_alen hx hb hK hP 1 0 rfl rfl (v := 0) (by decide) dX1_isBlank_4 ?_
  refine lv_if_ne (tgt := 12) hx hb dX1_isBlank_5 (by decide) (fun c2649 => ?_) (fun c2649 => ?_)
  · exact absurd c2649 (by decide)
  · refine lv_iconst (v := 1) hx hb dX1_isBlank_8 (by decide) ?_
    refine lv_goto (tgt := 13) hx hb dX1_isBlank_9 (by decide) ?_
    exact W.zret (v := 1) hx hb hr (by decide) (fun t ht hW => ⟨_, rfl, rfl, ht⟩) (fun q hq => absurd hq List.not_mem_nil) dX1_isBlank_13
set_option maxHeartbeats 4000000 in
set_option maxRecDepth 100000 in
theorem c_X1_init_0 (l : Launch) (D : va_G) (cI cS : ClassId) (sz : Nat) (h0 : Nat) : Met l yX1_init wsX1_init ({ frames := 1, cells := 1, slots := 24576, locals := 40 }) (PQ D cI cS [(h0, .inr (1, [.null, .int 0]))] sz [.ref h0, .int 24576]) (QV D [(h0, .inr (1, [.null, .int 0]))] [] sz) 1 24576 (va_A [(h0, .inr (1, [.null, .int 0]))] sz) := by
  refine Met.ofW (cc := cX1_init) (maxL := 2) (ret := none) (by decide) rfl ?_
  intro p e s m args below meth c s₁ B hml hv
  obtain ⟨rfl, hsz, hP, hKK, hD0⟩ := hv
  have hx := B.exec
  have hb := B.bytes
  have hr := B.returns
  have hts := atoms_spec (ws := wsX1_init) B.pre
  have hown : s.vm.findClass RX1 = some m.cls := findClass_of_methodNamed B.named
  have hlocks := B.notSynchronized
  have hK := hKK.1
  have hN := hKK.2
  have hin : meth.name = "<init>" := (name_of_methodNamed B.named B.method).1
  have hin1 : ∀ w ∈ wsX10, w ∈ wsX1_init := by decide +kernel
  subst hsz
  have hD := hD0.self (sz := s.heap.size)
  obtain ⟨A, hAe⟩ : ∃ A, A = va_A [(h0, .inr (1, [.null, .int 0]))] s.heap.size := ⟨_, rfl⟩
  rw [← hAe] at hD
  have hA : ∀ q : Nat, s.heap.size ≤ q → A q := fun q h => by rw [hAe]; exact Or.inr h
  have hS : va_S A s.heap s.heap [] := va_S.rf
  have hl := lv_entry ([.ref h0, .int 24576]) (n := 2) (Nat.le_of_ble_eq_true rfl)
  rw [lg_entry_eq]
  generalize (lg_sl ([.ref h0, .int 24576]) ++ List.replicate (2 - (lg_sl ([.ref h0, .int 24576])).length) Slot.unset).toArray = ls at hl ⊢
  have hl : lv_has ls 2 [(0, .ref h0), (1, .int 24576)] := hl
  refine lv_aload_n hx hb dX1_init_0 rfl (lv_at hl 0 rfl) ?_
  refine W.objInit hx hb hown (hts (.methodLink RX1 3 objectInit) (by decide +kernel)) (hts (.instanceMethod objectInit) (by decide +kernel)) (hts (.code objectInit ⟨#[0xb1]⟩ 1 none) (by decide +kernel)) rfl (by rw [hml]; exact hl.1) rfl dX1_init_1 (Nat.le_of_ble_eq_true rfl) (Nat.le_of_ble_eq_true rfl) ?_
  refine W.eq (g2 := F0 m 4 ls []) rfl ?_
  refine lv_aload_n hx hb dX1_init_4 rfl (lv_at hl 0 rfl) ?_
  refine lv_iconst (v := 1) hx hb dX1_init_5 (by decide) ?_
  refine va_put (D := D) (ci := 1) (v := .int 1) (ty := .int) (C := RX1) (T := TX1) (N := 2) hx hb hts hin1 tyX1 tyX1_ok nmX1 hown hK hP hD hS 0 rfl rfl 1 (by decide) (hts (.fieldLink RX1 9 "MissedPoints$Memo" "age" "I") (by decide +kernel)) (fun _ h9 => h9) rfl (by decide +kernel) rfl rfl (Nat.le_of_ble_eq_true rfl) dX1_init_6 (fun H locs hP hD hS => ?_)
  have hP : va_P D cls [(h0, .inr (1, [.null, .int 1]))] H := hP
  have hD : va_D A [(h0, .inr (1, [.null, .int 1]))] := hD
  refine lv_aload_n hx hb dX1_init_9 rfl (lv_at hl 0 rfl) ?_
  refine lv_iload_n hx hb dX1_init_10 rfl (lv_at hl 1 rfl) ?_
  refine lv_iconst (v := 0) hx hb dX1_init_11 (by decide) ?_
  refine va_mmax hx hb (by rw [hml]; exact hl.1.symm) hown (hts (.methodLink RX1 15 Lib.Math.max.name) (by decide +kernel)) (hts (.static Lib.Math.max.name) (by decide +kernel)) (hts (.initialized "java/lang/Math") (by decide +kernel)) (hts (.code Lib.Math.max.name Lib.Math.max.code 2 (some .int)) (by decide +kernel)) (Nat.le_of_ble_eq_true rfl) (Nat.le_of_ble_eq_true rfl) (Nat.le_of_ble_eq_true rfl) (Nat.le_of_ble_eq_true rfl) dX1_init_12 ?_
  refine lz_top (y := 24576) (by decide) ?_
  refine va_newa (atype := .int) (ty := .int) (a0 := (24576, .inl (fun _ => 0))) (N' := 24576) hx hb (hts (.arrayClass .int) (by decide +kernel)) rfl hK hP hD hS hA (fun _ => rfl) (by decide) (by decide) (by decide) (Nat.le_of_ble_eq_true rfl) (Nat.le_of_ble_eq_true rfl) dX1_init_15 (fun q2655 cA2656 H hK2 hP hD hS => ?_)
  obtain rfl := (lz_same hK hK2).symm
  have hP : va_P D cls [(h0, .inr (1, [.null, .int 1])), (q2655, .inl (cI, 24576, .inl (fun _ => 0)))] H := hP
  have hD : va_D A [(h0, .inr (1, [.null, .int 1])), (q2655, .inl (cI, 24576, .inl (fun _ => 0)))] := hD
  refine W.widen (k := 1) (n := 24576) (Nat.le_of_ble_eq_true rfl) (Nat.le_of_ble_eq_true rfl) ?_
  refine va_putF (D := D) (ci := 1) (v := .ref q2655) (ty := (.array .int)) (C := RX1) (T := TX1) (N := 2) hx hb hts hin1 tyX1 tyX1_ok nmX1 hown hK hP hD hS 0 rfl rfl 0 (by decide) (hts (.fieldLink RX1 21 "MissedPoints$Memo" "cells" "[I") (by decide +kernel)) (fun _ h9 => h9) rfl hin rfl (by decide +kernel) rfl rfl (Nat.le_of_ble_eq_true rfl) dX1_init_17 (fun H locs hP hD hS => ?_)
  have hP : va_P D cls [(h0, .inr (1, [.ref q2655, .int 1])), (q2655, .inl (cI, 24576, .inl (fun _ => 0)))] H := hP
  have hD : va_D A [(h0, .inr (1, [.ref q2655, .int 1])), (q2655, .inl (cI, 24576, .inl (fun _ => 0)))] := hD
  have hP9 := hP.sub (ws' := []) [] rfl
  have hD9 := hD.sub (ws' := []) [] (by decide) rfl
  refine W.widen (k := 1) (n := 24576) (Nat.le_of_ble_eq_true rfl) (Nat.le_of_ble_eq_true rfl) ?_
  subst hAe
  exact W.vret hx hb hr (fun t ht hW => ⟨⟨(), rfl, trivial, by rw [ht]; exact hP9, hD9⟩, hS.F ht⟩) hS.2.2 dX1_init_20
set_option maxHeartbeats 4000000 in
set_option maxRecDepth 100000 in
theorem c_X3_numberOf_0 (l : Launch) (D : va_G) (cI cS : ClassId) (h0 h1 h2 h3 : Nat) : Met l yX3_numberOf wsX3_numberOf ({ frames := 0, cells := 0, slots := 0, locals := 0 }) (PS D cI cS [(h0, .inr (3, [.ref h1, .ref h2, .ref h3, .int 0]))] [.ref h0, .int 0, .int 0, .int 0]) (vp_Si (fun r => r = (1 : Int32))) 0 0 (fun _ => False) := by
  refine Met.ofW (cc := cX3_numberOf) (maxL := 11) (ret := (some .int)) (by decide) rfl ?_
  intro p e s m args below meth c s₁ B hml hv
  obtain ⟨rfl, hP, hKK⟩ := hv
  have hx := B.exec
  have hb := B.bytes
  have hr := B.returns
  have hts := atoms_spec (ws := wsX3_numberOf) B.pre
  have hown : s.vm.findClass RX3 = some m.cls := findClass_of_methodNamed B.named
  have hlocks := B.notSynchronized
  have hK := hKK.1
  have hN := hKK.2
  have hl := lv_entry ([.ref h0, .int 0, .int 0, .int 0]) (n := 11) (Nat.le_of_ble_eq_true rfl)
  rw [lg_entry_eq]
  generalize (lg_sl ([.ref h0, .int 0, .int 0, .int 0]) ++ List.replicate (11 - (lg_sl ([.ref h0, .int 0, .int 0, .int 0])).length) Slot.unset).toArray = ls at hl ⊢
  have hl : lv_has ls 11 [(0, .ref h0), (1, .int 0), (2, .int 0), (3, .int 0)] := hl
  refine lv_iload_n hx hb dX3_numberOf_0 rfl (lv_at hl 2 rfl) ?_
  refine lv_if_ne (tgt := 6) hx hb dX3_numberOf_1 (by decide) (fun c2659 => ?_) (fun c2659 => ?_)
  · exact absurd c2659 (by decide)
  · refine lv_iconst (v := 1) hx hb dX3_numberOf_4 (by decide) ?_
    exact W.iret (v := 1) hx hb hr (fun t ht hW => ⟨_, rfl, rfl, ht⟩) (fun q hq => absurd hq List.not_mem_nil) dX3_numberOf_5
set_option maxHeartbeats 4000000 in
set_option maxRecDepth 100000 in
theorem c_X3_number_0 (l : Launch) (D : va_G) (cI cS : ClassId) (sz : Nat) (h0 h1 h2 h3 h4 h6 : Nat) : Met l yX3_number wsX3_number ({ frames := 2, cells := 2, slots := 24578, locals := 80 }) (PQ D cI cS [(h0, .inr (3, [.ref h1, .ref h2, .ref h3, .int 0])), (h1, .inr (2, [.ref h4, .int 0, .int 0])), (h3, .inr (1, [.ref h6, .int 1])), (h6, .inl (cI, 0, .inl (fun _ => 0)))] sz [.ref h0, .int 0, .int 0]) (QI D [(h0, .inr (3, [.ref h1, .ref h2, .ref h3, .int 0])), (h1, .inr (2, [.ref h4, .int 0, .int 0])), (h3, .inr (1, [.ref h6, .int 1])), (h6, .inl (cI, 0, .inl (fun _ => 0)))] [] sz (fun r => r = (1 : Int32))) 2 24578 (va_A [(h0, .inr (3, [.ref h1, .ref h2, .ref h3, .int 0])), (h1, .inr (2, [.ref h4, .int 0, .int 0])), (h3, .inr (1, [.ref h6, .int 1])), (h6, .inl (cI, 0, .inl (fun _ => 0)))] sz) := by
  refine Met.ofW (cc := cX3_number) (maxL := 3) (ret := (some .int)) (by decide) rfl ?_
  intro p e s m args below meth c s₁ B hml hv
  obtain ⟨rfl, hsz, hP, hKK, hD0⟩ := hv
  have hx := B.exec
  have hb := B.bytes
  have hr := B.returns
  have hts := atoms_spec (ws := wsX3_number) B.pre
  have hown : s.vm.findClass RX3 = some m.cls := findClass_of_methodNamed B.named
  have hlocks := B.notSynchronized
  have hK := hKK.1
  have hN := hKK.2
  have hin1 : ∀ w ∈ wsX10, w ∈ wsX3_number := by decide +kernel
  have hin3 : ∀ w ∈ wsX30, w ∈ wsX3_number := by decide +kernel
  subst hsz
  have hD := hD0.self (sz := s.heap.size)
  obtain ⟨A, hAe⟩ : ∃ A, A = va_A [(h0, .inr (3, [.ref h1, .ref h2, .ref h3, .int 0])), (h1, .inr (2, [.ref h4, .int 0, .int 0])), (h3, .inr (1, [.ref h6, .int 1])), (h6, .inl (cI, 0, .inl (fun _ => 0)))] s.heap.size := ⟨_, rfl⟩
  rw [← hAe] at hD
  have hA : ∀ q : Nat, s.heap.size ≤ q → A q := fun q h => by rw [hAe]; exact Or.inr h
  have hS : va_S A s.heap s.heap [] := va_S.rf
  have hl := lv_entry ([.ref h0, .int 0, .int 0]) (n := 3) (Nat.le_of_ble_eq_true rfl)
  rw [lg_entry_eq]
  generalize (lg_sl ([.ref h0, .int 0, .int 0]) ++ List.replicate (3 - (lg_sl ([.ref h0, .int 0, .int 0])).length) Slot.unset).toArray = ls at hl ⊢
  have hl : lv_has ls 3 [(0, .ref h0), (1, .int 0), (2, .int 0)] := hl
  refine lv_aload_n hx hb dX3_number_0 rfl (lv_at hl 0 rfl) ?_
  have hPc := hP.sub (ws' := [(h0, .inr (3, [.ref h1, .ref h2, .ref h3, .int 0])), (h1, .inr (2, [.ref h4, .int 0, .int 0]))]) [0, 1] rfl
  refine lz_sw (As := []) (rest := []) ⟨hx, hb, hml, hown, hts⟩ (c_X3_notice_0 l D cI cS h0 h1 h2 h3 h4) hKK hPc (ci := 3) rfl rfl (cwV 0 hts gX3_number_X3_notice rfl rfl rfl (by decide +kernel) ⟨Nat.le_of_ble_eq_true rfl, Nat.le_of_ble_eq_true rfl⟩) rfl hl.1 rfl (Nat.le_of_ble_eq_true rfl) dX3_number_1 ⟨Nat.le_of_ble_eq_true rfl, Nat.le_of_ble_eq_true rfl⟩ ?_
  refine lv_aload_n hx hb dX3_number_4 rfl (lv_at hl 0 rfl) ?_
  refine va_get (D := D) (ci := 3) (v := .ref h3) (C := RX3) (T := TX3) (N := 4) hx hb hts hin3 hown hK hP 0 rfl rfl 2 (by decide) (hts (.fieldLink RX3 20 "MissedPoints$Pairs" "numbers" "LMissedPoints$Memo;") (by decide +kernel)) (fun _ h9 => h9) rfl dX3_number_5 ?_
  have hPc := hP.sub (ws' := [(h3, .inr (1, [.ref h6, .int 1])), (h6, .inl (cI, 0, .inl (fun _ => 0)))]) [2, 3] rfl
  refine lz_sv (As := []) (rest := []) ⟨hx, hb, hml, hown, hts⟩ (c_X1_isBlank_0 l D cI cS h3 h6) hKK hPc (ci := 1) rfl rfl (cwV 0 hts gX3_number_X1_isBlank rfl rfl rfl (by decide +kernel) ⟨Nat.le_of_ble_eq_true rfl, Nat.le_of_ble_eq_true rfl⟩) rfl hl.1 rfl (Nat.le_of_ble_eq_true rfl) dX3_number_8 ⟨Nat.le_of_ble_eq_true rfl, Nat.le_of_ble_eq_true rfl⟩ (fun r2662 hw => ?_)
  subst hw
  refine lv_if_eq (tgt := 28) hx hb dX3_number_11 (by decide) (fun c2663 => ?_) (fun c2663 => ?_)
  · exact absurd c2663 (by decide)
  · refine lv_aload_n hx hb dX3_number_14 rfl (lv_at hl 0 rfl) ?_
    refine va_new (ci := 1) (fs := [.null, .int 0]) (C := RX1) (T := TX1) (N := 2) hx hb hts hin1 tyX1 tyX1_ok hown (hts (.classLink RX3 9 RX1) (by decide +kernel)) (hts (.instantiable RX1 2) (by decide +kernel)) (hts (.initialized RX1) (by decide +kernel)) hK hP hD hS hA rfl (fun j hj => by rcases (show j = 0 ∨ j = 1 by omega) with rfl | rfl <;> rfl) (Nat.le_of_ble_eq_true rfl) (Nat.le_of_ble_eq_true rfl) dX3_number_15 (fun q2664 H hP hD hS => ?_)
    have hP : va_P D cls [(h0, .inr (3, [.ref h1, .ref h2, .ref h3, .int 0])), (h1, .inr (2, [.ref h4, .int 0, .int 0])), (h3, .inr (1, [.ref h6, .int 1])), (h6, .inl (cI, 0, .inl (fun _ => 0))), (q2664, .inr (1, [.null, .int 0]))] H := hP
    have hD : va_D A [(h0, .inr (3, [.ref h1, .ref h2, .ref h3, .int 0])), (h1, .inr (2, [.ref h4, .int 0, .int 0])), (h3, .inr (1, [.ref h6, .int 1])), (h6, .inl (cI, 0, .inl (fun _ => 0))), (q2664, .inr (1, [.null, .int 0]))] := hD
    refine W.widen (k := 1) (n := 2) (Nat.le_of_ble_eq_true rfl) (Nat.le_of_ble_eq_true rfl) ?_
    refine lv_dup hx hb dX3_number_18 rfl ?_
    refine lv_sipush (v := 24576) hx hb dX3_number_19 (by decide) ?_
    have hPc := hP.sub (ws' := [(q2664, .inr (1, [.null, .int 0]))]) [4] rfl
    have hDc := hD.sub (ws' := [(q2664, .inr (1, [.null, .int 0]))]) [4] (by decide) rfl
    refine lz_qc (wr := [(h0, .inr (3, [.ref h1, .ref h2, .ref h3, .int 0])), (h1, .inr (2, [.ref h4, .int 0, .int 0])), (h3, .inr (1, [.ref h6, .int 1])), (h6, .inl (cI, 0, .inl (fun _ => 0)))]) (w1 := []) (As := [.int 24576]) (rest := [.ref q2664, .ref h0]) ⟨hx, hb, hml, hown, hts⟩ (c_X1_init_0 l D cI cS _ q2664) hKK hP hD hS hA [4] [0, 1, 2, 3] (by decide) rfl rfl (by decide) (by decide) hPc hDc (cwI 1 hts gX3_number_X1_init rfl rfl rfl (hts (.initialized RX1) (by decide +kernel)) (hts (.methodLink RX3 11 yX1_init) (by decide +kernel)) (hts (.instanceMethod yX1_init) (by decide +kernel)) rfl (by decide +kernel) ⟨Nat.le_of_ble_eq_true rfl, Nat.le_of_ble_eq_true rfl⟩) rfl hl.1 rfl (Nat.le_of_ble_eq_true rfl) dX3_number_22 ⟨Nat.le_of_ble_eq_true rfl, Nat.le_of_ble_eq_true rfl⟩ (fun H locs hP hD hS => ?_)
    have hP : va_P D cls [(h0, .inr (3, [.ref h1, .ref h2, .ref h3, .int 0])), (h1, .inr (2, [.ref h4, .int 0, .int 0])), (h3, .inr (1, [.ref h6, .int 1])), (h6, .inl (cI, 0, .inl (fun _ => 0)))] H := hP
    have hD : va_D A [(h0, .inr (3, [.ref h1, .ref h2, .ref h3, .int 0])), (h1, .inr (2, [.ref h4, .int 0, .int 0])), (h3, .inr (1, [.ref h6, .int 1])), (h6, .inl (cI, 0, .inl (fun _ => 0)))] := hD
    refine W.widen (k := 2) (n := 24578) (Nat.le_of_ble_eq_true rfl) (Nat.le_of_ble_eq_true rfl) ?_
    refine va_put (D := D) (ci := 3) (v := .ref q2664) (ty := (.object "MissedPoints$Memo")) (C := RX3) (T := TX3) (N := 4) hx hb hts hin3 tyX3 tyX3_ok nmX3 hown hK hP hD hS 0 rfl rfl 2 (by decide) (hts (.fieldLink RX3 20 "MissedPoints$Pairs" "numbers" "LMissedPoints$Memo;") (by decide +kernel)) (fun _ h9 => h9) rfl (by decide +kernel) rfl rfl (Nat.le_of_ble_eq_true rfl) dX3_number_25 (fun H locs hP hD hS => ?_)
    have hP : va_P D cls [(h0, .inr (3, [.ref h1, .ref h2, .ref q2664, .int 0])), (h1, .inr (2, [.ref h4, .int 0, .int 0])), (h3, .inr (1, [.ref h6, .int 1])), (h6, .inl (cI, 0, .inl (fun _ => 0)))] H := hP
    have hD : va_D A [(h0, .inr (3, [.ref h1, .ref h2, .ref q2664, .int 0])), (h1, .inr (2, [.ref h4, .int 0, .int 0])), (h3, .inr (1, [.ref h6, .int 1])), (h6, .inl (cI, 0, .inl (fun _ => 0)))] := hD
    refine lv_aload_n hx hb dX3_number_28 rfl (lv_at hl 0 rfl) ?_
    refine lv_iload_n hx hb dX3_number_29 rfl (lv_at hl 1 rfl) ?_
    refine lv_iload_n hx hb dX3_number_30 rfl (lv_at hl 2 rfl) ?_
    refine lv_iconst (v := 0) hx hb dX3_number_31 (by decide) ?_
    have hPc := hP.sub (ws' := [(h0, .inr (3, [.ref h1, .ref h2, .ref q2664, .int 0]))]) [0] rfl
    refine lz_sv (As := [.int 0, .int 0, .int 0]) (rest := []) ⟨hx, hb, hml, hown, hts⟩ (c_X3_numberOf_0 l D cI cS h0 h1 h2 q2664) hKK hPc (ci := 3) rfl rfl (cwV 3 hts gX3_number_X3_numberOf rfl rfl rfl (by decide +kernel) ⟨Nat.le_of_ble_eq_true rfl, Nat.le_of_ble_eq_true rfl⟩) rfl hl.1 rfl (Nat.le_of_ble_eq_true rfl) dX3_number_32 ⟨Nat.le_of_ble_eq_true rfl, Nat.le_of_ble_eq_true rfl⟩ (fun r2666 hw => ?_)
    subst hw
    have hP9 := hP.sub (ws' := []) [] rfl
    have hD9 := hD.sub (ws' := []) [] (by decide) rfl
    refine W.widen (k := 2) (n := 24578) (Nat.le_of_ble_eq_true rfl) (Nat.le_of_ble_eq_true rfl) ?_
    subst hAe
    exact W.iret (v := 1) hx hb hr (fun t ht hW => ⟨⟨_, (), rfl, rfl, by rw [ht]; exact hP9, hD9⟩, hS.F ht⟩) hS.2.2 dX3_number_35
set_option maxHeartbeats 4000000 in
set_option maxRecDepth 100000 in
theorem c_X3_numberOf_1 (l : Launch) (D : va_G) (cI cS : ClassId) (h0 h1 h2 h3 : Nat) : Met l yX3_numberOf wsX3_numberOf ({ frames := 1, cells := 0, slots := 0, locals := 40 }) (PS D cI cS [(h0, .inr (3, [.ref h1, .ref h2, .ref h3, .int 0]))] [.ref h0, .int 0, .int 1, .int 0]) (vp_Si (fun r => r = (0 : Int32))) 0 0 (fun _ => False) := by
  refine Met.ofW (cc := cX3_numberOf) (maxL := 11) (ret := (some .int)) (by decide) rfl ?_
  intro p e s m args below meth c s₁ B hml hv
  obtain ⟨rfl, hP, hKK⟩ := hv
  have hx := B.exec
  have hb := B.bytes
  have hr := B.returns
  have hts := atoms_spec (ws := wsX3_numberOf) B.pre
  have hown : s.vm.findClass RX3 = some m.cls := findClass_of_methodNamed B.named
  have hlocks := B.notSynchronized
  have hK := hKK.1
  have hN := hKK.2
  have hl := lv_entry ([.ref h0, .int 0, .int 1, .int 0]) (n := 11) (Nat.le_of_ble_eq_true rfl)
  rw [lg_entry_eq]
  generalize (lg_sl ([.ref h0, .int 0, .int 1, .int 0]) ++ List.replicate (11 - (lg_sl ([.ref h0, .int 0, .int 1, .int 0])).length) Slot.unset).toArray = ls at hl ⊢
  have hl : lv_has ls 11 [(0, .ref h0), (1, .int 0), (2, .int 1), (3, .int 0)] := hl
  refine lv_iload_n hx hb dX3_numberOf_0 rfl (lv_at hl 2 rfl) ?_
  refine lv_if_ne (tgt := 6) hx hb dX3_numberOf_1 (by decide) (fun c2680 => ?_) (fun c2680 => ?_)
  · refine lv_bipush (v := 31) hx hb dX3_numberOf_6 (by decide) ?_
    refine lv_iload_n hx hb dX3_numberOf_8 rfl (lv_at hl 1 rfl) ?_
    have hPc := hP.sub (ws' := []) [] rfl
    refine lz_ss (As := [.int 0]) (rest := [.int 31]) ⟨hx, hb, hml, hown, hts⟩ (c_J6_numberOfLeadingZeros_0f7a4_0 l D cI cS) hKK hPc (va_cwS 1 hts gX3_numberOf_J6_numberOfLeadingZeros_0f7a4 rfl rfl rfl (by decide +kernel) ⟨Nat.le_of_ble_eq_true rfl, Nat.le_of_ble_eq_true rfl⟩) rfl hl.1 rfl (Nat.le_of_ble_eq_true rfl) dX3_numberOf_9 ⟨Nat.le_of_ble_eq_true rfl, Nat.le_of_ble_eq_true rfl⟩ (fun r2681 hw => ?_)
    subst hw
    refine lv_isub hx hb dX3_numberOf_12 ?_
    refine lz_top (y := (-1)) (by decide) ?_
    refine lv_istore (lv' := [(4, .int (-1)), (0, .ref h0), (1, .int 0), (2, .int 1), (3, .int 0)]) hx hb dX3_numberOf_13 hl (by decide) rfl (fun ls hl => ?_)
    refine lv_iload_n hx hb dX3_numberOf_15 rfl (lv_at hl 3 rfl) ?_
    refine lv_if_lt (tgt := 42) hx hb dX3_numberOf_16 (by decide) (fun c2682 => ?_) (fun c2682 => ?_)
    · exact absurd c2682 (by decide)
    · refine lv_iconst (v := 2) hx hb dX3_numberOf_19 (by decide) ?_
      refine lv_iload_n hx hb dX3_numberOf_20 rfl (lv_at hl 3 rfl) ?_
      refine lv_imul hx hb dX3_numberOf_21 ?_
      refine lz_top (y := 2) (by decide) ?_
      refine lv_iload_n hx hb dX3_numberOf_22 rfl (lv_at hl 2 rfl) ?_
      have hPc := hP.sub (ws' := []) [] rfl
      refine lz_ss (As := [.int 0]) (rest := [.int 2]) ⟨hx, hb, hml, hown, hts⟩ (c_J6_bitCount_0f7a4_0 l D cI cS) hKK hPc (va_cwS 1 hts gX3_numberOf_J6_bitCount_0f7a4 rfl rfl rfl (by decide +kernel) ⟨Nat.le_of_ble_eq_true rfl, Nat.le_of_ble_eq_true rfl⟩) rfl hl.1 rfl (Nat.le_of_ble_eq_true rfl) dX3_numberOf_23 ⟨Nat.le_of_ble_eq_true rfl, Nat.le_of_ble_eq_true rfl⟩ (fun r2683 hw => ?_)
      subst hw
      refine lv_icmp_gt (tgt := 42) hx hb dX3_numberOf_26 (by decide) (fun c2684 => ?_) (fun c2684 => ?_)
      · refine lv_iconst (v := 0) hx hb dX3_numberOf_42 (by decide) ?_
        exact W.iret (v := 0) hx hb hr (fun t ht hW => ⟨_, rfl, rfl, ht⟩) (fun q hq => absurd hq List.not_mem_nil) dX3_numberOf_43
      · exact absurd c2684 (by decide)
  · exact absurd c2680 (by decide)
set_option maxHeartbeats 4000000 in
set_option maxRecDepth 100000 in
theorem c_X3_number_1 (l : Launch) (D : va_G) (cI cS : ClassId) (sz : Nat) (h0 h1 h2 h3 h4 h6 : Nat) : Met l yX3_number wsX3_number ({ frames := 2, cells := 2, slots := 24578, locals := 80 }) (PQ D cI cS [(h0, .inr (3, [.ref h1, .ref h2, .ref h3, .int 0])), (h1, .inr (2, [.ref h4, .int 0, .int 0])), (h3, .inr (1, [.ref h6, .int 1])), (h6, .inl (cI, 0, .inl (fun _ => 0)))] sz [.ref h0, .int 0, .int 1]) (QI D [(h0, .inr (3, [.ref h1, .ref h2, .ref h3, .int 0])), (h1, .inr (2, [.ref h4, .int 0, .int 0])), (h3, .inr (1, [.ref h6, .int 1])), (h6, .inl (cI, 0, .inl (fun _ => 0)))] [] sz (fun r => r = (0 : Int32))) 2 24578 (va_A [(h0, .inr (3, [.ref h1, .ref h2, .ref h3, .int 0])), (h1, .inr (2, [.ref h4, .int 0, .int 0])), (h3, .inr (1, [.ref h6, .int 1])), (h6, .inl (cI, 0, .inl (fun _ => 0)))] sz) := by
  refine Met.ofW (cc := cX3_number) (maxL := 3) (ret := (some .int)) (by decide) rfl ?_
  intro p e s m args below meth c s₁ B hml hv
  obtain ⟨rfl, hsz, hP, hKK, hD0⟩ := hv
  have hx := B.exec
  have hb := B.bytes
  have hr := B.returns
  have hts := atoms_spec (ws := wsX3_number) B.pre
  have hown : s.vm.findClass RX3 = some m.cls := findClass_of_methodNamed B.named
  have hlocks := B.notSynchronized
  have hK := hKK.1
  have hN := hKK.2
  have hin1 : ∀ w ∈ wsX10, w ∈ wsX3_number := by decide +kernel
  have hin3 : ∀ w ∈ wsX30, w ∈ wsX3_number := by decide +kernel
  subst hsz
  have hD := hD0.self (sz := s.heap.size)
  obtain ⟨A, hAe⟩ : ∃ A, A = va_A [(h0, .inr (3, [.ref h1, .ref h2, .ref h3, .int 0])), (h1, .inr (2, [.ref h4, .int 0, .int 0])), (h3, .inr (1, [.ref h6, .int 1])), (h6, .inl (cI, 0, .inl (fun _ => 0)))] s.heap.size := ⟨_, rfl⟩
  rw [← hAe] at hD
  have hA : ∀ q : Nat, s.heap.size ≤ q → A q := fun q h => by rw [hAe]; exact Or.inr h
  have hS : va_S A s.heap s.heap [] := va_S.rf
  have hl := lv_entry ([.ref h0, .int 0, .int 1]) (n := 3) (Nat.le_of_ble_eq_true rfl)
  rw [lg_entry_eq]
  generalize (lg_sl ([.ref h0, .int 0, .int 1]) ++ List.replicate (3 - (lg_sl ([.ref h0, .int 0, .int 1])).length) Slot.unset).toArray = ls at hl ⊢
  have hl : lv_has ls 3 [(0, .ref h0), (1, .int 0), (2, .int 1)] := hl
  refine lv_aload_n hx hb dX3_number_0 rfl (lv_at hl 0 rfl) ?_
  have hPc := hP.sub (ws' := [(h0, .inr (3, [.ref h1, .ref h2, .ref h3, .int 0])), (h1, .inr (2, [.ref h4, .int 0, .int 0]))]) [0, 1] rfl
  refine lz_sw (As := []) (rest := []) ⟨hx, hb, hml, hown, hts⟩ (c_X3_notice_0 l D cI cS h0 h1 h2 h3 h4) hKK hPc (ci := 3) rfl rfl (cwV 0 hts gX3_number_X3_notice rfl rfl rfl (by decide +kernel) ⟨Nat.le_of_ble_eq_true rfl, Nat.le_of_ble_eq_true rfl⟩) rfl hl.1 rfl (Nat.le_of_ble_eq_true rfl) dX3_number_1 ⟨Nat.le_of_ble_eq_true rfl, Nat.le_of_ble_eq_true rfl⟩ ?_
  refine lv_aload_n hx hb dX3_number_4 rfl (lv_at hl 0 rfl) ?_
  refine va_get (D := D) (ci := 3) (v := .ref h3) (C := RX3) (T := TX3) (N := 4) hx hb hts hin3 hown hK hP 0 rfl rfl 2 (by decide) (hts (.fieldLink RX3 20 "MissedPoints$Pairs" "numbers" "LMissedPoints$Memo;") (by decide +kernel)) (fun _ h9 => h9) rfl dX3_number_5 ?_
  have hPc := hP.sub (ws' := [(h3, .inr (1, [.ref h6, .int 1])), (h6, .inl (cI, 0, .inl (fun _ => 0)))]) [2, 3] rfl
  refine lz_sv (As := []) (rest := []) ⟨hx, hb, hml, hown, hts⟩ (c_X1_isBlank_0 l D cI cS h3 h6) hKK hPc (ci := 1) rfl rfl (cwV 0 hts gX3_number_X1_isBlank rfl rfl rfl (by decide +kernel) ⟨Nat.le_of_ble_eq_true rfl, Nat.le_of_ble_eq_true rfl⟩) rfl hl.1 rfl (Nat.le_of_ble_eq_true rfl) dX3_number_8 ⟨Nat.le_of_ble_eq_true rfl, Nat.le_of_ble_eq_true rfl⟩ (fun r2687 hw => ?_)
  subst hw
  refine lv_if_eq (tgt := 28) hx hb dX3_number_11 (by decide) (fun c2688 => ?_) (fun c2688 => ?_)
  · exact absurd c2688 (by decide)
  · refine lv_aload_n hx hb dX3_number_14 rfl (lv_at hl 0 rfl) ?_
    refine va_new (ci := 1) (fs := [.null, .int 0]) (C := RX1) (T := TX1) (N := 2) hx hb hts hin1 tyX1 tyX1_ok hown (hts (.classLink RX3 9 RX1) (by decide +kernel)) (hts (.instantiable RX1 2) (by decide +kernel)) (hts (.initialized RX1) (by decide +kernel)) hK hP hD hS hA rfl (fun j hj => by rcases (show j = 0 ∨ j = 1 by omega) with rfl | rfl <;> rfl) (Nat.le_of_ble_eq_true rfl) (Nat.le_of_ble_eq_true rfl) dX3_number_15 (fun q2689 H hP hD hS => ?_)
    have hP : va_P D cls [(h0, .inr (3, [.ref h1, .ref h2, .ref h3, .int 0])), (h1, .inr (2, [.ref h4, .int 0, .int 0])), (h3, .inr (1, [.ref h6, .int 1])), (h6, .inl (cI, 0, .inl (fun _ => 0))), (q2689, .inr (1, [.null, .int 0]))] H := hP
    have hD : va_D A [(h0, .inr (3, [.ref h1, .ref h2, .ref h3, .int 0])), (h1, .inr (2, [.ref h4, .int 0, .int 0])), (h3, .inr (1, [.ref h6, .int 1])), (h6, .inl (cI, 0, .inl (fun _ => 0))), (q2689, .inr (1, [.null, .int 0]))] := hD
    refine W.widen (k := 1) (n := 2) (Nat.le_of_ble_eq_true rfl) (Nat.le_of_ble_eq_true rfl) ?_
    refine lv_dup hx hb dX3_number_18 rfl ?_
    refine lv_sipush (v := 24576) hx hb dX3_number_19 (by decide) ?_
    have hPc := hP.sub (ws' := [(q2689, .inr (1, [.null, .int 0]))]) [4] rfl
    have hDc := hD.sub (ws' := [(q2689, .inr (1, [.null, .int 0]))]) [4] (by decide) rfl
    refine lz_qc (wr := [(h0, .inr (3, [.ref h1, .ref h2, .ref h3, .int 0])), (h1, .inr (2, [.ref h4, .int 0, .int 0])), (h3, .inr (1, [.ref h6, .int 1])), (h6, .inl (cI, 0, .inl (fun _ => 0)))]) (w1 := []) (As := [.int 24576]) (rest := [.ref q2689, .ref h0]) ⟨hx, hb, hml, hown, hts⟩ (c_X1_init_0 l D cI cS _ q2689) hKK hP hD hS hA [4] [0, 1, 2, 3] (by decide) rfl rfl (by decide) (by decide) hPc hDc (cwI 1 hts gX3_number_X1_init rfl rfl rfl (hts (.initialized RX1) (by decide +kernel)) (hts (.methodLink RX3 11 yX1_init) (by decide +kernel)) (hts (.instanceMethod yX1_init) (by decide +kernel)) rfl (by decide +kernel) ⟨Nat.le_of_ble_eq_true rfl, Nat.le_of_ble_eq_true rfl⟩) rfl hl.1 rfl (Nat.le_of_ble_eq_true rfl) dX3_number_22 ⟨Nat.le_of_ble_eq_true rfl, Nat.le_of_ble_eq_true rfl⟩ (fun H locs hP hD hS => ?_)
    have hP : va_P D cls [(h0, .inr (3, [.ref h1, .ref h2, .ref h3, .int 0])), (h1, .inr (2, [.ref h4, .int 0, .int 0])), (h3, .inr (1, [.ref h6, .int 1])), (h6, .inl (cI, 0, .inl (fun _ => 0)))] H := hP
    have hD : va_D A [(h0, .inr (3, [.ref h1, .ref h2, .ref h3, .int 0])), (h1, .inr (2, [.ref h4, .int 0, .int 0])), (h3, .inr (1, [.ref h6, .int 1])), (h6, .inl (cI, 0, .inl (fun _ => 0)))] := hD
    refine W.widen (k := 2) (n := 24578) (Nat.le_of_ble_eq_true rfl) (Nat.le_of_ble_eq_true rfl) ?_
    refine va_put (D := D) (ci := 3) (v := .ref q2689) (ty := (.object "MissedPoints$Memo")) (C := RX3) (T := TX3) (N := 4) hx hb hts hin3 tyX3 tyX3_ok nmX3 hown hK hP hD hS 0 rfl rfl 2 (by decide) (hts (.fieldLink RX3 20 "MissedPoints$Pairs" "numbers" "LMissedPoints$Memo;") (by decide +kernel)) (fun _ h9 => h9) rfl (by decide +kernel) rfl rfl (Nat.le_of_ble_eq_true rfl) dX3_number_25 (fun H locs hP hD hS => ?_)
    have hP : va_P D cls [(h0, .inr (3, [.ref h1, .ref h2, .ref q2689, .int 0])), (h1, .inr (2, [.ref h4, .int 0, .int 0])), (h3, .inr (1, [.ref h6, .int 1])), (h6, .inl (cI, 0, .inl (fun _ => 0)))] H := hP
    have hD : va_D A [(h0, .inr (3, [.ref h1, .ref h2, .ref q2689, .int 0])), (h1, .inr (2, [.ref h4, .int 0, .int 0])), (h3, .inr (1, [.ref h6, .int 1])), (h6, .inl (cI, 0, .inl (fun _ => 0)))] := hD
    refine lv_aload_n hx hb dX3_number_28 rfl (lv_at hl 0 rfl) ?_
    refine lv_iload_n hx hb dX3_number_29 rfl (lv_at hl 1 rfl) ?_
    refine lv_iload_n hx hb dX3_number_30 rfl (lv_at hl 2 rfl) ?_
    refine lv_iconst (v := 0) hx hb dX3_number_31 (by decide) ?_
    have hPc := hP.sub (ws' := [(h0, .inr (3, [.ref h1, .ref h2, .ref q2689, .int 0]))]) [0] rfl
    refine lz_sv (As := [.int 0, .int 1, .int 0]) (rest := []) ⟨hx, hb, hml, hown, hts⟩ (c_X3_numberOf_1 l D cI cS h0 h1 h2 q2689) hKK hPc (ci := 3) rfl rfl (cwV 3 hts gX3_number_X3_numberOf rfl rfl rfl (by decide +kernel) ⟨Nat.le_of_ble_eq_true rfl, Nat.le_of_ble_eq_true rfl⟩) rfl hl.1 rfl (Nat.le_of_ble_eq_true rfl) dX3_number_32 ⟨Nat.le_of_ble_eq_true rfl, Nat.le_of_ble_eq_true rfl⟩ (fun r2691 hw => ?_)
    subst hw
    have hP9 := hP.sub (ws' := []) [] rfl
    have hD9 := hD.sub (ws' := []) [] (by decide) rfl
    refine W.widen (k := 2) (n := 24578) (Nat.le_of_ble_eq_true rfl) (Nat.le_of_ble_eq_true rfl) ?_
    subst hAe
    exact W.iret (v := 0) hx hb hr (fun t ht hW => ⟨⟨_, (), rfl, rfl, by rw [ht]; exact hP9, hD9⟩, hS.F ht⟩) hS.2.2 dX3_number_35
set_option maxHeartbeats 4000000 in
set_option maxRecDepth 100000 in
theorem c_X3_numberOf_2 (l : Launch) (D : va_G) (cI cS : ClassId) (h0 h1 h2 h3 : Nat) : Met l yX3_numberOf wsX3_numberOf ({ frames := 1, cells := 0, slots := 0, locals := 40 }) (PS D cI cS [(h0, .inr (3, [.ref h1, .ref h2, .ref h3, .int 0]))] [.ref h0, .int 0, .int 2, .int 0]) (vp_Si (fun r => r = (0 : Int32))) 0 0 (fun _ => False) := by
  refine Met.ofW (cc := cX3_numberOf) (maxL := 11) (ret := (some .int)) (by decide) rfl ?_
  intro p e s m args below meth c s₁ B hml hv
  obtain ⟨rfl, hP, hKK⟩ := hv
  have hx := B.exec
  have hb := B.bytes
  have hr := B.returns
  have hts := atoms_spec (ws := wsX3_numberOf) B.pre
  have hown : s.vm.findClass RX3 = some m.cls := findClass_of_methodNamed B.named
  have hlocks := B.notSynchronized
  have hK := hKK.1
  have hN := hKK.2
  have hl := lv_entry ([.ref h0, .int 0, .int 2, .int 0]) (n := 11) (Nat.le_of_ble_eq_true rfl)
  rw [lg_entry_eq]
  generalize (lg_sl ([.ref h0, .int 0, .int 2, .int 0]) ++ List.replicate (11 - (lg_sl ([.ref h0, .int 0, .int 2, .int 0])).length) Slot.unset).toArray = ls at hl ⊢
  have hl : lv_has ls 11 [(0, .ref h0), (1, .int 0), (2, .int 2), (3, .int 0)] := hl
  refine lv_iload_n hx hb dX3_numberOf_0 rfl (lv_at hl 2 rfl) ?_
  refine lv_if_ne (tgt := 6) hx hb dX3_numberOf_1 (by decide) (fun c2705 => ?_) (fun c2705 => ?_)
  · refine lv_bipush (v := 31) hx hb dX3_numberOf_6 (by decide) ?_
    refine lv_iload_n hx hb dX3_numberOf_8 rfl (lv_at hl 1 rfl) ?_
    have hPc := hP.sub (ws' := []) [] rfl
    refine lz_ss (As := [.int 0]) (rest := [.int 31]) ⟨hx, hb, hml, hown, hts⟩ (c_J6_numberOfLeadingZeros_0f7a4_0 l D cI cS) hKK hPc (va_cwS 1 hts gX3_numberOf_J6_numberOfLeadingZeros_0f7a4 rfl rfl rfl (by decide +kernel) ⟨Nat.le_of_ble_eq_true rfl, Nat.le_of_ble_eq_true rfl⟩) rfl hl.1 rfl (Nat.le_of_ble_eq_true rfl) dX3_numberOf_9 ⟨Nat.le_of_ble_eq_true rfl, Nat.le_of_ble_eq_true rfl⟩ (fun r2706 hw => ?_)
    subst hw
    refine lv_isub hx hb dX3_numberOf_12 ?_
    refine lz_top (y := (-1)) (by decide) ?_
    refine lv_istore (lv' := [(4, .int (-1)), (0, .ref h0), (1, .int 0), (2, .int 2), (3, .int 0)]) hx hb dX3_numberOf_13 hl (by decide) rfl (fun ls hl => ?_)
    refine lv_iload_n hx hb dX3_numberOf_15 rfl (lv_at hl 3 rfl) ?_
    refine lv_if_lt (tgt := 42) hx hb dX3_numberOf_16 (by decide) (fun c2707 => ?_) (fun c2707 => ?_)
    · exact absurd c2707 (by decide)
    · refine lv_iconst (v := 2) hx hb dX3_numberOf_19 (by decide) ?_
      refine lv_iload_n hx hb dX3_numberOf_20 rfl (lv_at hl 3 rfl) ?_
      refine lv_imul hx hb dX3_numberOf_21 ?_
      refine lz_top (y := 4) (by decide) ?_
      refine lv_iload_n hx hb dX3_numberOf_22 rfl (lv_at hl 2 rfl) ?_
      have hPc := hP.sub (ws' := []) [] rfl
      refine lz_ss (As := [.int 0]) (rest := [.int 4]) ⟨hx, hb, hml, hown, hts⟩ (c_J6_bitCount_0f7a4_0 l D cI cS) hKK hPc (va_cwS 1 hts gX3_numberOf_J6_bitCount_0f7a4 rfl rfl rfl (by decide +kernel) ⟨Nat.le_of_ble_eq_true rfl, Nat.le_of_ble_eq_true rfl⟩) rfl hl.1 rfl (Nat.le_of_ble_eq_true rfl) dX3_numberOf_23 ⟨Nat.le_of_ble_eq_true rfl, Nat.le_of_ble_eq_true rfl⟩ (fun r2708 hw => ?_)
      subst hw
      refine lv_icmp_gt (tgt := 42) hx hb dX3_numberOf_26 (by decide) (fun c2709 => ?_) (fun c2709 => ?_)
      · refine lv_iconst (v := 0) hx hb dX3_numberOf_42 (by decide) ?_
        exact W.iret (v := 0) hx hb hr (fun t ht hW => ⟨_, rfl, rfl, ht⟩) (fun q hq => absurd hq List.not_mem_nil) dX3_numberOf_43
      · exact absurd c2709 (by decide)
  · exact absurd c2705 (by decide)
set_option maxHeartbeats 4000000 in
set_option maxRecDepth 100000 in
theorem c_X3_number_2 (l : Launch) (D : va_G) (cI cS : ClassId) (sz : Nat) (h0 h1 h2 h3 h4 h6 : Nat) : Met l yX3_number wsX3_number ({ frames := 2, cells := 2, slots := 24578, locals := 80 }) (PQ D cI cS [(h0, .inr (3, [.ref h1, .ref h2, .ref h3, .int 0])), (h1, .inr (2, [.ref h4, .int 0, .int 0])), (h3, .inr (1, [.ref h6, .int 1])), (h6, .inl (cI, 0, .inl (fun _ => 0)))] sz [.ref h0, .int 0, .int 2]) (QI D [(h0, .inr (3, [.ref h1, .ref h2, .ref h3, .int 0])), (h1, .inr (2, [.ref h4, .int 0, .int 0])), (h3, .inr (1, [.ref h6, .int 1])), (h6, .inl (cI, 0, .inl (fun _ => 0)))] [] sz (fun r => r = (0 : Int32))) 2 24578 (va_A [(h0, .inr (3, [.ref h1, .ref h2, .ref h3, .int 0])), (h1, .inr (2, [.ref h4, .int 0, .int 0])), (h3, .inr (1, [.ref h6, .int 1])), (h6, .inl (cI, 0, .inl (fun _ => 0)))] sz) := by
  refine Met.ofW (cc := cX3_number) (maxL := 3) (ret := (some .int)) (by decide) rfl ?_
  intro p e s m args below meth c s₁ B hml hv
  obtain ⟨rfl, hsz, hP, hKK, hD0⟩ := hv
  have hx := B.exec
  have hb := B.bytes
  have hr := B.returns
  have hts := atoms_spec (ws := wsX3_number) B.pre
  have hown : s.vm.findClass RX3 = some m.cls := findClass_of_methodNamed B.named
  have hlocks := B.notSynchronized
  have hK := hKK.1
  have hN := hKK.2
  have hin1 : ∀ w ∈ wsX10, w ∈ wsX3_number := by decide +kernel
  have hin3 : ∀ w ∈ wsX30, w ∈ wsX3_number := by decide +kernel
  subst hsz
  have hD := hD0.self (sz := s.heap.size)
  obtain ⟨A, hAe⟩ : ∃ A, A = va_A [(h0, .inr (3, [.ref h1, .ref h2, .ref h3, .int 0])), (h1, .inr (2, [.ref h4, .int 0, .int 0])), (h3, .inr (1, [.ref h6, .int 1])), (h6, .inl (cI, 0, .inl (fun _ => 0)))] s.heap.size := ⟨_, rfl⟩
  rw [← hAe] at hD
  have hA : ∀ q : Nat, s.heap.size ≤ q → A q := fun q h => by rw [hAe]; exact Or.inr h
  have hS : va_S A s.heap s.heap [] := va_S.rf
  have hl := lv_entry ([.ref h0, .int 0, .int 2]) (n := 3) (Nat.le_of_ble_eq_true rfl)
  rw [lg_entry_eq]
  generalize (lg_sl ([.ref h0, .int 0, .int 2]) ++ List.replicate (3 - (lg_sl ([.ref h0, .int 0, .int 2])).length) Slot.unset).toArray = ls at hl ⊢
  have hl : lv_has ls 3 [(0, .ref h0), (1, .int 0), (2, .int 2)] := hl
  refine lv_aload_n hx hb dX3_number_0 rfl (lv_at hl 0 rfl) ?_
  have hPc := hP.sub (ws' := [(h0, .inr (3, [.ref h1, .ref h2, .ref h3, .int 0])), (h1, .inr (2, [.ref h4, .int 0, .int 0]))]) [0, 1] rfl
  refine lz_sw (As := []) (rest := []) ⟨hx, hb, hml, hown, hts⟩ (c_X3_notice_0 l D cI cS h0 h1 h2 h3 h4) hKK hPc (ci := 3) rfl rfl (cwV 0 hts gX3_number_X3_notice rfl rfl rfl (by decide +kernel) ⟨Nat.le_of_ble_eq_true rfl, Nat.le_of_ble_eq_true rfl⟩) rfl hl.1 rfl (Nat.le_of_ble_eq_true rfl) dX3_number_1 ⟨Nat.le_of_ble_eq_true rfl, Nat.le_of_ble_eq_true rfl⟩ ?_
  refine lv_aload_n hx hb dX3_number_4 rfl (lv_at hl 0 rfl) ?_
  refine va_get (D := D) (ci := 3) (v := .ref h3) (C := RX3) (T := TX3) (N := 4) hx hb hts hin3 hown hK hP 0 rfl rfl 2 (by decide) (hts (.fieldLink RX3 20 "MissedPoints$Pairs" "numbers" "LMissedPoints$Memo;") (by decide +kernel)) (fun _ h9 => h9) rfl dX3_number_5 ?_
  have hPc := hP.sub (ws' := [(h3, .inr (1, [.ref h6, .int 1])), (h6, .inl (cI, 0, .inl (fun _ => 0)))]) [2, 3] rfl
  refine lz_sv (As := []) (rest := []) ⟨hx, hb, hml, hown, hts⟩ (c_X1_isBlank_0 l D cI cS h3 h6) hKK hPc (ci := 1) rfl rfl (cwV 0 hts gX3_number_X1_isBlank rfl rfl rfl (by decide +kernel) ⟨Nat.le_of_ble_eq_true rfl, Nat.le_of_ble_eq_true rfl⟩) rfl hl.1 rfl (Nat.le_of_ble_eq_true rfl) dX3_number_8 ⟨Nat.le_of_ble_eq_true rfl, Nat.le_of_ble_eq_true rfl⟩ (fun r2712 hw => ?_)
  subst hw
  refine lv_if_eq (tgt := 28) hx hb dX3_number_11 (by decide) (fun c2713 => ?_) (fun c2713 => ?_)
  · exact absurd c2713 (by decide)
  · refine lv_aload_n hx hb dX3_number_14 rfl (lv_at hl 0 rfl) ?_
    refine va_new (ci := 1) (fs := [.null, .int 0]) (C := RX1) (T := TX1) (N := 2) hx hb hts hin1 tyX1 tyX1_ok hown (hts (.classLink RX3 9 RX1) (by decide +kernel)) (hts (.instantiable RX1 2) (by decide +kernel)) (hts (.initialized RX1) (by decide +kernel)) hK hP hD hS hA rfl (fun j hj => by rcases (show j = 0 ∨ j = 1 by omega) with rfl | rfl <;> rfl) (Nat.le_of_ble_eq_true rfl) (Nat.le_of_ble_eq_true rfl) dX3_number_15 (fun q2714 H hP hD hS => ?_)
    have hP : va_P D cls [(h0, .inr (3, [.ref h1, .ref h2, .ref h3, .int 0])), (h1, .inr (2, [.ref h4, .int 0, .int 0])), (h3, .inr (1, [.ref h6, .int 1])), (h6, .inl (cI, 0, .inl (fun _ => 0))), (q2714, .inr (1, [.null, .int 0]))] H := hP
    have hD : va_D A [(h0, .inr (3, [.ref h1, .ref h2, .ref h3, .int 0])), (h1, .inr (2, [.ref h4, .int 0, .int 0])), (h3, .inr (1, [.ref h6, .int 1])), (h6, .inl (cI, 0, .inl (fun _ => 0))), (q2714, .inr (1, [.null, .int 0]))] := hD
    refine W.widen (k := 1) (n := 2) (Nat.le_of_ble_eq_true rfl) (Nat.le_of_ble_eq_true rfl) ?_
    refine lv_dup hx hb dX3_number_18 rfl ?_
    refine lv_sipush (v := 24576) hx hb dX3_number_19 (by decide) ?_
    have hPc := hP.sub (ws' := [(q2714, .inr (1, [.null, .int 0]))]) [4] rfl
    have hDc := hD.sub (ws' := [(q2714, .inr (1, [.null, .int 0]))]) [4] (by decide) rfl
    refine lz_qc (wr := [(h0, .inr (3, [.ref h1, .ref h2, .ref h3, .int 0])), (h1, .inr (2, [.ref h4, .int 0, .int 0])), (h3, .inr (1, [.ref h6, .int 1])), (h6, .inl (cI, 0, .inl (fun _ => 0)))]) (w1 := []) (As := [.int 24576]) (rest := [.ref q2714, .ref h0]) ⟨hx, hb, hml, hown, hts⟩ (c_X1_init_0 l D cI cS _ q2714) hKK hP hD hS hA [4] [0, 1, 2, 3] (by decide) rfl rfl (by decide) (by decide) hPc hDc (cwI 1 hts gX3_number_X1_init rfl rfl rfl (hts (.initialized RX1) (by decide +kernel)) (hts (.methodLink RX3 11 yX1_init) (by decide +kernel)) (hts (.instanceMethod yX1_init) (by decide +kernel)) rfl (by decide +kernel) ⟨Nat.le_of_ble_eq_true rfl, Nat.le_of_ble_eq_true rfl⟩) rfl hl.1 rfl (Nat.le_of_ble_eq_true rfl) dX3_number_22 ⟨Nat.le_of_ble_eq_true rfl, Nat.le_of_ble_eq_true rfl⟩ (fun H locs hP hD hS => ?_)
    have hP : va_P D cls [(h0, .inr (3, [.ref h1, .ref h2, .ref h3, .int 0])), (h1, .inr (2, [.ref h4, .int 0, .int 0])), (h3, .inr (1, [.ref h6, .int 1])), (h6, .inl (cI, 0, .inl (fun _ => 0)))] H := hP
    have hD : va_D A [(h0, .inr (3, [.ref h1, .ref h2, .ref h3, .int 0])), (h1, .inr (2, [.ref h4, .int 0, .int 0])), (h3, .inr (1, [.ref h6, .int 1])), (h6, .inl (cI, 0, .inl (fun _ => 0)))] := hD
    refine W.widen (k := 2) (n := 24578) (Nat.le_of_ble_eq_true rfl) (Nat.le_of_ble_eq_true rfl) ?_
    refine va_put (D := D) (ci := 3) (v := .ref q2714) (ty := (.object "MissedPoints$Memo")) (C := RX3) (T := TX3) (N := 4) hx hb hts hin3 tyX3 tyX3_ok nmX3 hown hK hP hD hS 0 rfl rfl 2 (by decide) (hts (.fieldLink RX3 20 "MissedPoints$Pairs" "numbers" "LMissedPoints$Memo;") (by decide +kernel)) (fun _ h9 => h9) rfl (by decide +kernel) rfl rfl (Nat.le_of_ble_eq_true rfl) dX3_number_25 (fun H locs hP hD hS => ?_)
    have hP : va_P D cls [(h0, .inr (3, [.ref h1, .ref h2, .ref q2714, .int 0])), (h1, .inr (2, [.ref h4, .int 0, .int 0])), (h3, .inr (1, [.ref h6, .int 1])), (h6, .inl (cI, 0, .inl (fun _ => 0)))] H := hP
    have hD : va_D A [(h0, .inr (3, [.ref h1, .ref h2, .ref q2714, .int 0])), (h1, .inr (2, [.ref h4, .int 0, .int 0])), (h3, .inr (1, [.ref h6, .int 1])), (h6, .inl (cI, 0, .inl (fun _ => 0)))] := hD
    refine lv_aload_n hx hb dX3_number_28 rfl (lv_at hl 0 rfl) ?_
    refine lv_iload_n hx hb dX3_number_29 rfl (lv_at hl 1 rfl) ?_
    refine lv_iload_n hx hb dX3_number_30 rfl (lv_at hl 2 rfl) ?_
    refine lv_iconst (v := 0) hx hb dX3_number_31 (by decide) ?_
    have hPc := hP.sub (ws' := [(h0, .inr (3, [.ref h1, .ref h2, .ref q2714, .int 0]))]) [0] rfl
    refine lz_sv (As := [.int 0, .int 2, .int 0]) (rest := []) ⟨hx, hb, hml, hown, hts⟩ (c_X3_numberOf_2 l D cI cS h0 h1 h2 q2714) hKK hPc (ci := 3) rfl rfl (cwV 3 hts gX3_number_X3_numberOf rfl rfl rfl (by decide +kernel) ⟨Nat.le_of_ble_eq_true rfl, Nat.le_of_ble_eq_true rfl⟩) rfl hl.1 rfl (Nat.le_of_ble_eq_true rfl) dX3_number_32 ⟨Nat.le_of_ble_eq_true rfl, Nat.le_of_ble_eq_true rfl⟩ (fun r2716 hw => ?_)
    subst hw
    have hP9 := hP.sub (ws' := []) [] rfl
    have hD9 := hD.sub (ws' := []) [] (by decide) rfl
    refine W.widen (k := 2) (n := 24578) (Nat.le_of_ble_eq_true rfl) (Nat.le_of_ble_eq_true rfl) ?_
    subst hAe
    exact W.iret (v := 0) hx hb hr (fun t ht hW => ⟨⟨_, (), rfl, rfl, by rw [ht]; exact hP9, hD9⟩, hS.F ht⟩) hS.2.2 dX3_number_35
set_option maxHeartbeats 4000000 in
set_option maxRecDepth 100000 in
theorem c_X3_numberOf_3 (l : Launch) (D : va_G) (cI cS : ClassId) (h0 h1 h2 h3 : Nat) : Met l yX3_numberOf wsX3_numberOf ({ frames := 1, cells := 0, slots := 0, locals := 40 }) (PS D cI cS [(h0, .inr (3, [.ref h1, .ref h2, .ref h3, .int 0]))] [.ref h0, .int 0, .int 3, .int 0]) (vp_Si (fun r => r = (0 : Int32))) 0 0 (fun _ => False) := by
  refine Met.ofW (cc := cX3_numberOf) (maxL := 11) (ret := (some .int)) (by decide) rfl ?_
  intro p e s m args below meth c s₁ B hml hv
  obtain ⟨rfl, hP, hKK⟩ := hv
  have hx := B.exec
  have hb := B.bytes
  have hr := B.returns
  have hts := atoms_spec (ws := wsX3_numberOf) B.pre
  have hown : s.vm.findClass RX3 = some m.cls := findClass_of_methodNamed B.named
  have hlocks := B.notSynchronized
  have hK := hKK.1
  have hN := hKK.2
  have hl := lv_entry ([.ref h0, .int 0, .int 3, .int 0]) (n := 11) (Nat.le_of_ble_eq_true rfl)
  rw [lg_entry_eq]
  generalize (lg_sl ([.ref h0, .int 0, .int 3, .int 0]) ++ List.replicate (11 - (lg_sl ([.ref h0, .int 0, .int 3, .int 0])).length) Slot.unset).toArray = ls at hl ⊢
  have hl : lv_has ls 11 [(0, .ref h0), (1, .int 0), (2, .int 3), (3, .int 0)] := hl
  refine lv_iload_n hx hb dX3_numberOf_0 rfl (lv_at hl 2 rfl) ?_
  refine lv_if_ne (tgt := 6) hx hb dX3_numberOf_1 (by decide) (fun c2730 => ?_) (fun c2730 => ?_)
  · refine lv_bipush (v := 31) hx hb dX3_numberOf_6 (by decide) ?_
    refine lv_iload_n hx hb dX3_numberOf_8 rfl (lv_at hl 1 rfl) ?_
    have hPc := hP.sub (ws' := []) [] rfl
    refine lz_ss (As := [.int 0]) (rest := [.int 31]) ⟨hx, hb, hml, hown, hts⟩ (c_J6_numberOfLeadingZeros_0f7a4_0 l D cI cS) hKK hPc (va_cwS 1 hts gX3_numberOf_J6_numberOfLeadingZeros_0f7a4 rfl rfl rfl (by decide +kernel) ⟨Nat.le_of_ble_eq_true rfl, Nat.le_of_ble_eq_true rfl⟩) rfl hl.1 rfl (Nat.le_of_ble_eq_true rfl) dX3_numberOf_9 ⟨Nat.le_of_ble_eq_true rfl, Nat.le_of_ble_eq_true rfl⟩ (fun r2731 hw => ?_)
    subst hw
    refine lv_isub hx hb dX3_numberOf_12 ?_
    refine lz_top (y := (-1)) (by decide) ?_
    refine lv_istore (lv' := [(4, .int (-1)), (0, .ref h0), (1, .int 0), (2, .int 3), (3, .int 0)]) hx hb dX3_numberOf_13 hl (by decide) rfl (fun ls hl => ?_)
    refine lv_iload_n hx hb dX3_numberOf_15 rfl (lv_at hl 3 rfl) ?_
    refine lv_if_lt (tgt := 42) hx hb dX3_numberOf_16 (by decide) (fun c2732 => ?_) (fun c2732 => ?_)
    · exact absurd c2732 (by decide)
    · refine lv_iconst (v := 2) hx hb dX3_numberOf_19 (by decide) ?_
      refine lv_iload_n hx hb dX3_numberOf_20 rfl (lv_at hl 3 rfl) ?_
      refine lv_imul hx hb dX3_numberOf_21 ?_
      refine lz_top (y := 6) (by decide) ?_
      refine lv_iload_n hx hb dX3_numberOf_22 rfl (lv_at hl 2 rfl) ?_
      have hPc := hP.sub (ws' := []) [] rfl
      refine lz_ss (As := [.int 0]) (rest := [.int 6]) ⟨hx, hb, hml, hown, hts⟩ (c_J6_bitCount_0f7a4_0 l D cI cS) hKK hPc (va_cwS 1 hts gX3_numberOf_J6_bitCount_0f7a4 rfl rfl rfl (by decide +kernel) ⟨Nat.le_of_ble_eq_true rfl, Nat.le_of_ble_eq_true rfl⟩) rfl hl.1 rfl (Nat.le_of_ble_eq_true rfl) dX3_numberOf_23 ⟨Nat.le_of_ble_eq_true rfl, Nat.le_of_ble_eq_true rfl⟩ (fun r2733 hw => ?_)
      subst hw
      refine lv_icmp_gt (tgt := 42) hx hb dX3_numberOf_26 (by decide) (fun c2734 => ?_) (fun c2734 => ?_)
      · refine lv_iconst (v := 0) hx hb dX3_numberOf_42 (by decide) ?_
        exact W.iret (v := 0) hx hb hr (fun t ht hW => ⟨_, rfl, rfl, ht⟩) (fun q hq => absurd hq List.not_mem_nil) dX3_numberOf_43
      · exact absurd c2734 (by decide)
  · exact absurd c2730 (by decide)
