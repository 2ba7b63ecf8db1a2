set_option maxRecDepth 20000 in
theorem ggX12_feed_X12_in : GoodIn wsX12_feed wsX12_in := goodIn_r _ [6] (by decide +kernel) (by decide +kernel)
set_option maxRecDepth 20000 in
theorem gX12_feed_X12_in : GoodIn wsX12_feed (va_wsS RX12 66 yX12_in wsX12_in) := goodIn_app (goodIn_of _ (by decide +kernel)) ggX12_feed_X12_in
theorem dX12_feed_0 : decode cX12_feed 0 = .ok (.iload_n 2, 1) := by decide +kernel
theorem dX12_feed_1 : decode cX12_feed 1 = .ok (.iconst 1, 1) := by decide +kernel
theorem dX12_feed_11 : decode cX12_feed 11 = .ok (.ireturn, 1) := by decide +kernel
theorem dX12_feed_12 : decode cX12_feed 12 = .ok (.aload_n 0, 1) := by decide +kernel
theorem dX12_feed_13 : decode cX12_feed 13 = .ok (.getfield 101, 3) := by decide +kernel
theorem dX12_feed_16 : decode cX12_feed 16 = .ok (.iload_n 2, 1) := by decide +kernel
theorem dX12_feed_17 : decode cX12_feed 17 = .ok (.iadd, 1) := by decide +kernel
theorem dX12_feed_18 : decode cX12_feed 18 = .ok (.bipush 120, 2) := by decide +kernel
theorem dX12_feed_2 : decode cX12_feed 2 = .ok (.iconst 4, 1) := by decide +kernel
theorem dX12_feed_20 : decode cX12_feed 20 = .ok (.if_icmp .le 6, 3) := by decide +kernel
theorem dX12_feed_26 : decode cX12_feed 26 = .ok (.iload_n 2, 1) := by decide +kernel
theorem dX12_feed_27 : decode cX12_feed 27 = .ok (.iconst 1, 1) := by decide +kernel
theorem dX12_feed_28 : decode cX12_feed 28 = .ok (.isub, 1) := by decide +kernel
theorem dX12_feed_29 : decode cX12_feed 29 = .ok (.istore_n 3, 1) := by decide +kernel
theorem dX12_feed_3 : decode cX12_feed 3 = .ok (.invokestatic 66, 3) := by decide +kernel
theorem dX12_feed_30 : decode cX12_feed 30 = .ok (.iload_n 3, 1) := by decide +kernel
theorem dX12_feed_31 : decode cX12_feed 31 = .ok (.ifCond .lt 38, 3) := by decide +kernel
theorem dX12_feed_34 : decode cX12_feed 34 = .ok (.aload_n 0, 1) := by decide +kernel
theorem dX12_feed_35 : decode cX12_feed 35 = .ok (.getfield 35, 3) := by decide +kernel
theorem dX12_feed_38 : decode cX12_feed 38 = .ok (.aload_n 0, 1) := by decide +kernel
theorem dX12_feed_39 : decode cX12_feed 39 = .ok (.getfield 101, 3) := by decide +kernel
theorem dX12_feed_42 : decode cX12_feed 42 = .ok (.iload_n 1, 1) := by decide +kernel
theorem dX12_feed_43 : decode cX12_feed 43 = .ok (.bipush 8, 2) := by decide +kernel
theorem dX12_feed_45 : decode cX12_feed 45 = .ok (.iload_n 3, 1) := by decide +kernel
theorem dX12_feed_46 : decode cX12_feed 46 = .ok (.imul, 1) := by decide +kernel
theorem dX12_feed_47 : decode cX12_feed 47 = .ok (.ishr, 1) := by decide +kernel
theorem dX12_feed_48 : decode cX12_feed 48 = .ok (.sipush 255, 3) := by decide +kernel
theorem dX12_feed_51 : decode cX12_feed 51 = .ok (.iand, 1) := by decide +kernel
theorem dX12_feed_52 : decode cX12_feed 52 = .ok (.iastore, 1) := by decide +kernel
theorem dX12_feed_53 : decode cX12_feed 53 = .ok (.aload_n 0, 1) := by decide +kernel
theorem dX12_feed_54 : decode cX12_feed 54 = .ok (.dup, 1) := by decide +kernel
theorem dX12_feed_55 : decode cX12_feed 55 = .ok (.getfield 101, 3) := by decide +kernel
theorem dX12_feed_58 : decode cX12_feed 58 = .ok (.iconst 1, 1) := by decide +kernel
theorem dX12_feed_59 : decode cX12_feed 59 = .ok (.iadd, 1) := by decide +kernel
theorem dX12_feed_6 : decode cX12_feed 6 = .ok (.ifCond .ne 6, 3) := by decide +kernel
theorem dX12_feed_60 : decode cX12_feed 60 = .ok (.putfield 101, 3) := by decide +kernel
theorem dX12_feed_63 : decode cX12_feed 63 = .ok (.iinc 3 (-1), 3) := by decide +kernel
theorem dX12_feed_66 : decode cX12_feed 66 = .ok (.goto (-36), 3) := by decide +kernel
theorem dX12_feed_69 : decode cX12_feed 69 = .ok (.aload_n 0, 1) := by decide +kernel
theorem dX12_feed_70 : decode cX12_feed 70 = .ok (.getfield 101, 3) := by decide +kernel
theorem dX12_feed_73 : decode cX12_feed 73 = .ok (.ireturn, 1) := by decide +kernel
theorem dX12_feed_9 : decode cX12_feed 9 = .ok (.bipush (-2), 2) := by decide +kernel
theorem dX12_wipe_0 : decode cX12_wipe 0 = .ok (.aload_n 0, 1) := by decide +kernel
theorem dX12_wipe_1 : decode cX12_wipe 1 = .ok (.getfield 101, 3) := by decide +kernel
theorem dX12_wipe_10 : decode cX12_wipe 10 = .ok (.iload_n 1, 1) := by decide +kernel
theorem dX12_wipe_11 : decode cX12_wipe 11 = .ok (.ireturn, 1) := by decide +kernel
theorem dX12_wipe_4 : decode cX12_wipe 4 = .ok (.istore_n 1, 1) := by decide +kernel
theorem dX12_wipe_5 : decode cX12_wipe 5 = .ok (.aload_n 0, 1) := by decide +kernel
theorem dX12_wipe_6 : decode cX12_wipe 6 = .ok (.iconst 0, 1) := by decide +kernel
theorem dX12_wipe_7 : decode cX12_wipe 7 = .ok (.putfield 101, 3) := by decide +kernel
theorem dX12_keeps_0 : decode cX12_keeps 0 = .ok (.iload_n 1, 1) := by decide +kernel
theorem dX12_keeps_1 : decode cX12_keeps 1 = .ok (.bipush 14, 2) := by decide +kernel
theorem dX12_keeps_10 : decode cX12_keeps 10 = .ok (.aload_n 0, 1) := by decide +kernel
theorem dX12_keeps_11 : decode cX12_keeps 11 = .ok (.getfield 63, 3) := by decide +kernel
theorem dX12_keeps_14 : decode cX12_keeps 14 = .ok (.iastore, 1) := by decide +kernel
theorem dX12_keeps_15 : decode cX12_keeps 15 = .ok (.aload_n 0, 1) := by decide +kernel
theorem dX12_keeps_16 : decode cX12_keeps 16 = .ok (.getfield 56, 3) := by decide +kernel
theorem dX12_keeps_19 : decode cX12_keeps 19 = .ok (.iload_n 2, 1) := by decide +kernel
theorem dX12_keeps_20 : decode cX12_keeps 20 = .ok (.iconst 1, 1) := by decide +kernel
theorem dX12_keeps_21 : decode cX12_keeps 21 = .ok (.iadd, 1) := by decide +kernel
theorem dX12_keeps_22 : decode cX12_keeps 22 = .ok (.aload_n 0, 1) := by decide +kernel
theorem dX12_keeps_23 : decode cX12_keeps 23 = .ok (.getfield 7, 3) := by decide +kernel
theorem dX12_keeps_26 : decode cX12_keeps 26 = .ok (.iastore, 1) := by decide +kernel
theorem dX12_keeps_27 : decode cX12_keeps 27 = .ok (.iconst 0, 1) := by decide +kernel
theorem dX12_keeps_28 : decode cX12_keeps 28 = .ok (.istore_n 3, 1) := by decide +kernel
theorem dX12_keeps_29 : decode cX12_keeps 29 = .ok (.iload_n 3, 1) := by decide +kernel
theorem dX12_keeps_3 : decode cX12_keeps 3 = .ok (.imul, 1) := by decide +kernel
theorem dX12_keeps_30 : decode cX12_keeps 30 = .ok (.bipush 12, 2) := by decide +kernel
theorem dX12_keeps_32 : decode cX12_keeps 32 = .ok (.if_icmp .ge 25, 3) := by decide +kernel
theorem dX12_keeps_35 : decode cX12_keeps 35 = .ok (.aload_n 0, 1) := by decide +kernel
theorem dX12_keeps_36 : decode cX12_keeps 36 = .ok (.getfield 56, 3) := by decide +kernel
theorem dX12_keeps_39 : decode cX12_keeps 39 = .ok (.iload_n 2, 1) := by decide +kernel
theorem dX12_keeps_4 : decode cX12_keeps 4 = .ok (.istore_n 2, 1) := by decide +kernel
theorem dX12_keeps_40 : decode cX12_keeps 40 = .ok (.iconst 2, 1) := by decide +kernel
theorem dX12_keeps_41 : decode cX12_keeps 41 = .ok (.iadd, 1) := by decide +kernel
theorem dX12_keeps_42 : decode cX12_keeps 42 = .ok (.iload_n 3, 1) := by decide +kernel
theorem dX12_keeps_43 : decode cX12_keeps 43 = .ok (.iadd, 1) := by decide +kernel
theorem dX12_keeps_44 : decode cX12_keeps 44 = .ok (.aload_n 0, 1) := by decide +kernel
theorem dX12_keeps_45 : decode cX12_keeps 45 = .ok (.getfield 13, 3) := by decide +kernel
theorem dX12_keeps_48 : decode cX12_keeps 48 = .ok (.iload_n 3, 1) := by decide +kernel
theorem dX12_keeps_49 : decode cX12_keeps 49 = .ok (.iaload, 1) := by decide +kernel
theorem dX12_keeps_5 : decode cX12_keeps 5 = .ok (.aload_n 0, 1) := by decide +kernel
theorem dX12_keeps_50 : decode cX12_keeps 50 = .ok (.iastore, 1) := by decide +kernel
theorem dX12_keeps_51 : decode cX12_keeps 51 = .ok (.iinc 3 1, 3) := by decide +kernel
theorem dX12_keeps_54 : decode cX12_keeps 54 = .ok (.goto (-25), 3) := by decide +kernel
theorem dX12_keeps_57 : decode cX12_keeps 57 = .ok (.return_, 1) := by decide +kernel
theorem dX12_keeps_6 : decode cX12_keeps 6 = .ok (.getfield 56, 3) := by decide +kernel
theorem dX12_keeps_9 : decode cX12_keeps 9 = .ok (.iload_n 2, 1) := by decide +kernel
theorem dX12_isAt_0 : decode cX12_isAt 0 = .ok (.aload_n 0, 1) := by decide +kernel
theorem dX12_isAt_1 : decode cX12_isAt 1 = .ok (.getfield 169, 3) := by decide +kernel
theorem dX12_isAt_32 : decode cX12_isAt 32 = .ok (.iconst 0, 1) := by decide +kernel
theorem dX12_isAt_33 : decode cX12_isAt 33 = .ok (.ireturn, 1) := by decide +kernel
theorem dX12_isAt_4 : decode cX12_isAt 4 = .ok (.aload_n 0, 1) := by decide +kernel
theorem dX12_isAt_5 : decode cX12_isAt 5 = .ok (.getfield 101, 3) := by decide +kernel
theorem dX12_isAt_8 : decode cX12_isAt 8 = .ok (.if_icmp .ge 24, 3) := by decide +kernel
set_option maxRecDepth 20000 in
theorem ggX12_goesOn_X12_isAt : GoodIn wsX12_goesOn wsX12_isAt := goodIn_r _ [11, 1, 4, 6, 12, 13, 10, 14, 15, 16, 17, 18, 19, 20, 21, 22, 23, 24, 25, 26, 27, 28, 29, 30, 31, 32, 33, 34, 35, 36, 37, 38] (by decide +kernel) (by decide +kernel)
set_option maxRecDepth 20000 in
theorem gX12_goesOn_X12_isAt : GoodIn wsX12_goesOn (wsV RX12 172 RX12 yX12_isAt wsX12_isAt) := goodIn_app (goodIn_of _ (by decide +kernel)) ggX12_goesOn_X12_isAt
theorem dX12_goesOn_0 : decode cX12_goesOn 0 = .ok (.aload_n 0, 1) := by decide +kernel
theorem dX12_goesOn_1 : decode cX12_goesOn 1 = .ok (.bipush 32, 2) := by decide +kernel
theorem dX12_goesOn_176 : decode cX12_goesOn 176 = .ok (.return_, 1) := by decide +kernel
theorem dX12_goesOn_24 : decode cX12_goesOn 24 = .ok (.aload_n 0, 1) := by decide +kernel
theorem dX12_goesOn_25 : decode cX12_goesOn 25 = .ok (.aload_n 0, 1) := by decide +kernel
theorem dX12_goesOn_26 : decode cX12_goesOn 26 = .ok (.getfield 169, 3) := by decide +kernel
theorem dX12_goesOn_29 : decode cX12_goesOn 29 = .ok (.putfield 175, 3) := by decide +kernel
theorem dX12_goesOn_3 : decode cX12_goesOn 3 = .ok (.bipush 32, 2) := by decide +kernel
theorem dX12_goesOn_32 : decode cX12_goesOn 32 = .ok (.aload_n 0, 1) := by decide +kernel
theorem dX12_goesOn_33 : decode cX12_goesOn 33 = .ok (.iconst 0, 1) := by decide +kernel
theorem dX12_goesOn_34 : decode cX12_goesOn 34 = .ok (.putfield 178, 3) := by decide +kernel
theorem dX12_goesOn_37 : decode cX12_goesOn 37 = .ok (.aload_n 0, 1) := by decide +kernel
theorem dX12_goesOn_38 : decode cX12_goesOn 38 = .ok (.getfield 169, 3) := by decide +kernel
theorem dX12_goesOn_41 : decode cX12_goesOn 41 = .ok (.aload_n 0, 1) := by decide +kernel
theorem dX12_goesOn_42 : decode cX12_goesOn 42 = .ok (.getfield 101, 3) := by decide +kernel
theorem dX12_goesOn_45 : decode cX12_goesOn 45 = .ok (.if_icmp .ne 11, 3) := by decide +kernel
theorem dX12_goesOn_48 : decode cX12_goesOn 48 = .ok (.aload_n 0, 1) := by decide +kernel
theorem dX12_goesOn_49 : decode cX12_goesOn 49 = .ok (.iconst 0, 1) := by decide +kernel
theorem dX12_goesOn_5 : decode cX12_goesOn 5 = .ok (.invokevirtual 172, 3) := by decide +kernel
theorem dX12_goesOn_50 : decode cX12_goesOn 50 = .ok (.putfield 181, 3) := by decide +kernel
theorem dX12_goesOn_53 : decode cX12_goesOn 53 = .ok (.goto 123, 3) := by decide +kernel
theorem dX12_goesOn_8 : decode cX12_goesOn 8 = .ok (.ifCond .eq 16, 3) := by decide +kernel
theorem dX12_pointRead_0 : decode cX12_pointRead 0 = .ok (.aload_n 0, 1) := by decide +kernel
theorem dX12_pointRead_1 : decode cX12_pointRead 1 = .ok (.getfield 181, 3) := by decide +kernel
theorem dX12_pointRead_30 : decode cX12_pointRead 30 = .ok (.iconst (-1), 1) := by decide +kernel
theorem dX12_pointRead_31 : decode cX12_pointRead 31 = .ok (.ireturn, 1) := by decide +kernel
theorem dX12_pointRead_4 : decode cX12_pointRead 4 = .ok (.iconst 1, 1) := by decide +kernel
theorem dX12_pointRead_5 : decode cX12_pointRead 5 = .ok (.if_icmp .ne 25, 3) := by decide +kernel
set_option maxRecDepth 20000 in
theorem ggX12_rowRead_X12_pointRead : GoodIn wsX12_rowRead wsX12_pointRead := goodIn_r _ [6, 1, 7, 8, 9, 10, 5, 11, 12, 13, 14, 15, 16, 17, 18, 19, 20, 21, 22, 23, 24, 25, 26, 27, 28, 29, 30, 41, 42, 43, 44, 45, 46, 47, 48, 49, 50, 51, 52, 53, 54, 55, 56, 57, 58, 59, 60, 61, 62, 63, 64] (by decide +kernel) (by decide +kernel)
set_option maxRecDepth 20000 in
theorem gX12_rowRead_X12_pointRead : GoodIn wsX12_rowRead (wsV RX12 190 RX12 yX12_pointRead wsX12_pointRead) := goodIn_app (goodIn_of _ (by decide +kernel)) ggX12_rowRead_X12_pointRead
theorem dX12_rowRead_0 : decode cX12_rowRead 0 = .ok (.aload_n 0, 1) := by decide +kernel
theorem dX12_rowRead_1 : decode cX12_rowRead 1 = .ok (.iconst 0, 1) := by decide +kernel
theorem dX12_rowRead_11 : decode cX12_rowRead 11 = .ok (.iconst 0, 1) := by decide +kernel
theorem dX12_rowRead_12 : decode cX12_rowRead 12 = .ok (.ireturn, 1) := by decide +kernel
theorem dX12_rowRead_2 : decode cX12_rowRead 2 = .ok (.invokevirtual 190, 3) := by decide +kernel
theorem dX12_rowRead_5 : decode cX12_rowRead 5 = .ok (.istore_n 1, 1) := by decide +kernel
theorem dX12_rowRead_6 : decode cX12_rowRead 6 = .ok (.iload_n 1, 1) := by decide +kernel
theorem dX12_rowRead_7 : decode cX12_rowRead 7 = .ok (.iconst (-1), 1) := by decide +kernel
theorem dX12_rowRead_8 : decode cX12_rowRead 8 = .ok (.if_icmp .ne 5, 3) := by decide +kernel
set_option maxRecDepth 20000 in
theorem ggX12_isText_X12_goesOn : GoodIn wsX12_isText wsX12_goesOn := goodIn_r _ [7, 1, 8, 9, 10, 2, 11, 12, 13, 14, 6, 15, 16, 17, 18, 52, 53, 54, 55, 56, 57, 58, 59, 60, 61, 62, 63, 64, 65, 66, 67, 68, 69, 70, 71, 72, 73, 74, 75] (by decide +kernel) (by decide +kernel)
set_option maxRecDepth 20000 in
theorem gX12_isText_X12_goesOn : GoodIn wsX12_isText (wsV RX12 187 RX12 yX12_goesOn wsX12_goesOn) := goodIn_app (goodIn_of _ (by decide +kernel)) ggX12_isText_X12_goesOn
set_option maxRecDepth 20000 in
theorem ggX12_isText_X12_rowRead : GoodIn wsX12_isText wsX12_rowRead := goodIn_r _ [51, 2, 27, 28, 29, 6, 30, 9, 31, 32, 33, 34, 23, 16, 17, 18, 35, 36, 37, 3, 4, 5, 7, 1, 8, 10, 11, 12, 13, 14, 15, 38, 39, 40, 41, 42, 43, 44, 45, 46, 47, 52, 53, 54, 55, 56, 57, 58, 59, 60, 61, 62, 63, 64, 65, 66, 67, 68, 69, 70, 71, 72, 73, 74, 75] (by decide +kernel) (by decide +kernel)
set_option maxRecDepth 20000 in
theorem gX12_isText_X12_rowRead : GoodIn wsX12_isText (wsV RX12 201 RX12 yX12_rowRead wsX12_rowRead) := goodIn_app (goodIn_of _ (by decide +kernel)) ggX12_isText_X12_rowRead
theorem dX12_isText_0 : decode cX12_isText 0 = .ok (.aload_n 0, 1) := by decide +kernel
theorem dX12_isText_1 : decode cX12_isText 1 = .ok (.iconst 0, 1) := by decide +kernel
theorem dX12_isText_10 : decode cX12_isText 10 = .ok (.getfield 181, 3) := by decide +kernel
theorem dX12_isText_13 : decode cX12_isText 13 = .ok (.bipush 40, 2) := by decide +kernel
theorem dX12_isText_15 : decode cX12_isText 15 = .ok (.if_icmp .ne 14, 3) := by decide +kernel
theorem dX12_isText_2 : decode cX12_isText 2 = .ok (.putfield 169, 3) := by decide +kernel
theorem dX12_isText_29 : decode cX12_isText 29 = .ok (.aload_n 0, 1) := by decide +kernel
theorem dX12_isText_30 : decode cX12_isText 30 = .ok (.getfield 181, 3) := by decide +kernel
theorem dX12_isText_33 : decode cX12_isText 33 = .ok (.bipush 91, 2) := by decide +kernel
theorem dX12_isText_35 : decode cX12_isText 35 = .ok (.if_icmp .ne 14, 3) := by decide +kernel
theorem dX12_isText_49 : decode cX12_isText 49 = .ok (.aload_n 0, 1) := by decide +kernel
theorem dX12_isText_5 : decode cX12_isText 5 = .ok (.aload_n 0, 1) := by decide +kernel
theorem dX12_isText_50 : decode cX12_isText 50 = .ok (.invokevirtual 201, 3) := by decide +kernel
theorem dX12_isText_53 : decode cX12_isText 53 = .ok (.ifCond .ne 5, 3) := by decide +kernel
theorem dX12_isText_56 : decode cX12_isText 56 = .ok (.iconst 0, 1) := by decide +kernel
theorem dX12_isText_57 : decode cX12_isText 57 = .ok (.ireturn, 1) := by decide +kernel
theorem dX12_isText_6 : decode cX12_isText 6 = .ok (.invokevirtual 187, 3) := by decide +kernel
theorem dX12_isText_9 : decode cX12_isText 9 = .ok (.aload_n 0, 1) := by decide +kernel
theorem dX12_putsBack_0 : decode cX12_putsBack 0 = .ok (.iload_n 1, 1) := by decide +kernel
theorem dX12_putsBack_1 : decode cX12_putsBack 1 = .ok (.bipush 14, 2) := by decide +kernel
theorem dX12_putsBack_10 : decode cX12_putsBack 10 = .ok (.iload_n 2, 1) := by decide +kernel
theorem dX12_putsBack_11 : decode cX12_putsBack 11 = .ok (.iaload, 1) := by decide +kernel
theorem dX12_putsBack_12 : decode cX12_putsBack 12 = .ok (.putfield 63, 3) := by decide +kernel
theorem dX12_putsBack_15 : decode cX12_putsBack 15 = .ok (.aload_n 0, 1) := by decide +kernel
theorem dX12_putsBack_16 : decode cX12_putsBack 16 = .ok (.aload_n 0, 1) := by decide +kernel
theorem dX12_putsBack_17 : decode cX12_putsBack 17 = .ok (.getfield 56, 3) := by decide +kernel
theorem dX12_putsBack_20 : decode cX12_putsBack 20 = .ok (.iload_n 2, 1) := by decide +kernel
theorem dX12_putsBack_21 : decode cX12_putsBack 21 = .ok (.iconst 1, 1) := by decide +kernel
theorem dX12_putsBack_22 : decode cX12_putsBack 22 = .ok (.iadd, 1) := by decide +kernel
theorem dX12_putsBack_23 : decode cX12_putsBack 23 = .ok (.iaload, 1) := by decide +kernel
theorem dX12_putsBack_24 : decode cX12_putsBack 24 = .ok (.putfield 7, 3) := by decide +kernel
theorem dX12_putsBack_27 : decode cX12_putsBack 27 = .ok (.iconst 0, 1) := by decide +kernel
theorem dX12_putsBack_28 : decode cX12_putsBack 28 = .ok (.istore_n 3, 1) := by decide +kernel
theorem dX12_putsBack_29 : decode cX12_putsBack 29 = .ok (.iload_n 3, 1) := by decide +kernel
theorem dX12_putsBack_3 : decode cX12_putsBack 3 = .ok (.imul, 1) := by decide +kernel
theorem dX12_putsBack_30 : decode cX12_putsBack 30 = .ok (.bipush 12, 2) := by decide +kernel
theorem dX12_putsBack_32 : decode cX12_putsBack 32 = .ok (.if_icmp .ge 25, 3) := by decide +kernel
theorem dX12_putsBack_35 : decode cX12_putsBack 35 = .ok (.aload_n 0, 1) := by decide +kernel
theorem dX12_putsBack_36 : decode cX12_putsBack 36 = .ok (.getfield 13, 3) := by decide +kernel
theorem dX12_putsBack_39 : decode cX12_putsBack 39 = .ok (.iload_n 3, 1) := by decide +kernel
theorem dX12_putsBack_4 : decode cX12_putsBack 4 = .ok (.istore_n 2, 1) := by decide +kernel
theorem dX12_putsBack_40 : decode cX12_putsBack 40 = .ok (.aload_n 0, 1) := by decide +kernel
theorem dX12_putsBack_41 : decode cX12_putsBack 41 = .ok (.getfield 56, 3) := by decide +kernel
theorem dX12_putsBack_44 : decode cX12_putsBack 44 = .ok (.iload_n 2, 1) := by decide +kernel
theorem dX12_putsBack_45 : decode cX12_putsBack 45 = .ok (.iconst 2, 1) := by decide +kernel
theorem dX12_putsBack_46 : decode cX12_putsBack 46 = .ok (.iadd, 1) := by decide +kernel
theorem dX12_putsBack_47 : decode cX12_putsBack 47 = .ok (.iload_n 3, 1) := by decide +kernel
theorem dX12_putsBack_48 : decode cX12_putsBack 48 = .ok (.iadd, 1) := by decide +kernel
theorem dX12_putsBack_49 : decode cX12_putsBack 49 = .ok (.iaload, 1) := by decide +kernel
theorem dX12_putsBack_5 : decode cX12_putsBack 5 = .ok (.aload_n 0, 1) := by decide +kernel
theorem dX12_putsBack_50 : decode cX12_putsBack 50 = .ok (.iastore, 1) := by decide +kernel
theorem dX12_putsBack_51 : decode cX12_putsBack 51 = .ok (.iinc 3 1, 3) := by decide +kernel
theorem dX12_putsBack_54 : decode cX12_putsBack 54 = .ok (.goto (-25), 3) := by decide +kernel
theorem dX12_putsBack_57 : decode cX12_putsBack 57 = .ok (.return_, 1) := by decide +kernel
theorem dX12_putsBack_6 : decode cX12_putsBack 6 = .ok (.aload_n 0, 1) := by decide +kernel
theorem dX12_putsBack_7 : decode cX12_putsBack 7 = .ok (.getfield 56, 3) := by decide +kernel
set_option maxRecDepth 20000 in
theorem ggX12_text_X12_isText : GoodIn wsX12_text wsX12_isText := goodIn_r _ [16, 17, 18, 19, 20, 21, 7, 22, 3, 23, 2, 24, 25, 26, 27, 28, 29, 30, 31, 32, 33, 34, 35, 10, 36, 37, 38, 39, 40, 41, 42, 43, 44, 45, 46, 47, 48, 49, 50, 51, 52, 53, 1, 12, 54, 55, 56, 57, 58, 59, 60, 61, 66, 67, 68, 69, 70, 71, 72, 73, 74, 75, 76, 77, 78, 79, 80, 81, 82, 83, 84, 85, 86, 87, 88, 89] (by decide +kernel) (by decide +kernel)
set_option maxRecDepth 20000 in
theorem gX12_text_X12_isText : GoodIn wsX12_text (wsV RX12 209 RX12 yX12_isText wsX12_isText) := goodIn_app (goodIn_of _ (by decide +kernel)) ggX12_text_X12_isText
set_option maxRecDepth 20000 in
theorem ggX12_text_X12_keeps : GoodIn wsX12_text wsX12_keeps := goodIn_r _ [8, 9, 10, 11, 12, 66, 67, 68, 69, 70, 71, 72, 73, 74, 75, 76, 77, 78, 79, 80, 81, 82, 83, 84, 85, 86, 87, 88, 89] (by decide +kernel) (by decide +kernel)
set_option maxRecDepth 20000 in
theorem gX12_text_X12_keeps : GoodIn wsX12_text (wsV RX12 205 RX12 yX12_keeps wsX12_keeps) := goodIn_app (goodIn_of _ (by decide +kernel)) ggX12_text_X12_keeps
set_option maxRecDepth 20000 in
theorem ggX12_text_X12_putsBack : GoodIn wsX12_text wsX12_putsBack := goodIn_r _ [65, 9, 10, 11, 12, 66, 67, 68, 69, 70, 71, 72, 73, 74, 75, 76, 77, 78, 79, 80, 81, 82, 83, 84, 85, 86, 87, 88, 89] (by decide +kernel) (by decide +kernel)
set_option maxRecDepth 20000 in
theorem gX12_text_X12_putsBack : GoodIn wsX12_text (wsV RX12 212 RX12 yX12_putsBack wsX12_putsBack) := goodIn_app (goodIn_of _ (by decide +kernel)) ggX12_text_X12_putsBack
theorem dX12_text_0 : decode cX12_text 0 = .ok (.aload_n 0, 1) := by decide +kernel
theorem dX12_text_1 : decode cX12_text 1 = .ok (.iconst 1, 1) := by decide +kernel
theorem dX12_text_10 : decode cX12_text 10 = .ok (.aload_n 0, 1) := by decide +kernel
theorem dX12_text_11 : decode cX12_text 11 = .ok (.invokevirtual 209, 3) := by decide +kernel
theorem dX12_text_14 : decode cX12_text 14 = .ok (.istore_n 1, 1) := by decide +kernel
theorem dX12_text_15 : decode cX12_text 15 = .ok (.aload_n 0, 1) := by decide +kernel
theorem dX12_text_16 : decode cX12_text 16 = .ok (.iconst 0, 1) := by decide +kernel
theorem dX12_text_17 : decode cX12_text 17 = .ok (.putfield 101, 3) := by decide +kernel
theorem dX12_text_2 : decode cX12_text 2 = .ok (.invokevirtual 205, 3) := by decide +kernel
theorem dX12_text_20 : decode cX12_text 20 = .ok (.iload_n 1, 1) := by decide +kernel
theorem dX12_text_21 : decode cX12_text 21 = .ok (.ifCond .eq 8, 3) := by decide +kernel
theorem dX12_text_29 : decode cX12_text 29 = .ok (.aload_n 0, 1) := by decide +kernel
theorem dX12_text_30 : decode cX12_text 30 = .ok (.iconst 1, 1) := by decide +kernel
theorem dX12_text_31 : decode cX12_text 31 = .ok (.invokevirtual 212, 3) := by decide +kernel
theorem dX12_text_34 : decode cX12_text 34 = .ok (.bipush (-100), 2) := by decide +kernel
theorem dX12_text_36 : decode cX12_text 36 = .ok (.aload_n 0, 1) := by decide +kernel
theorem dX12_text_37 : decode cX12_text 37 = .ok (.getfield 175, 3) := by decide +kernel
theorem dX12_text_40 : decode cX12_text 40 = .ok (.isub, 1) := by decide +kernel
theorem dX12_text_41 : decode cX12_text 41 = .ok (.ireturn, 1) := by decide +kernel
theorem dX12_text_5 : decode cX12_text 5 = .ok (.aload_n 0, 1) := by decide +kernel
theorem dX12_text_6 : decode cX12_text 6 = .ok (.iconst 0, 1) := by decide +kernel
theorem dX12_text_7 : decode cX12_text 7 = .ok (.putfield 184, 3) := by decide +kernel
theorem dX12_seed_0 : decode cX12_seed 0 = .ok (.aload_n 0, 1) := by decide +kernel
theorem dX12_seed_1 : decode cX12_seed 1 = .ok (.getfield 7, 3) := by decide +kernel
theorem dX12_seed_10 : decode cX12_seed 10 = .ok (.iload_n 2, 1) := by decide +kernel
theorem dX12_seed_11 : decode cX12_seed 11 = .ok (.ireturn, 1) := by decide +kernel
theorem dX12_seed_4 : decode cX12_seed 4 = .ok (.istore_n 2, 1) := by decide +kernel
theorem dX12_seed_5 : decode cX12_seed 5 = .ok (.aload_n 0, 1) := by decide +kernel
theorem dX12_seed_6 : decode cX12_seed 6 = .ok (.iload_n 1, 1) := by decide +kernel
theorem dX12_seed_7 : decode cX12_seed 7 = .ok (.putfield 7, 3) := by decide +kernel
set_option maxRecDepth 20000 in
theorem ggX12_isShelf_X12_in : GoodIn wsX12_isShelf wsX12_in := goodIn_r _ [4] (by decide +kernel) (by decide +kernel)
set_option maxRecDepth 20000 in
theorem gX12_isShelf_X12_in : GoodIn wsX12_isShelf (va_wsS RX12 66 yX12_in wsX12_in) := goodIn_app (goodIn_of _ (by decide +kernel)) ggX12_isShelf_X12_in
theorem dX12_isShelf_0 : decode cX12_isShelf 0 = .ok (.iload_n 0, 1) := by decide +kernel
theorem dX12_isShelf_1 : decode cX12_isShelf 1 = .ok (.iconst 0, 1) := by decide +kernel
theorem dX12_isShelf_2 : decode cX12_isShelf 2 = .ok (.iconst 3, 1) := by decide +kernel
theorem dX12_isShelf_3 : decode cX12_isShelf 3 = .ok (.invokestatic 66, 3) := by decide +kernel
theorem dX12_isShelf_6 : decode cX12_isShelf 6 = .ok (.ireturn, 1) := by decide +kernel
set_option maxHeartbeats 4000000 in
set_option maxRecDepth 100000 in
theorem c_X12_in_6 (l : Launch) (D : va_G) (cI cS : ClassId) (x0 : Int32) : Met l yX12_in wsX12_in ({ frames := 0, cells := 0, slots := 0, locals := 0 }) (PS D cI cS [] [.int x0, .int 1, .int 4]) (vp_Si (fun r => r = if x0 < 1 then (0 : Int32) else (if (4 : Int32) < x0 then (0 : Int32) else (1 : Int32)))) 0 0 (fun _ => False) := by
  refine Met.ofW (cc := cX12_in) (maxL := 3) (ret := (some .boolean)) (by decide) rfl ?_
  intro p e s m args below meth c s₁ B hml hv
  obtain ⟨rfl, hP, hKK⟩ := hv
  have hx := B.exec
  have hb := B.bytes
  have hr := B.returns
  have hts := atoms_spec (ws := wsX12_in) B.pre
  have hown : s.vm.findClass RX12 = some m.cls := findClass_of_methodNamed B.named
  have hlocks := B.notSynchronized
  have hK := hKK.1
  have hN := hKK.2
  have hl := lv_entry ([.int x0, .int 1, .int 4]) (n := 3) (Nat.le_of_ble_eq_true rfl)
  rw [lg_entry_eq]
  generalize (lg_sl ([.int x0, .int 1, .int 4]) ++ List.replicate (3 - (lg_sl ([.int x0, .int 1, .int 4])).length) Slot.unset).toArray = ls at hl ⊢
  have hl : lv_has ls 3 [(0, .int x0), (1, .int 1), (2, .int 4)] := hl
  refine lv_iload_n hx hb dX12_in_0 rfl (lv_at hl 0 rfl) ?_
  refine lv_iload_n hx hb dX12_in_1 rfl (lv_at hl 1 rfl) ?_
  refine lv_icmp_lt (tgt := 14) hx hb dX12_in_2 (by decide) (fun c1315 => ?_) (fun c1315 => ?_)
  · refine lv_iconst (v := 0) hx hb dX12_in_14 (by decide) ?_
    exact W.zret (v := 0) hx hb hr (by decide) (fun t ht hW => ⟨_, rfl, by rw [if_pos c1315], ht⟩) (fun q hq => absurd hq List.not_mem_nil) dX12_in_15
  · refine lv_iload_n hx hb dX12_in_5 rfl (lv_at hl 0 rfl) ?_
    refine lv_iload_n hx hb dX12_in_6 rfl (lv_at hl 2 rfl) ?_
    refine lv_icmp_gt (tgt := 14) hx hb dX12_in_7 (by decide) (fun c1316 => ?_) (fun c1316 => ?_)
    · refine lv_iconst (v := 0) hx hb dX12_in_14 (by decide) ?_
      exact W.zret (v := 0) hx hb hr (by decide) (fun t ht hW => ⟨_, rfl, by rw [if_neg c1315, if_pos c1316], ht⟩) (fun q hq => absurd hq List.not_mem_nil) dX12_in_15
    · refine lv_iconst (v := 1) hx hb dX12_in_10 (by decide) ?_
      refine lv_goto (tgt := 15) hx hb dX12_in_11 (by decide) ?_
      exact W.zret (v := 1) hx hb hr (by decide) (fun t ht hW => ⟨_, rfl, by rw [if_neg c1315, if_neg c1316], ht⟩) (fun q hq => absurd hq List.not_mem_nil) dX12_in_15
set_option maxHeartbeats 4000000 in
set_option maxRecDepth 100000 in
theorem c_X12_feed_0 (l : Launch) (D : va_G) (cI cS : ClassId) (sz : Nat) (h0 h1 h2 h3 h4 h5 h6 h7 h8 h9 h10 h11 h12 h13 h14 h15 : Nat) (x0 x1 : Int32) : Met l yX12_feed wsX12_feed ({ frames := 1, cells := 0, slots := 0, locals := 40 }) (PQ D cI cS [(h0, .inr (12, [.int 0, .int 1, .ref h1, .ref h2, .ref h3, .ref h4, .ref h5, .ref h6, .ref h7, .ref h8, .int 0, .int 0, .int 0, .int 0, .int 0, .int 0, .ref h9, .ref h10, .ref h11, .ref h12, .ref h13, .ref h14, .ref h15, .int 0])), (h8, .inl (cI, 120, .inl (fun _ => 0)))] sz [.ref h0, .int x0, .int x1]) (QI D [(h0, .inr (12, [.int 0, .int 1, .ref h1, .ref h2, .ref h3, .ref h4, .ref h5, .ref h6, .ref h7, .ref h8, .int 0, .int 0, .int 0, .int 0, .int 0, .int 0, .ref h9, .ref h10, .ref h11, .ref h12, .ref h13, .ref h14, .ref h15, .int 0])), (h8, .inl (cI, 120, .inl (fun _ => 0)))] [] sz (fun r => r = if x1 < 1 then ((-2) : Int32) else (if (4 : Int32) < x1 then ((-2) : Int32) else (if x1 = 1 then (1 : Int32) else (if x1 = 2 then (2 : Int32) else (if x1 = 3 then (3 : Int32) else (4 : Int32))))))) 0 0 (va_A [(h0, .inr (12, [.int 0, .int 1, .ref h1, .ref h2, .ref h3, .ref h4, .ref h5, .ref h6, .ref h7, .ref h8, .int 0, .int 0, .int 0, .int 0, .int 0, .int 0, .ref h9, .ref h10, .ref h11, .ref h12, .ref h13, .ref h14, .ref h15, .int 0])), (h8, .inl (cI, 120, .inl (fun _ => 0)))] sz) := by
  refine Met.ofW (cc := cX12_feed) (maxL := 4) (ret := (some .int)) (by decide) rfl ?_
  intro p e s m args below meth c s₁ B hml hv
  obtain ⟨rfl, hsz, hP, hKK, hD0⟩ := hv
  have hx := B.exec
  have hb := B.bytes
  have hr := B.returns
  have hts := atoms_spec (ws := wsX12_feed) B.pre
  have hown : s.vm.findClass RX12 = some m.cls := findClass_of_methodNamed B.named
  have hlocks := B.notSynchronized
  have hK := hKK.1
  have hN := hKK.2
  have hin12 : ∀ w ∈ wsX120, w ∈ wsX12_feed := by decide +kernel
  subst hsz
  have hD := hD0.self (sz := s.heap.size)
  obtain ⟨A, hAe⟩ : ∃ A, A = va_A [(h0, .inr (12, [.int 0, .int 1, .ref h1, .ref h2, .ref h3, .ref h4, .ref h5, .ref h6, .ref h7, .ref h8, .int 0, .int 0, .int 0, .int 0, .int 0, .int 0, .ref h9, .ref h10, .ref h11, .ref h12, .ref h13, .ref h14, .ref h15, .int 0])), (h8, .inl (cI, 120, .inl (fun _ => 0)))] s.heap.size := ⟨_, rfl⟩
  rw [← hAe] at hD
  have hA : ∀ q : Nat, s.heap.size ≤ q → A q := fun q h => by rw [hAe]; exact Or.inr h
  have hS : va_S A s.heap s.heap [] := va_S.rf
  have hl := lv_entry ([.ref h0, .int x0, .int x1]) (n := 4) (Nat.le_of_ble_eq_true rfl)
  rw [lg_entry_eq]
  generalize (lg_sl ([.ref h0, .int x0, .int x1]) ++ List.replicate (4 - (lg_sl ([.ref h0, .int x0, .int x1])).length) Slot.unset).toArray = ls at hl ⊢
  have hl : lv_has ls 4 [(0, .ref h0), (1, .int x0), (2, .int x1)] := hl
  refine lv_iload_n hx hb dX12_feed_0 rfl (lv_at hl 2 rfl) ?_
  refine lv_iconst (v := 1) hx hb dX12_feed_1 (by decide) ?_
  refine lv_iconst (v := 4) hx hb dX12_feed_2 (by decide) ?_
  have hPc := hP.sub (ws' := []) [] rfl
  refine lz_ss (As := [.int x1, .int 1, .int 4]) (rest := []) ⟨hx, hb, hml, hown, hts⟩ (c_X12_in_6 l D cI cS x1) hKK hPc (va_cwS 3 hts gX12_feed_X12_in rfl rfl rfl (by decide +kernel) ⟨Nat.le_of_ble_eq_true rfl, Nat.le_of_ble_eq_true rfl⟩) rfl hl.1 rfl (Nat.le_of_ble_eq_true rfl) dX12_feed_3 ⟨Nat.le_of_ble_eq_true rfl, Nat.le_of_ble_eq_true rfl⟩ (fun r1341 hw => ?_)
  by_cases k1342 : x1 < 1
  · rw [if_pos k1342] at hw
    subst hw
    refine lv_if_ne (tgt := 12) hx hb dX12_feed_6 (by decide) (fun c1343 => ?_) (fun c1343 => ?_)
    · exact absurd c1343 (by decide)
    · refine lv_bipush (v := (-2)) hx hb dX12_feed_9 (by decide) ?_
      have hP9 := hP.sub (ws' := []) [] rfl
      have hD9 := hD.sub (ws' := []) [] (by decide) rfl
      subst hAe
      exact W.iret (v := (-2)) hx hb hr (fun t ht hW => ⟨⟨_, (), rfl, by rw [if_pos k1342], by rw [ht]; exact hP9, hD9⟩, hS.F ht⟩) hS.2.2 dX12_feed_11
  · rw [if_neg k1342] at hw
    by_cases k1344 : (4 : Int32) < x1
    · rw [if_pos k1344] at hw
      subst hw
      refine lv_if_ne (tgt := 12) hx hb dX12_feed_6 (by decide) (fun c1345 => ?_) (fun c1345 => ?_)
      · exact absurd c1345 (by decide)
      · refine lv_bipush (v := (-2)) hx hb dX12_feed_9 (by decide) ?_
        have hP9 := hP.sub (ws' := []) [] rfl
        have hD9 := hD.sub (ws' := []) [] (by decide) rfl
        subst hAe
        exact W.iret (v := (-2)) hx hb hr (fun t ht hW => ⟨⟨_, (), rfl, by rw [if_neg k1342, if_pos k1344], by rw [ht]; exact hP9, hD9⟩, hS.F ht⟩) hS.2.2 dX12_feed_11
    · rw [if_neg k1344] at hw
      subst hw
      refine lv_if_ne (tgt := 12) hx hb dX12_feed_6 (by decide) (fun c1346 => ?_) (fun c1346 => ?_)
      · refine lv_aload_n hx hb dX12_feed_12 rfl (lv_at hl 0 rfl) ?_
        refine va_get (D := D) (ci := 12) (v := .int 0) (C := RX12) (T := TX12) (N := 24) hx hb hts hin12 hown hK hP 0 rfl rfl 10 (by decide) (hts (.fieldLink RX12 101 "MissedPointsModel" "taped" "I") (by decide +kernel)) (fun _ h9 => h9) rfl dX12_feed_13 ?_
        refine lv_iload_n hx hb dX12_feed_16 rfl (lv_at hl 2 rfl) ?_
        refine lv_iadd hx hb dX12_feed_17 ?_
        refine lz_top (y := x1) (by simp) ?_
        refine lv_bipush (v := 120) hx hb dX12_feed_18 (by decide) ?_
        refine lv_icmp_le (tgt := 26) hx hb dX12_feed_20 (by decide) (fun c1347 => ?_) (fun c1347 => ?_)
        · by_cases k1348 : x1 = 1
          · subst k1348
            refine lv_iload_n hx hb dX12_feed_26 rfl (lv_at hl 2 rfl) ?_
            refine lv_iconst (v := 1) hx hb dX12_feed_27 (by decide) ?_
            refine lv_isub hx hb dX12_feed_28 ?_
            refine lz_top (y := 0) (by decide) ?_
            refine lv_istore_n (lv' := [(3, .int 0), (0, .ref h0), (1, .int x0), (2, .int 1)]) hx hb dX12_feed_29 rfl hl (by decide) rfl (fun ls hl => ?_)
            refine lv_iload_n hx hb dX12_feed_30 rfl (lv_at hl 0 rfl) ?_
            refine lv_if_lt (tgt := 69) hx hb dX12_feed_31 (by decide) (fun c1349 => ?_) (fun c1349 => ?_)
            · exact absurd c1349 (by decide)
            · refine lv_aload_n hx hb dX12_feed_34 rfl (lv_at hl 1 rfl) ?_
              refine va_get (D := D) (ci := 12) (v := .ref h8) (C := RX12) (T := TX12) (N := 24) hx hb hts hin12 hown hK hP 0 rfl rfl 9 (by decide) (hts (.fieldLink RX12 35 "MissedPointsModel" "tape" "[I") (by decide +kernel)) (fun _ h9 => h9) rfl dX12_feed_35 ?_
              refine lv_aload_n hx hb dX12_feed_38 rfl (lv_at hl 1 rfl) ?_
              refine va_get (D := D) (ci := 12) (v := .int 0) (C := RX12) (T := TX12) (N := 24) hx hb hts hin12 hown hK hP 0 rfl rfl 10 (by decide) (hts (.fieldLink RX12 101 "MissedPointsModel" "taped" "I") (by decide +kernel)) (fun _ h9 => h9) rfl dX12_feed_39 ?_
              refine lv_iload_n hx hb dX12_feed_42 rfl (lv_at hl 2 rfl) ?_
              refine lv_bipush (v := 8) hx hb dX12_feed_43 (by decide) ?_
              refine lv_iload_n hx hb dX12_feed_45 rfl (lv_at hl 0 rfl) ?_
              refine lv_imul hx hb dX12_feed_46 ?_
              refine lz_top (y := 0) (by decide) ?_
              refine lv_ishr hx hb dX12_feed_47 ?_
              refine lv_sipush (v := 255) hx hb dX12_feed_48 (by decide) ?_
              refine lv_iand hx hb dX12_feed_51 ?_
              refine va_iast hx hb hK hP hD hS 1 0 rfl rfl (lz_vp (x := 0) (n := 120) (by decide) (by decide)) dX12_feed_52 (fun H locs hP hD hS => ?_)
              have hP : va_P D cls [(h0, .inr (12, [.int 0, .int 1, .ref h1, .ref h2, .ref h3, .ref h4, .ref h5, .ref h6, .ref h7, .ref h8, .int 0, .int 0, .int 0, .int 0, .int 0, .int 0, .ref h9, .ref h10, .ref h11, .ref h12, .ref h13, .ref h14, .ref h15, .int 0])), (h8, .inl (cI, 120, .inl (upd (fun _ => 0) 0 ((x0 >>> ((0 : Int32) &&& 31)) &&& (255 : Int32)))))] H := hP
              have hD : va_D A [(h0, .inr (12, [.int 0, .int 1, .ref h1, .ref h2, .ref h3, .ref h4, .ref h5, .ref h6, .ref h7, .ref h8, .int 0, .int 0, .int 0, .int 0, .int 0, .int 0, .ref h9, .ref h10, .ref h11, .ref h12, .ref h13, .ref h14, .ref h15, .int 0])), (h8, .inl (cI, 120, .inl (upd (fun _ => 0) 0 ((x0 >>> ((0 : Int32) &&& 31)) &&& (255 : Int32)))))] := hD
              refine lv_aload_n hx hb dX12_feed_53 rfl (lv_at hl 1 rfl) ?_
              refine lv_dup hx hb dX12_feed_54 rfl ?_
              refine va_get (D := D) (ci := 12) (v := .int 0) (C := RX12) (T := TX12) (N := 24) hx hb hts hin12 hown hK hP 0 rfl rfl 10 (by decide) (hts (.fieldLink RX12 101 "MissedPointsModel" "taped" "I") (by decide +kernel)) (fun _ h9 => h9) rfl dX12_feed_55 ?_
              refine lv_iconst (v := 1) hx hb dX12_feed_58 (by decide) ?_
              refine lv_iadd hx hb dX12_feed_59 ?_
              refine lz_top (y := 1) (by decide) ?_
              refine va_put (D := D) (ci := 12) (v := .int 1) (ty := .int) (C := RX12) (T := TX12) (N := 24) hx hb hts hin12 tyX12 tyX12_ok nmX12 hown hK hP hD hS 0 rfl rfl 10 (by decide) (hts (.fieldLink RX12 101 "MissedPointsModel" "taped" "I") (by decide +kernel)) (fun _ h9 => h9) rfl (by decide +kernel) rfl rfl (Nat.le_of_ble_eq_true rfl) dX12_feed_60 (fun H locs hP hD hS => ?_)
              have hP : va_P D cls [(h0, .inr (12, [.int 0, .int 1, .ref h1, .ref h2, .ref h3, .ref h4, .ref h5, .ref h6, .ref h7, .ref h8, .int 1, .int 0, .int 0, .int 0, .int 0, .int 0, .ref h9, .ref h10, .ref h11, .ref h12, .ref h13, .ref h14, .ref h15, .int 0])), (h8, .inl (cI, 120, .inl (upd (fun _ => 0) 0 ((x0 >>> ((0 : Int32) &&& 31)) &&& (255 : Int32)))))] H := hP
              have hD : va_D A [(h0, .inr (12, [.int 0, .int 1, .ref h1, .ref h2, .ref h3, .ref h4, .ref h5, .ref h6, .ref h7, .ref h8, .int 1, .int 0, .int 0, .int 0, .int 0, .int 0, .ref h9, .ref h10, .ref h11, .ref h12, .ref h13, .ref h14, .ref h15, .int 0])), (h8, .inl (cI, 120, .inl (upd (fun _ => 0) 0 ((x0 >>> ((0 : Int32) &&& 31)) &&& (255 : Int32)))))] := hD
              refine lv_iinc (v := (-1)) (lv' := [(3, .int (-1)), (0, .ref h0), (1, .int x0), (2, .int 1)]) hx hb dX12_feed_63 hl (k := 0) rfl (by decide) (by decide) rfl (fun ls hl => ?_)
              refine lv_goto (tgt := 30) hx hb dX12_feed_66 (by decide) ?_
              refine lv_iload_n hx hb dX12_feed_30 rfl (lv_at hl 0 rfl) ?_
              refine lv_if_lt (tgt := 69) hx hb dX12_feed_31 (by decide) (fun c1350 => ?_) (fun c1350 => ?_)
              · refine lv_aload_n hx hb dX12_feed_69 rfl (lv_at hl 1 rfl) ?_
                refine va_get (D := D) (ci := 12) (v := .int 1) (C := RX12) (T := TX12) (N := 24) hx hb hts hin12 hown hK hP 0 rfl rfl 10 (by decide) (hts (.fieldLink RX12 101 "MissedPointsModel" "taped" "I") (by decide +kernel)) (fun _ h9 => h9) rfl dX12_feed_70 ?_
                have hP9 := hP.sub (ws' := []) [] rfl
                have hD9 := hD.sub (ws' := []) [] (by decide) rfl
                subst hAe
                exact W.iret (v := 1) hx hb hr (fun t ht hW => ⟨⟨_, (), rfl, by rw [if_neg k1342, if_neg k1344, if_pos rfl], by rw [ht]; exact hP9, hD9⟩, hS.F ht⟩) hS.2.2 dX12_feed_73
              · exact absurd c1350 (by decide)
          · by_cases k1351 : x1 = 2
            · subst k1351
              refine lv_iload_n hx hb dX12_feed_26 rfl (lv_at hl 2 rfl) ?_
              refine lv_iconst (v := 1) hx hb dX12_feed_27 (by decide) ?_
              refine lv_isub hx hb dX12_feed_28 ?_
              refine lz_top (y := 1) (by decide) ?_
              refine lv_istore_n (lv' := [(3, .int 1), (0, .ref h0), (1, .int x0), (2, .int 2)]) hx hb dX12_feed_29 rfl hl (by decide) rfl (fun ls hl => ?_)
              refine lv_iload_n hx hb dX12_feed_30 rfl (lv_at hl 0 rfl) ?_
              refine lv_if_lt (tgt := 69) hx hb dX12_feed_31 (by decide) (fun c1352 => ?_) (fun c1352 => ?_)
              · exact absurd c1352 (by decide)
              · refine lv_aload_n hx hb dX12_feed_34 rfl (lv_at hl 1 rfl) ?_
                refine va_get (D := D) (ci := 12) (v := .ref h8) (C := RX12) (T := TX12) (N := 24) hx hb hts hin12 hown hK hP 0 rfl rfl 9 (by decide) (hts (.fieldLink RX12 35 "MissedPointsModel" "tape" "[I") (by decide +kernel)) (fun _ h9 => h9) rfl dX12_feed_35 ?_
                refine lv_aload_n hx hb dX12_feed_38 rfl (lv_at hl 1 rfl) ?_
                refine va_get (D := D) (ci := 12) (v := .int 0) (C := RX12) (T := TX12) (N := 24) hx hb hts hin12 hown hK hP 0 rfl rfl 10 (by decide) (hts (.fieldLink RX12 101 "MissedPointsModel" "taped" "I") (by decide +kernel)) (fun _ h9 => h9) rfl dX12_feed_39 ?_
                refine lv_iload_n hx hb dX12_feed_42 rfl (lv_at hl 2 rfl) ?_
                refine lv_bipush (v := 8) hx hb dX12_feed_43 (by decide) ?_
                refine lv_iload_n hx hb dX12_feed_45 rfl (lv_at hl 0 rfl) ?_
                refine lv_imul hx hb dX12_feed_46 ?_
                refine lz_top (y := 8) (by decide) ?_
                refine lv_ishr hx hb dX12_feed_47 ?_
                refine lv_sipush (v := 255) hx hb dX12_feed_48 (by decide) ?_
                refine lv_iand hx hb dX12_feed_51 ?_
                refine va_iast hx hb hK hP hD hS 1 0 rfl rfl (lz_vp (x := 0) (n := 120) (by decide) (by decide)) dX12_feed_52 (fun H locs hP hD hS => ?_)
                have hP : va_P D cls [(h0, .inr (12, [.int 0, .int 1, .ref h1, .ref h2, .ref h3, .ref h4, .ref h5, .ref h6, .ref h7, .ref h8, .int 0, .int 0, .int 0, .int 0, .int 0, .int 0, .ref h9, .ref h10, .ref h11, .ref h12, .ref h13, .ref h14, .ref h15, .int 0])), (h8, .inl (cI, 120, .inl (upd (fun _ => 0) 0 ((x0 >>> ((8 : Int32) &&& 31)) &&& (255 : Int32)))))] H := hP
                have hD : va_D A [(h0, .inr (12, [.int 0, .int 1, .ref h1, .ref h2, .ref h3, .ref h4, .ref h5, .ref h6, .ref h7, .ref h8, .int 0, .int 0, .int 0, .int 0, .int 0, .int 0, .ref h9, .ref h10, .ref h11, .ref h12, .ref h13, .ref h14, .ref h15, .int 0])), (h8, .inl (cI, 120, .inl (upd (fun _ => 0) 0 ((x0 >>> ((8 : Int32) &&& 31)) &&& (255 : Int32)))))] := hD
                refine lv_aload_n hx hb dX12_feed_53 rfl (lv_at hl 1 rfl) ?_
                refine lv_dup hx hb dX12_feed_54 rfl ?_
                refine va_get (D := D) (ci := 12) (v := .int 0) (C := RX12) (T := TX12) (N := 24) hx hb hts hin12 hown hK hP 0 rfl rfl 10 (by decide) (hts (.fieldLink RX12 101 "MissedPointsModel" "taped" "I") (by decide +kernel)) (fun _ h9 => h9) rfl dX12_feed_55 ?_
                refine lv_iconst (v := 1) hx hb dX12_feed_58 (by decide) ?_
                refine lv_iadd hx hb dX12_feed_59 ?_
                refine lz_top (y := 1) (by decide) ?_
                refine va_put (D := D) (ci := 12) (v := .int 1) (ty := .int) (C := RX12) (T := TX12) (N := 24) hx hb hts hin12 tyX12 tyX12_ok nmX12 hown hK hP hD hS 0 rfl rfl 10 (by decide) (hts (.fieldLink RX12 101 "MissedPointsModel" "taped" "I") (by decide +kernel)) (fun _ h9 => h9) rfl (by decide +kernel) rfl rfl (Nat.le_of_ble_eq_true rfl) dX12_feed_60 (fun H locs hP hD hS => ?_)
                have hP : va_P D cls [(h0, .inr (12, [.int 0, .int 1, .ref h1, .ref h2, .ref h3, .ref h4, .ref h5, .ref h6, .ref h7, .ref h8, .int 1, .int 0, .int 0, .int 0, .int 0, .int 0, .ref h9, .ref h10, .ref h11, .ref h12, .ref h13, .ref h14, .ref h15, .int 0])), (h8, .inl (cI, 120, .inl (upd (fun _ => 0) 0 ((x0 >>> ((8 : Int32) &&& 31)) &&& (255 : Int32)))))] H := hP
                have hD : va_D A [(h0, .inr (12, [.int 0, .int 1, .ref h1, .ref h2, .ref h3, .ref h4, .ref h5, .ref h6, .ref h7, .ref h8, .int 1, .int 0, .int 0, .int 0, .int 0, .int 0, .ref h9, .ref h10, .ref h11, .ref h12, .ref h13, .ref h14, .ref h15, .int 0])), (h8, .inl (cI, 120, .inl (upd (fun _ => 0) 0 ((x0 >>> ((8 : Int32) &&& 31)) &&& (255 : Int32)))))] := hD
                refine lv_iinc (v := 0) (lv' := [(3, .int 0), (0, .ref h0), (1, .int x0), (2, .int 2)]) hx hb dX12_feed_63 hl (k := 0) rfl (by decide) (by decide) rfl (fun ls hl => ?_)
                refine lv_goto (tgt := 30) hx hb dX12_feed_66 (by decide) ?_
                refine lv_iload_n hx hb dX12_feed_30 rfl (lv_at hl 0 rfl) ?_
                refine lv_if_lt (tgt := 69) hx hb dX12_feed_31 (by decide) (fun c1353 => ?_) (fun c1353 => ?_)
                · exact absurd c1353 (by decide)
                · refine lv_aload_n hx hb dX12_feed_34 rfl (lv_at hl 1 rfl) ?_
                  refine va_get (D := D) (ci := 12) (v := .ref h8) (C := RX12) (T := TX12) (N := 24) hx hb hts hin12 hown hK hP 0 rfl rfl 9 (by decide) (hts (.fieldLink RX12 35 "MissedPointsModel" "tape" "[I") (by decide +kernel)) (fun _ h9 => h9) rfl dX12_feed_35 ?_
                  refine lv_aload_n hx hb dX12_feed_38 rfl (lv_at hl 1 rfl) ?_
                  refine va_get (D := D) (ci := 12) (v := .int 1) (C := RX12) (T := TX12) (N := 24) hx hb hts hin12 hown hK hP 0 rfl rfl 10 (by decide) (hts (.fieldLink RX12 101 "MissedPointsModel" "taped" "I") (by decide +kernel)) (fun _ h9 => h9) rfl dX12_feed_39 ?_
                  refine lv_iload_n hx hb dX12_feed_42 rfl (lv_at hl 2 rfl) ?_
                  refine lv_bipush (v := 8) hx hb dX12_feed_43 (by decide) ?_
                  refine lv_iload_n hx hb dX12_feed_45 rfl (lv_at hl 0 rfl) ?_
                  refine lv_imul hx hb dX12_feed_46 ?_
                  refine lz_top (y := 0) (by decide) ?_
                  refine lv_ishr hx hb dX12_feed_47 ?_
                  refine lv_sipush (v := 255) hx hb dX12_feed_48 (by decide) ?_
                  refine lv_iand hx hb dX12_feed_51 ?_
                  refine va_iast hx hb hK hP hD hS 1 0 rfl rfl (lz_vp (x := 1) (n := 120) (by decide) (by decide)) dX12_feed_52 (fun H locs hP hD hS => ?_)
                  have hP : va_P D cls [(h0, .inr (12, [.int 0, .int 1, .ref h1, .ref h2, .ref h3, .ref h4, .ref h5, .ref h6, .ref h7, .ref h8, .int 1, .int 0, .int 0, .int 0, .int 0, .int 0, .ref h9, .ref h10, .ref h11, .ref h12, .ref h13, .ref h14, .ref h15, .int 0])), (h8, .inl (cI, 120, .inl (upd (upd (fun _ => 0) 0 ((x0 >>> ((8 : Int32) &&& 31)) &&& (255 : Int32))) 1 ((x0 >>> ((0 : Int32) &&& 31)) &&& (255 : Int32)))))] H := hP
                  have hD : va_D A [(h0, .inr (12, [.int 0, .int 1, .ref h1, .ref h2, .ref h3, .ref h4, .ref h5, .ref h6, .ref h7, .ref h8, .int 1, .int 0, .int 0, .int 0, .int 0, .int 0, .ref h9, .ref h10, .ref h11, .ref h12, .ref h13, .ref h14, .ref h15, .int 0])), (h8, .inl (cI, 120, .inl (upd (upd (fun _ => 0) 0 ((x0 >>> ((8 : Int32) &&& 31)) &&& (255 : Int32))) 1 ((x0 >>> ((0 : Int32) &&& 31)) &&& (255 : Int32)))))] := hD
                  refine lv_aload_n hx hb dX12_feed_53 rfl (lv_at hl 1 rfl) ?_
                  refine lv_dup hx hb dX12_feed_54 rfl ?_
                  refine va_get (D := D) (ci := 12) (v := .int 1) (C := RX12) (T := TX12) (N := 24) hx hb hts hin12 hown hK hP 0 rfl rfl 10 (by decide) (hts (.fieldLink RX12 101 "MissedPointsModel" "taped" "I") (by decide +kernel)) (fun _ h9 => h9) rfl dX12_feed_55 ?_
                  refine lv_iconst (v := 1) hx hb dX12_feed_58 (by decide) ?_
                  refine lv_iadd hx hb dX12_feed_59 ?_
                  refine lz_top (y := 2) (by decide) ?_
                  refine va_put (D := D) (ci := 12) (v := .int 2) (ty := .int) (C := RX12) (T := TX12) (N := 24) hx hb hts hin12 tyX12 tyX12_ok nmX12 hown hK hP hD hS 0 rfl rfl 10 (by decide) (hts (.fieldLink RX12 101 "MissedPointsModel" "taped" "I") (by decide +kernel)) (fun _ h9 => h9) rfl (by decide +kernel) rfl rfl (Nat.le_of_ble_eq_true rfl) dX12_feed_60 (fun H locs hP hD hS => ?_)
                  have hP : va_P D cls [(h0, .inr (12, [.int 0, .int 1, .ref h1, .ref h2, .ref h3, .ref h4, .ref h5, .ref h6, .ref h7, .ref h8, .int 2, .int 0, .int 0, .int 0, .int 0, .int 0, .ref h9, .ref h10, .ref h11, .ref h12, .ref h13, .ref h14, .ref h15, .int 0])), (h8, .inl (cI, 120, .inl (upd (upd (fun _ => 0) 0 ((x0 >>> ((8 : Int32) &&& 31)) &&& (255 : Int32))) 1 ((x0 >>> ((0 : Int32) &&& 31)) &&& (255 : Int32)))))] H := hP
                  have hD : va_D A [(h0, .inr (12, [.int 0, .int 1, .ref h1, .ref h2, .ref h3, .ref h4, .ref h5, .ref h6, .ref h7, .ref h8, .int 2, .int 0, .int 0, .int 0, .int 0, .int 0, .ref h9, .ref h10, .ref h11, .ref h12, .ref h13, .ref h14, .ref h15, .int 0])), (h8, .inl (cI, 120, .inl (upd (upd (fun _ => 0) 0 ((x0 >>> ((8 : Int32) &&& 31)) &&& (255 : Int32))) 1 ((x0 >>> ((0 : Int32) &&& 31)) &&& (255 : Int32)))))] := hD
                  refine lv_iinc (v := (-1)) (lv' := [(3, .int (-1)), (0, .ref h0), (1, .int x0), (2, .int 2)]) hx hb dX12_feed_63 hl (k := 0) rfl (by decide) (by decide) rfl (fun ls hl => ?_)
                  refine lv_goto (tgt := 30) hx hb dX12_feed_66 (by decide) ?_
                  refine lv_iload_n hx hb dX12_feed_30 rfl (lv_at hl 0 rfl) ?_
                  refine lv_if_lt (tgt := 69) hx hb dX12_feed_31 (by decide) (fun c1354 => ?_) (fun c1354 => ?_)
                  · refine lv_aload_n hx hb dX12_feed_69 rfl (lv_at hl 1 rfl) ?_
                    refine va_get (D := D) (ci := 12) (v := .int 2) (C := RX12) (T := TX12) (N := 24) hx hb hts hin12 hown hK hP 0 rfl rfl 10 (by decide) (hts (.fieldLink RX12 101 "MissedPointsModel" "taped" "I") (by decide +kernel)) (fun _ h9 => h9) rfl dX12_feed_70 ?_
                    have hP9 := hP.sub (ws' := []) [] rfl
                    have hD9 := hD.sub (ws' := []) [] (by decide) rfl
                    subst hAe
                    exact W.iret (v := 2) hx hb hr (fun t ht hW => ⟨⟨_, (), rfl, by rw [if_neg k1342, if_neg k1344, if_neg k1348, if_pos rfl], by rw [ht]; exact hP9, hD9⟩, hS.F ht⟩) hS.2.2 dX12_feed_73
                  · exact absurd c1354 (by decide)
            · by_cases k1355 : x1 = 3
              · subst k1355
                refine lv_iload_n hx hb dX12_feed_26 rfl (lv_at hl 2 rfl) ?_
                refine lv_iconst (v := 1) hx hb dX12_feed_27 (by decide) ?_
                refine lv_isub hx hb dX12_feed_28 ?_
                refine lz_top (y := 2) (by decide) ?_
                refine lv_istore_n (lv' := [(3, .int 2), (0, .ref h0), (1, .int x0), (2, .int 3)]) hx hb dX12_feed_29 rfl hl (by decide) rfl (fun ls hl => ?_)
                refine lv_iload_n hx hb dX12_feed_30 rfl (lv_at hl 0 rfl) ?_
                refine lv_if_lt (tgt := 69) hx hb dX12_feed_31 (by decide) (fun c1356 => ?_) (fun c1356 => ?_)
                · exact absurd c1356 (by decide)
                · refine lv_aload_n hx hb dX12_feed_34 rfl (lv_at hl 1 rfl) ?_
                  refine va_get (D := D) (ci := 12) (v := .ref h8) (C := RX12) (T := TX12) (N := 24) hx hb hts hin12 hown hK hP 0 rfl rfl 9 (by decide) (hts (.fieldLink RX12 35 "MissedPointsModel" "tape" "[I") (by decide +kernel)) (fun _ h9 => h9) rfl dX12_feed_35 ?_
                  refine lv_aload_n hx hb dX12_feed_38 rfl (lv_at hl 1 rfl) ?_
                  refine va_get (D := D) (ci := 12) (v := .int 0) (C := RX12) (T := TX12) (N := 24) hx hb hts hin12 hown hK hP 0 rfl rfl 10 (by decide) (hts (.fieldLink RX12 101 "MissedPointsModel" "taped" "I") (by decide +kernel)) (fun _ h9 => h9) rfl dX12_feed_39 ?_
                  refine lv_iload_n hx hb dX12_feed_42 rfl (lv_at hl 2 rfl) ?_
                  refine lv_bipush (v := 8) hx hb dX12_feed_43 (by decide) ?_
                  refine lv_iload_n hx hb dX12_feed_45 rfl (lv_at hl 0 rfl) ?_
                  refine lv_imul hx hb dX12_feed_46 ?_
                  refine lz_top (y := 16) (by decide) ?_
                  refine lv_ishr hx hb dX12_feed_47 ?_
                  refine lv_sipush (v := 255) hx hb dX12_feed_48 (by decide) ?_
                  refine lv_iand hx hb dX12_feed_51 ?_
                  refine va_iast hx hb hK hP hD hS 1 0 rfl rfl (lz_vp (x := 0) (n := 120) (by decide) (by decide)) dX12_feed_52 (fun H locs hP hD hS => ?_)
                  have hP : va_P D cls [(h0, .inr (12, [.int 0, .int 1, .ref h1, .ref h2, .ref h3, .ref h4, .ref h5, .ref h6, .ref h7, .ref h8, .int 0, .int 0, .int 0, .int 0, .int 0, .int 0, .ref h9, .ref h10, .ref h11, .ref h12, .ref h13, .ref h14, .ref h15, .int 0])), (h8, .inl (cI, 120, .inl (upd (fun _ => 0) 0 ((x0 >>> ((16 : Int32) &&& 31)) &&& (255 : Int32)))))] H := hP
                  have hD : va_D A [(h0, .inr (12, [.int 0, .int 1, .ref h1, .ref h2, .ref h3, .ref h4, .ref h5, .ref h6, .ref h7, .ref h8, .int 0, .int 0, .int 0, .int 0, .int 0, .int 0, .ref h9, .ref h10, .ref h11, .ref h12, .ref h13, .ref h14, .ref h15, .int 0])), (h8, .inl (cI, 120, .inl (upd (fun _ => 0) 0 ((x0 >>> ((16 : Int32) &&& 31)) &&& (255 : Int32)))))] := hD
                  refine lv_aload_n hx hb dX12_feed_53 rfl (lv_at hl 1 rfl) ?_
                  refine lv_dup hx hb dX12_feed_54 rfl ?_
                  refine va_get (D := D) (ci := 12) (v := .int 0) (C := RX12) (T := TX12) (N := 24) hx hb hts hin12 hown hK hP 0 rfl rfl 10 (by decide) (hts (.fieldLink RX12 101 "MissedPointsModel" "taped" "I") (by decide +kernel)) (fun _ h9 => h9) rfl dX12_feed_55 ?_
                  refine lv_iconst (v := 1) hx hb dX12_feed_58 (by decide) ?_
                  refine lv_iadd hx hb dX12_feed_59 ?_
                  refine lz_top (y := 1) (by decide) ?_
                  refine va_put (D := D) (ci := 12) (v := .int 1) (ty := .int) (C := RX12) (T := TX12) (N := 24) hx hb hts hin12 tyX12 tyX12_ok nmX12 hown hK hP hD hS 0 rfl rfl 10 (by decide) (hts (.fieldLink RX12 101 "MissedPointsModel" "taped" "I") (by decide +kernel)) (fun _ h9 => h9) rfl (by decide +kernel) rfl rfl (Nat.le_of_ble_eq_true rfl) dX12_feed_60 (fun H locs hP hD hS => ?_)
                  have hP : va_P D cls [(h0, .inr (12, [.int 0, .int 1, .ref h1, .ref h2, .ref h3, .ref h4, .ref h5, .ref h6, .ref h7, .ref h8, .int 1, .int 0, .int 0, .int 0, .int 0, .int 0, .ref h9, .ref h10, .ref h11, .ref h12, .ref h13, .ref h14, .ref h15, .int 0])), (h8, .inl (cI, 120, .inl (upd (fun _ => 0) 0 ((x0 >>> ((16 : Int32) &&& 31)) &&& (255 : Int32)))))] H := hP
                  have hD : va_D A [(h0, .inr (12, [.int 0, .int 1, .ref h1, .ref h2, .ref h3, .ref h4, .ref h5, .ref h6, .ref h7, .ref h8, .int 1, .int 0, .int 0, .int 0, .int 0, .int 0, .ref h9, .ref h10, .ref h11, .ref h12, .ref h13, .ref h14, .ref h15, .int 0])), (h8, .inl (cI, 120, .inl (upd (fun _ => 0) 0 ((x0 >>> ((16 : Int32) &&& 31)) &&& (255 : Int32)))))] := hD
                  refine lv_iinc (v := 1) (lv' := [(3, .int 1), (0, .ref h0), (1, .int x0), (2, .int 3)]) hx hb dX12_feed_63 hl (k := 0) rfl (by decide) (by decide) rfl (fun ls hl => ?_)
                  refine lv_goto (tgt := 30) hx hb dX12_feed_66 (by decide) ?_
                  refine lv_iload_n hx hb dX12_feed_30 rfl (lv_at hl 0 rfl) ?_
                  refine lv_if_lt (tgt := 69) hx hb dX12_feed_31 (by decide) (fun c1357 => ?_) (fun c1357 => ?_)
                  · exact absurd c1357 (by decide)
                  · refine lv_aload_n hx hb dX12_feed_34 rfl (lv_at hl 1 rfl) ?_
                    refine va_get (D := D) (ci := 12) (v := .ref h8) (C := RX12) (T := TX12) (N := 24) hx hb hts hin12 hown hK hP 0 rfl rfl 9 (by decide) (hts (.fieldLink RX12 35 "MissedPointsModel" "tape" "[I") (by decide +kernel)) (fun _ h9 => h9) rfl dX12_feed_35 ?_
                    refine lv_aload_n hx hb dX12_feed_38 rfl (lv_at hl 1 rfl) ?_
                    refine va_get (D := D) (ci := 12) (v := .int 1) (C := RX12) (T := TX12) (N := 24) hx hb hts hin12 hown hK hP 0 rfl rfl 10 (by decide) (hts (.fieldLink RX12 101 "MissedPointsModel" "taped" "I") (by decide +kernel)) (fun _ h9 => h9) rfl dX12_feed_39 ?_
                    refine lv_iload_n hx hb dX12_feed_42 rfl (lv_at hl 2 rfl) ?_
                    refine lv_bipush (v := 8) hx hb dX12_feed_43 (by decide) ?_
                    refine lv_iload_n hx hb dX12_feed_45 rfl (lv_at hl 0 rfl) ?_
                    refine lv_imul hx hb dX12_feed_46 ?_
                    refine lz_top (y := 8) (by decide) ?_
                    refine lv_ishr hx hb dX12_feed_47 ?_
                    refine lv_sipush (v := 255) hx hb dX12_feed_48 (by decide) ?_
                    refine lv_iand hx hb dX12_feed_51 ?_
                    refine va_iast hx hb hK hP hD hS 1 0 rfl rfl (lz_vp (x := 1) (n := 120) (by decide) (by decide)) dX12_feed_52 (fun H locs hP hD hS => ?_)
                    have hP : va_P D cls [(h0, .inr (12, [.int 0, .int 1, .ref h1, .ref h2, .ref h3, .ref h4, .ref h5, .ref h6, .ref h7, .ref h8, .int 1, .int 0, .int 0, .int 0, .int 0, .int 0, .ref h9, .ref h10, .ref h11, .ref h12, .ref h13, .ref h14, .ref h15, .int 0])), (h8, .inl (cI, 120, .inl (upd (upd (fun _ => 0) 0 ((x0 >>> ((16 : Int32) &&& 31)) &&& (255 : Int32))) 1 ((x0 >>> ((8 : Int32) &&& 31)) &&& (255 : Int32)))))] H := hP
                    have hD : va_D A [(h0, .inr (12, [.int 0, .int 1, .ref h1, .ref h2, .ref h3, .ref h4, .ref h5, .ref h6, .ref h7, .ref h8, .int 1, .int 0, .int 0, .int 0, .int 0, .int 0, .ref h9, .ref h10, .ref h11, .ref h12, .ref h13, .ref h14, .ref h15, .int 0])), (h8, .inl (cI, 120, .inl (upd (upd (fun _ => 0) 0 ((x0 >>> ((16 : Int32) &&& 31)) &&& (255 : Int32))) 1 ((x0 >>> ((8 : Int32) &&& 31)) &&& (255 : Int32)))))] := hD
                    refine lv_aload_n hx hb dX12_feed_53 rfl (lv_at hl 1 rfl) ?_
                    refine lv_dup hx hb dX12_feed_54 rfl ?_
                    refine va_get (D := D) (ci := 12) (v := .int 1) (C := RX12) (T := TX12) (N := 24) hx hb hts hin12 hown hK hP 0 rfl rfl 10 (by decide) (hts (.fieldLink RX12 101 "MissedPointsModel" "taped" "I") (by decide +kernel)) (fun _ h9 => h9) rfl dX12_feed_55 ?_
                    refine lv_iconst (v := 1) hx hb dX12_feed_58 (by decide) ?_
                    refine lv_iadd hx hb dX12_feed_59 ?_
                    refine lz_top (y := 2) (by decide) ?_
                    refine va_put (D := D) (ci := 12) (v := .int 2) (ty := .int) (C := RX12) (T := TX12) (N := 24) hx hb hts hin12 tyX12 tyX12_ok nmX12 hown hK hP hD hS 0 rfl rfl 10 (by decide) (hts (.fieldLink RX12 101 "MissedPointsModel" "taped" "I") (by decide +kernel)) (fun _ h9 => h9) rfl (by decide +kernel) rfl rfl (Nat.le_of_ble_eq_true rfl) dX12_feed_60 (fun H locs hP hD hS => ?_)
                    have hP : va_P D cls [(h0, .inr (12, [.int 0, .int 1, .ref h1, .ref h2, .ref h3, .ref h4, .ref h5, .ref h6, .ref h7, .ref h8, .int 2, .int 0, .int 0, .int 0, .int 0, .int 0, .ref h9, .ref h10, .ref h11, .ref h12, .ref h13, .ref h14, .ref h15, .int 0])), (h8, .inl (cI, 120, .inl (upd (upd (fun _ => 0) 0 ((x0 >>> ((16 : Int32) &&& 31)) &&& (255 : Int32))) 1 ((x0 >>> ((8 : Int32) &&& 31)) &&& (255 : Int32)))))] H := hP
                    have hD : va_D A [(h0, .inr (12, [.int 0, .int 1, .ref h1, .ref h2, .ref h3, .ref h4, .ref h5, .ref h6, .ref h7, .ref h8, .int 2, .int 0, .int 0, .int 0, .int 0, .int 0, .ref h9, .ref h10, .ref h11, .ref h12, .ref h13, .ref h14, .ref h15, .int 0])), (h8, .inl (cI, 120, .inl (upd (upd (fun _ => 0) 0 ((x0 >>> ((16 : Int32) &&& 31)) &&& (255 : Int32))) 1 ((x0 >>> ((8 : Int32) &&& 31)) &&& (255 : Int32)))))] := hD
                    refine lv_iinc (v := 0) (lv' := [(3, .int 0), (0, .ref h0), (1, .int x0), (2, .int 3)]) hx hb dX12_feed_63 hl (k := 0) rfl (by decide) (by decide) rfl (fun ls hl => ?_)
                    refine lv_goto (tgt := 30) hx hb dX12_feed_66 (by decide) ?_
                    refine lv_iload_n hx hb dX12_feed_30 rfl (lv_at hl 0 rfl) ?_
                    refine lv_if_lt (tgt := 69) hx hb dX12_feed_31 (by decide) (fun c1358 => ?_) (fun c1358 => ?_)
                    · exact absurd c1358 (by decide)
                    · refine lv_aload_n hx hb dX12_feed_34 rfl (lv_at hl 1 rfl) ?_
                      refine va_get (D := D) (ci := 12) (v := .ref h8) (C := RX12) (T := TX12) (N := 24) hx hb hts hin12 hown hK hP 0 rfl rfl 9 (by decide) (hts (.fieldLink RX12 35 "MissedPointsModel" "tape" "[I") (by decide +kernel)) (fun _ h9 => h9) rfl dX12_feed_35 ?_
                      refine lv_aload_n hx hb dX12_feed_38 rfl (lv_at hl 1 rfl) ?_
                      refine va_get (D := D) (ci := 12) (v := .int 2) (C := RX12) (T := TX12) (N := 24) hx hb hts hin12 hown hK hP 0 rfl rfl 10 (by decide) (hts (.fieldLink RX12 101 "MissedPointsModel" "taped" "I") (by decide +kernel)) (fun _ h9 => h9) rfl dX12_feed_39 ?_
                      refine lv_iload_n hx hb dX12_feed_42 rfl (lv_at hl 2 rfl) ?_
                      refine lv_bipush (v := 8) hx hb dX12_feed_43 (by decide) ?_
                      refine lv_iload_n hx hb dX12_feed_45 rfl (lv_at hl 0 rfl) ?_
                      refine lv_imul hx hb dX12_feed_46 ?_
                      refine lz_top (y := 0) (by decide) ?_
                      refine lv_ishr hx hb dX12_feed_47 ?_
                      refine lv_sipush (v := 255) hx hb dX12_feed_48 (by decide) ?_
                      refine lv_iand hx hb dX12_feed_51 ?_
                      refine va_iast hx hb hK hP hD hS 1 0 rfl rfl (lz_vp (x := 2) (n := 120) (by decide) (by decide)) dX12_feed_52 (fun H locs hP hD hS => ?_)
                      have hP : va_P D cls [(h0, .inr (12, [.int 0, .int 1, .ref h1, .ref h2, .ref h3, .ref h4, .ref h5, .ref h6, .ref h7, .ref h8, .int 2, .int 0, .int 0, .int 0, .int 0, .int 0, .ref h9, .ref h10, .ref h11, .ref h12, .ref h13, .ref h14, .ref h15, .int 0])), (h8, .inl (cI, 120, .inl (upd (upd (upd (fun _ => 0) 0 ((x0 >>> ((16 : Int32) &&& 31)) &&& (255 : Int32))) 1 ((x0 >>> ((8 : Int32) &&& 31)) &&& (255 : Int32))) 2 ((x0 >>> ((0 : Int32) &&& 31)) &&& (255 : Int32)))))] H := hP
                      have hD : va_D A [(h0, .inr (12, [.int 0, .int 1, .ref h1, .ref h2, .ref h3, .ref h4, .ref h5, .ref h6, .ref h7, .ref h8, .int 2, .int 0, .int 0, .int 0, .int 0, .int 0, .ref h9, .ref h10, .ref h11, .ref h12, .ref h13, .ref h14, .ref h15, .int 0])), (h8, .inl (cI, 120, .inl (upd (upd (upd (fun _ => 0) 0 ((x0 >>> ((16 : Int32) &&& 31)) &&& (255 : Int32))) 1 ((x0 >>> ((8 : Int32) &&& 31)) &&& (255 : Int32))) 2 ((x0 >>> ((0 : Int32) &&& 31)) &&& (255 : Int32)))))] := hD
                      refine lv_aload_n hx hb dX12_feed_53 rfl (lv_at hl 1 rfl) ?_
                      refine lv_dup hx hb dX12_feed_54 rfl ?_
                      refine va_get (D := D) (ci := 12) (v := .int 2) (C := RX12) (T := TX12) (N := 24) hx hb hts hin12 hown hK hP 0 rfl rfl 10 (by decide) (hts (.fieldLink RX12 101 "MissedPointsModel" "taped" "I") (by decide +kernel)) (fun _ h9 => h9) rfl dX12_feed_55 ?_
                      refine lv_iconst (v := 1) hx hb dX12_feed_58 (by decide) ?_
                      refine lv_iadd hx hb dX12_feed_59 ?_
                      refine lz_top (y := 3) (by decide) ?_
                      refine va_put (D := D) (ci := 12) (v := .int 3) (ty := .int) (C := RX12) (T := TX12) (N := 24) hx hb hts hin12 tyX12 tyX12_ok nmX12 hown hK hP hD hS 0 rfl rfl 10 (by decide) (hts (.fieldLink RX12 101 "MissedPointsModel" "taped" "I") (by decide +kernel)) (fun _ h9 => h9) rfl (by decide +kernel) rfl rfl (Nat.le_of_ble_eq_true rfl) dX12_feed_60 (fun H locs hP hD hS => ?_)
                      have hP : va_P D cls [(h0, .inr (12, [.int 0, .int 1, .ref h1, .ref h2, .ref h3, .ref h4, .ref h5, .ref h6, .ref h7, .ref h8, .int 3, .int 0, .int 0, .int 0, .int 0, .int 0, .ref h9, .ref h10, .ref h11, .ref h12, .ref h13, .ref h14, .ref h15, .int 0])), (h8, .inl (cI, 120, .inl (upd (upd (upd (fun _ => 0) 0 ((x0 >>> ((16 : Int32) &&& 31)) &&& (255 : Int32))) 1 ((x0 >>> ((8 : Int32) &&& 31)) &&& (255 : Int32))) 2 ((x0 >>> ((0 : Int32) &&& 31)) &&& (255 : Int32)))))] H := hP
                      have hD : va_D A [(h0, .inr (12, [.int 0, .int 1, .ref h1, .ref h2, .ref h3, .ref h4, .ref h5, .ref h6, .ref h7, .ref h8, .int 3, .int 0, .int 0, .int 0, .int 0, .int 0, .ref h9, .ref h10, .ref h11, .ref h12, .ref h13, .ref h14, .ref h15, .int 0])), (h8, .inl (cI, 120, .inl (upd (upd (upd (fun _ => 0) 0 ((x0 >>> ((16 : Int32) &&& 31)) &&& (255 : Int32))) 1 ((x0 >>> ((8 : Int32) &&& 31)) &&& (255 : Int32))) 2 ((x0 >>> ((0 : Int32) &&& 31)) &&& (255 : Int32)))))] := hD
                      refine lv_iinc (v := (-1)) (lv' := [(3, .int (-1)), (0, .ref h0), (1, .int x0), (2, .int 3)]) hx hb dX12_feed_63 hl (k := 0) rfl (by decide) (by decide) rfl (fun ls hl => ?_)
                      refine lv_goto (tgt := 30) hx hb dX12_feed_66 (by decide) ?_
                      refine lv_iload_n hx hb dX12_feed_30 rfl (lv_at hl 0 rfl) ?_
                      refine lv_if_lt (tgt := 69) hx hb dX12_feed_31 (by decide) (fun c1359 => ?_) (fun c1359 => ?_)
                      · refine lv_aload_n hx hb dX12_feed_69 rfl (lv_at hl 1 rfl) ?_
                        refine va_get (D := D) (ci := 12) (v := .int 3) (C := RX12) (T := TX12) (N := 24) hx hb hts hin12 hown hK hP 0 rfl rfl 10 (by decide) (hts (.fieldLink RX12 101 "MissedPointsModel" "taped" "I") (by decide +kernel)) (fun _ h9 => h9) rfl dX12_feed_70 ?_
                        have hP9 := hP.sub (ws' := []) [] rfl
                        have hD9 := hD.sub (ws' := []) [] (by decide) rfl
                        subst hAe
                        exact W.iret (v := 3) hx hb hr (fun t ht hW => ⟨⟨_, (), rfl, by rw [if_neg k1342, if_neg k1344, if_neg k1348, if_neg k1351, if_pos rfl], by rw [ht]; exact hP9, hD9⟩, hS.F ht⟩) hS.2.2 dX12_feed_73
                      · exact absurd c1359 (by decide)
              · obtain rfl : x1 = 4 := by have zf1 := mt (lz_lt x1 (1 : Int32)).mpr k1342; have zf2 := mt (lz_lt (4 : Int32) x1).mpr k1344; have zf3 := mt (lz_eq x1 (1 : Int32)).mpr k1348; have zf4 := mt (lz_eq x1 (2 : Int32)).mpr k1351; have zf5 := mt (lz_eq x1 (3 : Int32)).mpr k1355; have zn0 : (1 : Int32).toInt = 1 := (by decide); have zn1 : (2 : Int32).toInt = 2 := (by decide); have zn2 : (3 : Int32).toInt = 3 := (by decide); have zn3 : (4 : Int32).toInt = 4 := (by decide); rw [lz_eq]; omega
                refine lv_iload_n hx hb dX12_feed_26 rfl (lv_at hl 2 rfl) ?_
                refine lv_iconst (v := 1) hx hb dX12_feed_27 (by decide) ?_
                refine lv_isub hx hb dX12_feed_28 ?_
                refine lz_top (y := 3) (by decide) ?_
                refine lv_istore_n (lv' := [(3, .int 3), (0, .ref h0), (1, .int x0), (2, .int 4)]) hx hb dX12_feed_29 rfl hl (by decide) rfl (fun ls hl => ?_)
                refine lv_iload_n hx hb dX12_feed_30 rfl (lv_at hl 0 rfl) ?_
                refine lv_if_lt (tgt := 69) hx hb dX12_feed_31 (by decide) (fun c1360 => ?_) (fun c1360 => ?_)
                · exact absurd c1360 (by decide)
                · refine lv_aload_n hx hb dX12_feed_34 rfl (lv_at hl 1 rfl) ?_
                  refine va_get (D := D) (ci := 12) (v := .ref h8) (C := RX12) (T := TX12) (N := 24) hx hb hts hin12 hown hK hP 0 rfl rfl 9 (by decide) (hts (.fieldLink RX12 35 "MissedPointsModel" "tape" "[I") (by decide +kernel)) (fun _ h9 => h9) rfl dX12_feed_35 ?_
                  refine lv_aload_n hx hb dX12_feed_38 rfl (lv_at hl 1 rfl) ?_
                  refine va_get (D := D) (ci := 12) (v := .int 0) (C := RX12) (T := TX12) (N := 24) hx hb hts hin12 hown hK hP 0 rfl rfl 10 (by decide) (hts (.fieldLink RX12 101 "MissedPointsModel" "taped" "I") (by decide +kernel)) (fun _ h9 => h9) rfl dX12_feed_39 ?_
                  refine lv_iload_n hx hb dX12_feed_42 rfl (lv_at hl 2 rfl) ?_
                  refine lv_bipush (v := 8) hx hb dX12_feed_43 (by decide) ?_
                  refine lv_iload_n hx hb dX12_feed_45 rfl (lv_at hl 0 rfl) ?_
                  refine lv_imul hx hb dX12_feed_46 ?_
                  refine lz_top (y := 24) (by decide) ?_
                  refine lv_ishr hx hb dX12_feed_47 ?_
                  refine lv_sipush (v := 255) hx hb dX12_feed_48 (by decide) ?_
                  refine lv_iand hx hb dX12_feed_51 ?_
                  refine va_iast hx hb hK hP hD hS 1 0 rfl rfl (lz_vp (x := 0) (n := 120) (by decide) (by decide)) dX12_feed_52 (fun H locs hP hD hS => ?_)
                  have hP : va_P D cls [(h0, .inr (12, [.int 0, .int 1, .ref h1, .ref h2, .ref h3, .ref h4, .ref h5, .ref h6, .ref h7, .ref h8, .int 0, .int 0, .int 0, .int 0, .int 0, .int 0, .ref h9, .ref h10, .ref h11, .ref h12, .ref h13, .ref h14, .ref h15, .int 0])), (h8, .inl (cI, 120, .inl (upd (fun _ => 0) 0 ((x0 >>> ((24 : Int32) &&& 31)) &&& (255 : Int32)))))] H := hP
                  have hD : va_D A [(h0, .inr (12, [.int 0, .int 1, .ref h1, .ref h2, .ref h3, .ref h4, .ref h5, .ref h6, .ref h7, .ref h8, .int 0, .int 0, .int 0, .int 0, .int 0, .int 0, .ref h9, .ref h10, .ref h11, .ref h12, .ref h13, .ref h14, .ref h15, .int 0])), (h8, .inl (cI, 120, .inl (upd (fun _ => 0) 0 ((x0 >>> ((24 : Int32) &&& 31)) &&& (255 : Int32)))))] := hD
                  refine lv_aload_n hx hb dX12_feed_53 rfl (lv_at hl 1 rfl) ?_
                  refine lv_dup hx hb dX12_feed_54 rfl ?_
                  refine va_get (D := D) (ci := 12) (v := .int 0) (C := RX12) (T := TX12) (N := 24) hx hb hts hin12 hown hK hP 0 rfl rfl 10 (by decide) (hts (.fieldLink RX12 101 "MissedPointsModel" "taped" "I") (by decide +kernel)) (fun _ h9 => h9) rfl dX12_feed_55 ?_
                  refine lv_iconst (v := 1) hx hb dX12_feed_58 (by decide) ?_
                  refine lv_iadd hx hb dX12_feed_59 ?_
                  refine lz_top (y := 1) (by decide) ?_
                  refine va_put (D := D) (ci := 12) (v := .int 1) (ty := .int) (C := RX12) (T := TX12) (N := 24) hx hb hts hin12 tyX12 tyX12_ok nmX12 hown hK hP hD hS 0 rfl rfl 10 (by decide) (hts (.fieldLink RX12 101 "MissedPointsModel" "taped" "I") (by decide +kernel)) (fun _ h9 => h9) rfl (by decide +kernel) rfl rfl (Nat.le_of_ble_eq_true rfl) dX12_feed_60 (fun H locs hP hD hS => ?_)
                  have hP : va_P D cls [(h0, .inr (12, [.int 0, .int 1, .ref h1, .ref h2, .ref h3, .ref h4, .ref h5, .ref h6, .ref h7, .ref h8, .int 1, .int 0, .int 0, .int 0, .int 0, .int 0, .ref h9, .ref h10, .ref h11, .ref h12, .ref h13, .ref h14, .ref h15, .int 0])), (h8, .inl (cI, 120, .inl (upd (fun _ => 0) 0 ((x0 >>> ((24 : Int32) &&& 31)) &&& (255 : Int32)))))] H := hP
                  have hD : va_D A [(h0, .inr (12, [.int 0, .int 1, .ref h1, .ref h2, .ref h3, .ref h4, .ref h5, .ref h6, .ref h7, .ref h8, .int 1, .int 0, .int 0, .int 0, .int 0, .int 0, .ref h9, .ref h10, .ref h11, .ref h12, .ref h13, .ref h14, .ref h15, .int 0])), (h8, .inl (cI, 120, .inl (upd (fun _ => 0) 0 ((x0 >>> ((24 : Int32) &&& 31)) &&& (255 : Int32)))))] := hD
                  refine lv_iinc (v := 2) (lv' := [(3, .int 2), (0, .ref h0), (1, .int x0), (2, .int 4)]) hx hb dX12_feed_63 hl (k := 0) rfl (by decide) (by decide) rfl (fun ls hl => ?_)
                  refine lv_goto (tgt := 30) hx hb dX12_feed_66 (by decide) ?_
                  refine lv_iload_n hx hb dX12_feed_30 rfl (lv_at hl 0 rfl) ?_
                  refine lv_if_lt (tgt := 69) hx hb dX12_feed_31 (by decide) (fun c1361 => ?_) (fun c1361 => ?_)
                  · exact absurd c1361 (by decide)
                  · refine lv_aload_n hx hb dX12_feed_34 rfl (lv_at hl 1 rfl) ?_
                    refine va_get (D := D) (ci := 12) (v := .ref h8) (C := RX12) (T := TX12) (N := 24) hx hb hts hin12 hown hK hP 0 rfl rfl 9 (by decide) (hts (.fieldLink RX12 35 "MissedPointsModel" "tape" "[I") (by decide +kernel)) (fun _ h9 => h9) rfl dX12_feed_35 ?_
                    refine lv_aload_n hx hb dX12_feed_38 rfl (lv_at hl 1 rfl) ?_
                    refine va_get (D := D) (ci := 12) (v := .int 1) (C := RX12) (T := TX12) (N := 24) hx hb hts hin12 hown hK hP 0 rfl rfl 10 (by decide) (hts (.fieldLink RX12 101 "MissedPointsModel" "taped" "I") (by decide +kernel)) (fun _ h9 => h9) rfl dX12_feed_39 ?_
                    refine lv_iload_n hx hb dX12_feed_42 rfl (lv_at hl 2 rfl) ?_
                    refine lv_bipush (v := 8) hx hb dX12_feed_43 (by decide) ?_
                    refine lv_iload_n hx hb dX12_feed_45 rfl (lv_at hl 0 rfl) ?_
                    refine lv_imul hx hb dX12_feed_46 ?_
                    refine lz_top (y := 16) (by decide) ?_
                    refine lv_ishr hx hb dX12_feed_47 ?_
                    refine lv_sipush (v := 255) hx hb dX12_feed_48 (by decide) ?_
                    refine lv_iand hx hb dX12_feed_51 ?_
                    refine va_iast hx hb hK hP hD hS 1 0 rfl rfl (lz_vp (x := 1) (n := 120) (by decide) (by decide)) dX12_feed_52 (fun H locs hP hD hS => ?_)
                    have hP : va_P D cls [(h0, .inr (12, [.int 0, .int 1, .ref h1, .ref h2, .ref h3, .ref h4, .ref h5, .ref h6, .ref h7, .ref h8, .int 1, .int 0, .int 0, .int 0, .int 0, .int 0, .ref h9, .ref h10, .ref h11, .ref h12, .ref h13, .ref h14, .ref h15, .int 0])), (h8, .inl (cI, 120, .inl (upd (upd (fun _ => 0) 0 ((x0 >>> ((24 : Int32) &&& 31)) &&& (255 : Int32))) 1 ((x0 >>> ((16 : Int32) &&& 31)) &&& (255 : Int32)))))] H := hP
                    have hD : va_D A [(h0, .inr (12, [.int 0, .int 1, .ref h1, .ref h2, .ref h3, .ref h4, .ref h5, .ref h6, .ref h7, .ref h8, .int 1, .int 0, .int 0, .int 0, .int 0, .int 0, .ref h9, .ref h10, .ref h11, .ref h12, .ref h13, .ref h14, .ref h15, .int 0])), (h8, .inl (cI, 120, .inl (upd (upd (fun _ => 0) 0 ((x0 >>> ((24 : Int32) &&& 31)) &&& (255 : Int32))) 1 ((x0 >>> ((16 : Int32) &&& 31)) &&& (255 : Int32)))))] := hD
                    refine lv_aload_n hx hb dX12_feed_53 rfl (lv_at hl 1 rfl) ?_
                    refine lv_dup hx hb dX12_feed_54 rfl ?_
                    refine va_get (D := D) (ci := 12) (v := .int 1) (C := RX12) (T := TX12) (N := 24) hx hb hts hin12 hown hK hP 0 rfl rfl 10 (by decide) (hts (.fieldLink RX12 101 "MissedPointsModel" "taped" "I") (by decide +kernel)) (fun _ h9 => h9) rfl dX12_feed_55 ?_
                    refine lv_iconst (v := 1) hx hb dX12_feed_58 (by decide) ?_
                    refine lv_iadd hx hb dX12_feed_59 ?_
                    refine lz_top (y := 2) (by decide) ?_
                    refine va_put (D := D) (ci := 12) (v := .int 2) (ty := .int) (C := RX12) (T := TX12) (N := 24) hx hb hts hin12 tyX12 tyX12_ok nmX12 hown hK hP hD hS 0 rfl rfl 10 (by decide) (hts (.fieldLink RX12 101 "MissedPointsModel" "taped" "I") (by decide +kernel)) (fun _ h9 => h9) rfl (by decide +kernel) rfl rfl (Nat.le_of_ble_eq_true rfl) dX12_feed_60 (fun H locs hP hD hS => ?_)
                    have hP : va_P D cls [(h0, .inr (12, [.int 0, .int 1, .ref h1, .ref h2, .ref h3, .ref h4, .ref h5, .ref h6, .ref h7, .ref h8, .int 2, .int 0, .int 0, .int 0, .int 0, .int 0, .ref h9, .ref h10, .ref h11, .ref h12, .ref h13, .ref h14, .ref h15, .int 0])), (h8, .inl (cI, 120, .inl (upd (upd (fun _ => 0) 0 ((x0 >>> ((24 : Int32) &&& 31)) &&& (255 : Int32))) 1 ((x0 >>> ((16 : Int32) &&& 31)) &&& (255 : Int32)))))] H := hP
                    have hD : va_D A [(h0, .inr (12, [.int 0, .int 1, .ref h1, .ref h2, .ref h3, .ref h4, .ref h5, .ref h6, .ref h7, .ref h8, .int 2, .int 0, .int 0, .int 0, .int 0, .int 0, .ref h9, .ref h10, .ref h11, .ref h12, .ref h13, .ref h14, .ref h15, .int 0])), (h8, .inl (cI, 120, .inl (upd (upd (fun _ => 0) 0 ((x0 >>> ((24 : Int32) &&& 31)) &&& (255 : Int32))) 1 ((x0 >>> ((16 : Int32) &&& 31)) &&& (255 : Int32)))))] := hD
                    refine lv_iinc (v := 1) (lv' := [(3, .int 1), (0, .ref h0), (1, .int x0), (2, .int 4)]) hx hb dX12_feed_63 hl (k := 0) rfl (by decide) (by decide) rfl (fun ls hl => ?_)
                    refine lv_goto (tgt := 30) hx hb dX12_feed_66 (by decide) ?_
                    refine lv_iload_n hx hb dX12_feed_30 rfl (lv_at hl 0 rfl) ?_
                    refine lv_if_lt (tgt := 69) hx hb dX12_feed_31 (by decide) (fun c1362 => ?_) (fun c1362 => ?_)
                    · exact absurd c1362 (by decide)
                    · refine lv_aload_n hx hb dX12_feed_34 rfl (lv_at hl 1 rfl) ?_
                      refine va_get (D := D) (ci := 12) (v := .ref h8) (C := RX12) (T := TX12) (N := 24) hx hb hts hin12 hown hK hP 0 rfl rfl 9 (by decide) (hts (.fieldLink RX12 35 "MissedPointsModel" "tape" "[I") (by decide +kernel)) (fun _ h9 => h9) rfl dX12_feed_35 ?_
                      refine lv_aload_n hx hb dX12_feed_38 rfl (lv_at hl 1 rfl) ?_
                      refine va_get (D := D) (ci := 12) (v := .int 2) (C := RX12) (T := TX12) (N := 24) hx hb hts hin12 hown hK hP 0 rfl rfl 10 (by decide) (hts (.fieldLink RX12 101 "MissedPointsModel" "taped" "I") (by decide +kernel)) (fun _ h9 => h9) rfl dX12_feed_39 ?_
                      refine lv_iload_n hx hb dX12_feed_42 rfl (lv_at hl 2 rfl) ?_
                      refine lv_bipush (v := 8) hx hb dX12_feed_43 (by decide) ?_
                      refine lv_iload_n hx hb dX12_feed_45 rfl (lv_at hl 0 rfl) ?_
                      refine lv_imul hx hb dX12_feed_46 ?_
                      refine lz_top (y := 8) (by decide) ?_
                      refine lv_ishr hx hb dX12_feed_47 ?_
                      refine lv_sipush (v := 255) hx hb dX12_feed_48 (by decide) ?_
                      refine lv_iand hx hb dX12_feed_51 ?_
                      refine va_iast hx hb hK hP hD hS 1 0 rfl rfl (lz_vp (x := 2) (n := 120) (by decide) (by decide)) dX12_feed_52 (fun H locs hP hD hS => ?_)
                      have hP : va_P D cls [(h0, .inr (12, [.int 0, .int 1, .ref h1, .ref h2, .ref h3, .ref h4, .ref h5, .ref h6, .ref h7, .ref h8, .int 2, .int 0, .int 0, .int 0, .int 0, .int 0, .ref h9, .ref h10, .ref h11, .ref h12, .ref h13, .ref h14, .ref h15, .int 0])), (h8, .inl (cI, 120, .inl (upd (upd (upd (fun _ => 0) 0 ((x0 >>> ((24 : Int32) &&& 31)) &&& (255 : Int32))) 1 ((x0 >>> ((16 : Int32) &&& 31)) &&& (255 : Int32))) 2 ((x0 >>> ((8 : Int32) &&& 31)) &&& (255 : Int32)))))] H := hP
                      have hD : va_D A [(h0, .inr (12, [.int 0, .int 1, .ref h1, .ref h2, .ref h3, .ref h4, .ref h5, .ref h6, .ref h7, .ref h8, .int 2, .int 0, .int 0, .int 0, .int 0, .int 0, .ref h9, .ref h10, .ref h11, .ref h12, .ref h13, .ref h14, .ref h15, .int 0])), (h8, .inl (cI, 120, .inl (upd (upd (upd (fun _ => 0) 0 ((x0 >>> ((24 : Int32) &&& 31)) &&& (255 : Int32))) 1 ((x0 >>> ((16 : Int32) &&& 31)) &&& (255 : Int32))) 2 ((x0 >>> ((8 : Int32) &&& 31)) &&& (255 : Int32)))))] := hD
                      refine lv_aload_n hx hb dX12_feed_53 rfl (lv_at hl 1 rfl) ?_
                      refine lv_dup hx hb dX12_feed_54 rfl ?_
                      refine va_get (D := D) (ci := 12) (v := .int 2) (C := RX12) (T := TX12) (N := 24) hx hb hts hin12 hown hK hP 0 rfl rfl 10 (by decide) (hts (.fieldLink RX12 101 "MissedPointsModel" "taped" "I") (by decide +kernel)) (fun _ h9 => h9) rfl dX12_feed_55 ?_
                      refine lv_iconst (v := 1) hx hb dX12_feed_58 (by decide) ?_
                      refine lv_iadd hx hb dX12_feed_59 ?_
                      refine lz_top (y := 3) (by decide) ?_
                      refine va_put (D := D) (ci := 12) (v := .int 3) (ty := .int) (C := RX12) (T := TX12) (N := 24) hx hb hts hin12 tyX12 tyX12_ok nmX12 hown hK hP hD hS 0 rfl rfl 10 (by decide) (hts (.fieldLink RX12 101 "MissedPointsModel" "taped" "I") (by decide +kernel)) (fun _ h9 => h9) rfl (by decide +kernel) rfl rfl (Nat.le_of_ble_eq_true rfl) dX12_feed_60 (fun H locs hP hD hS => ?_)
                      have hP : va_P D cls [(h0, .inr (12, [.int 0, .int 1, .ref h1, .ref h2, .ref h3, .ref h4, .ref h5, .ref h6, .ref h7, .ref h8, .int 3, .int 0, .int 0, .int 0, .int 0, .int 0, .ref h9, .ref h10, .ref h11, .ref h12, .ref h13, .ref h14, .ref h15, .int 0])), (h8, .inl (cI, 120, .inl (upd (upd (upd (fun _ => 0) 0 ((x0 >>> ((24 : Int32) &&& 31)) &&& (255 : Int32))) 1 ((x0 >>> ((16 : Int32) &&& 31)) &&& (255 : Int32))) 2 ((x0 >>> ((8 : Int32) &&& 31)) &&& (255 : Int32)))))] H := hP
                      have hD : va_D A [(h0, .inr (12, [.int 0, .int 1, .ref h1, .ref h2, .ref h3, .ref h4, .ref h5, .ref h6, .ref h7, .ref h8, .int 3, .int 0, .int 0, .int 0, .int 0, .int 0, .ref h9, .ref h10, .ref h11, .ref h12, .ref h13, .ref h14, .ref h15, .int 0])), (h8, .inl (cI, 120, .inl (upd (upd (upd (fun _ => 0) 0 ((x0 >>> ((24 : Int32) &&& 31)) &&& (255 : Int32))) 1 ((x0 >>> ((16 : Int32) &&& 31)) &&& (255 : Int32))) 2 ((x0 >>> ((8 : Int32) &&& 31)) &&& (255 : Int32)))))] := hD
                      refine lv_iinc (v := 0) (lv' := [(3, .int 0), (0, .ref h0), (1, .int x0), (2, .int 4)]) hx hb dX12_feed_63 hl (k := 0) rfl (by decide) (by decide) rfl (fun ls hl => ?_)
                      refine lv_goto (tgt := 30) hx hb dX12_feed_66 (by decide) ?_
                      refine lv_iload_n hx hb dX12_feed_30 rfl (lv_at hl 0 rfl) ?_
                      refine lv_if_lt (tgt := 69) hx hb dX12_feed_31 (by decide) (fun c1363 => ?_) (fun c1363 => ?_)
                      · exact absurd c1363 (by decide)
                      · refine lv_aload_n hx hb dX12_feed_34 rfl (lv_at hl 1 rfl) ?_
                        refine va_get (D := D) (ci := 12) (v := .ref h8) (C := RX12) (T := TX12) (N := 24) hx hb hts hin12 hown hK hP 0 rfl rfl 9 (by decide) (hts (.fieldLink RX12 35 "MissedPointsModel" "tape" "[I") (by decide +kernel)) (fun _ h9 => h9) rfl dX12_feed_35 ?_
                        refine lv_aload_n hx hb dX12_feed_38 rfl (lv_at hl 1 rfl) ?_
                        refine va_get (D := D) (ci := 12) (v := .int 3) (C := RX12) (T := TX12) (N := 24) hx hb hts hin12 hown hK hP 0 rfl rfl 10 (by decide) (hts (.fieldLink RX12 101 "MissedPointsModel" "taped" "I") (by decide +kernel)) (fun _ h9 => h9) rfl dX12_feed_39 ?_
                        refine lv_iload_n hx hb dX12_feed_42 rfl (lv_at hl 2 rfl) ?_
                        refine lv_bipush (v := 8) hx hb dX12_feed_43 (by decide) ?_
                        refine lv_iload_n hx hb dX12_feed_45 rfl (lv_at hl 0 rfl) ?_
                        refine lv_imul hx hb dX12_feed_46 ?_
                        refine lz_top (y := 0) (by decide) ?_
                        refine lv_ishr hx hb dX12_feed_47 ?_
                        refine lv_sipush (v := 255) hx hb dX12_feed_48 (by decide) ?_
                        refine lv_iand hx hb dX12_feed_51 ?_
                        refine va_iast hx hb hK hP hD hS 1 0 rfl rfl (lz_vp (x := 3) (n := 120) (by decide) (by decide)) dX12_feed_52 (fun H locs hP hD hS => ?_)
                        have hP : va_P D cls [(h0, .inr (12, [.int 0, .int 1, .ref h1, .ref h2, .ref h3, .ref h4, .ref h5, .ref h6, .ref h7, .ref h8, .int 3, .int 0, .int 0, .int 0, .int 0, .int 0, .ref h9, .ref h10, .ref h11, .ref h12, .ref h13, .ref h14, .ref h15, .int 0])), (h8, .inl (cI, 120, .inl (upd (upd (upd (upd (fun _ => 0) 0 ((x0 >>> ((24 : Int32) &&& 31)) &&& (255 : Int32))) 1 ((x0 >>> ((16 : Int32) &&& 31)) &&& (255 : Int32))) 2 ((x0 >>> ((8 : Int32) &&& 31)) &&& (255 : Int32))) 3 ((x0 >>> ((0 : Int32) &&& 31)) &&& (255 : Int32)))))] H := hP
                        have hD : va_D A [(h0, .inr (12, [.int 0, .int 1, .ref h1, .ref h2, .ref h3, .ref h4, .ref h5, .ref h6, .ref h7, .ref h8, .int 3, .int 0, .int 0, .int 0, .int 0, .int 0, .ref h9, .ref h10, .ref h11, .ref h12, .ref h13, .ref h14, .ref h15, .int 0])), (h8, .inl (cI, 120, .inl (upd (upd (upd (upd (fun _ => 0) 0 ((x0 >>> ((24 : Int32) &&& 31)) &&& (255 : Int32))) 1 ((x0 >>> ((16 : Int32) &&& 31)) &&& (255 : Int32))) 2 ((x0 >>> ((8 : Int32) &&& 31)) &&& (255 : Int32))) 3 ((x0 >>> ((0 : Int32) &&& 31)) &&& (255 : Int32)))))] := hD
                        refine lv_aload_n hx hb dX12_feed_53 rfl (lv_at hl 1 rfl) ?_
                        refine lv_dup hx hb dX12_feed_54 rfl ?_
                        refine va_get (D := D) (ci := 12) (v := .int 3) (C := RX12) (T := TX12) (N := 24) hx hb hts hin12 hown hK hP 0 rfl rfl 10 (by decide) (hts (.fieldLink RX12 101 "MissedPointsModel" "taped" "I") (by decide +kernel)) (fun _ h9 => h9) rfl dX12_feed_55 ?_
                        refine lv_iconst (v := 1) hx hb dX12_feed_58 (by decide) ?_
                        refine lv_iadd hx hb dX12_feed_59 ?_
                        refine lz_top (y := 4) (by decide) ?_
                        refine va_put (D := D) (ci := 12) (v := .int 4) (ty := .int) (C := RX12) (T := TX12) (N := 24) hx hb hts hin12 tyX12 tyX12_ok nmX12 hown hK hP hD hS 0 rfl rfl 10 (by decide) (hts (.fieldLink RX12 101 "MissedPointsModel" "taped" "I") (by decide +kernel)) (fun _ h9 => h9) rfl (by decide +kernel) rfl rfl (Nat.le_of_ble_eq_true rfl) dX12_feed_60 (fun H locs hP hD hS => ?_)
                        have hP : va_P D cls [(h0, .inr (12, [.int 0, .int 1, .ref h1, .ref h2, .ref h3, .ref h4, .ref h5, .ref h6, .ref h7, .ref h8, .int 4, .int 0, .int 0, .int 0, .int 0, .int 0, .ref h9, .ref h10, .ref h11, .ref h12, .ref h13, .ref h14, .ref h15, .int 0])), (h8, .inl (cI, 120, .inl (upd (upd (upd (upd (fun _ => 0) 0 ((x0 >>> ((24 : Int32) &&& 31)) &&& (255 : Int32))) 1 ((x0 >>> ((16 : Int32) &&& 31)) &&& (255 : Int32))) 2 ((x0 >>> ((8 : Int32) &&& 31)) &&& (255 : Int32))) 3 ((x0 >>> ((0 : Int32) &&& 31)) &&& (255 : Int32)))))] H := hP
                        have hD : va_D A [(h0, .inr (12, [.int 0, .int 1, .ref h1, .ref h2, .ref h3, .ref h4, .ref h5, .ref h6, .ref h7, .ref h8, .int 4, .int 0, .int 0, .int 0, .int 0, .int 0, .ref h9, .ref h10, .ref h11, .ref h12, .ref h13, .ref h14, .ref h15, .int 0])), (h8, .inl (cI, 120, .inl (upd (upd (upd (upd (fun _ => 0) 0 ((x0 >>> ((24 : Int32) &&& 31)) &&& (255 : Int32))) 1 ((x0 >>> ((16 : Int32) &&& 31)) &&& (255 : Int32))) 2 ((x0 >>> ((8 : Int32) &&& 31)) &&& (255 : Int32))) 3 ((x0 >>> ((0 : Int32) &&& 31)) &&& (255 : Int32)))))] := hD
                        refine lv_iinc (v := (-1)) (lv' := [(3, .int (-1)), (0, .ref h0), (1, .int x0), (2, .int 4)]) hx hb dX12_feed_63 hl (k := 0) rfl (by decide) (by decide) rfl (fun ls hl => ?_)
                        refine lv_goto (tgt := 30) hx hb dX12_feed_66 (by decide) ?_
                        refine lv_iload_n hx hb dX12_feed_30 rfl (lv_at hl 0 rfl) ?_
                        refine lv_if_lt (tgt := 69) hx hb dX12_feed_31 (by decide) (fun c1364 => ?_) (fun c1364 => ?_)
                        · refine lv_aload_n hx hb dX12_feed_69 rfl (lv_at hl 1 rfl) ?_
                          refine va_get (D := D) (ci := 12) (v := .int 4) (C := RX12) (T := TX12) (N := 24) hx hb hts hin12 hown hK hP 0 rfl rfl 10 (by decide) (hts (.fieldLink RX12 101 "MissedPointsModel" "taped" "I") (by decide +kernel)) (fun _ h9 => h9) rfl dX12_feed_70 ?_
                          have hP9 := hP.sub (ws' := []) [] rfl
                          have hD9 := hD.sub (ws' := []) [] (by decide) rfl
                          subst hAe
                          exact W.iret (v := 4) hx hb hr (fun t ht hW => ⟨⟨_, (), rfl, by rw [if_neg k1342, if_neg k1344, if_neg k1348, if_neg k1351, if_neg k1355], by rw [ht]; exact hP9, hD9⟩, hS.F ht⟩) hS.2.2 dX12_feed_73
                        · exact absurd c1364 (by decide)
        · exact absurd (show x1 ≤ 120 from by have zf1 := mt (lz_lt x1 (1 : Int32)).mpr k1342; have zf2 := mt (lz_lt (4 : Int32) x1).mpr k1344; have zn0 : (1 : Int32).toInt = 1 := (by decide); have zn1 : (4 : Int32).toInt = 4 := (by decide); have zn2 : (120 : Int32).toInt = 120 := (by decide); rw [lz_le]; omega) c1347
      · exact absurd c1346 (by decide)
set_option maxHeartbeats 4000000 in
set_option maxRecDepth 100000 in
theorem c_X12_wipe_0 (l : Launch) (D : va_G) (cI cS : ClassId) (sz : Nat) (h0 h1 h2 h3 h4 h5 h6 h7 h8 h9 h10 h11 h12 h13 h14 h15 : Nat) : Met l yX12_wipe wsX12_wipe ({ frames := 0, cells := 0, slots := 0, locals := 0 }) (PQ D cI cS [(h0, .inr (12, [.int 0, .int 1, .ref h1, .ref h2, .ref h3, .ref h4, .ref h5, .ref h6, .ref h7, .ref h8, .int 0, .int 0, .int 0, .int 0, .int 0, .int 0, .ref h9, .ref h10, .ref h11, .ref h12, .ref h13, .ref h14, .ref h15, .int 0]))] sz [.ref h0]) (QI D [(h0, .inr (12, [.int 0, .int 1, .ref h1, .ref h2, .ref h3, .ref h4, .ref h5, .ref h6, .ref h7, .ref h8, .int 0, .int 0, .int 0, .int 0, .int 0, .int 0, .ref h9, .ref h10, .ref h11, .ref h12, .ref h13, .ref h14, .ref h15, .int 0]))] [] sz (fun r => r = (0 : Int32))) 0 0 (va_A [(h0, .inr (12, [.int 0, .int 1, .ref h1, .ref h2, .ref h3, .ref h4, .ref h5, .ref h6, .ref h7, .ref h8, .int 0, .int 0, .int 0, .int 0, .int 0, .int 0, .ref h9, .ref h10, .ref h11, .ref h12, .ref h13, .ref h14, .ref h15, .int 0]))] sz) := by
  refine Met.ofW (cc := cX12_wipe) (maxL := 2) (ret := (some .int)) (by decide) rfl ?_
  intro p e s m args below meth c s₁ B hml hv
  obtain ⟨rfl, hsz, hP, hKK, hD0⟩ := hv
  have hx := B.exec
  have hb := B.bytes
  have hr := B.returns
  have hts := atoms_spec (ws := wsX12_wipe) B.pre
  have hown : s.vm.findClass RX12 = some m.cls := findClass_of_methodNamed B.named
  have hlocks := B.notSynchronized
  have hK := hKK.1
  have hN := hKK.2
  have hin12 : ∀ w ∈ wsX120, w ∈ wsX12_wipe := by decide +kernel
  subst hsz
  have hD := hD0.self (sz := s.heap.size)
  obtain ⟨A, hAe⟩ : ∃ A, A = va_A [(h0, .inr (12, [.int 0, .int 1, .ref h1, .ref h2, .ref h3, .ref h4, .ref h5, .ref h6, .ref h7, .ref h8, .int 0, .int 0, .int 0, .int 0, .int 0, .int 0, .ref h9, .ref h10, .ref h11, .ref h12, .ref h13, .ref h14, .ref h15, .int 0]))] s.heap.size := ⟨_, rfl⟩
  rw [← hAe] at hD
  have hA : ∀ q : Nat, s.heap.size ≤ q → A q := fun q h => by rw [hAe]; exact Or.inr h
  have hS : va_S A s.heap s.heap [] := va_S.rf
  have hl := lv_entry ([.ref h0]) (n := 2) (Nat.le_of_ble_eq_true rfl)
  rw [lg_entry_eq]
  generalize (lg_sl ([.ref h0]) ++ List.replicate (2 - (lg_sl ([.ref h0])).length) Slot.unset).toArray = ls at hl ⊢
  have hl : lv_has ls 2 [(0, .ref h0)] := hl
  refine lv_aload_n hx hb dX12_wipe_0 rfl (lv_at hl 0 rfl) ?_
  refine va_get (D := D) (ci := 12) (v := .int 0) (C := RX12) (T := TX12) (N := 24) hx hb hts hin12 hown hK hP 0 rfl rfl 10 (by decide) (hts (.fieldLink RX12 101 "MissedPointsModel" "taped" "I") (by decide +kernel)) (fun _ h9 => h9) rfl dX12_wipe_1 ?_
  refine lv_istore_n (lv' := [(1, .int 0), (0, .ref h0)]) hx hb dX12_wipe_4 rfl hl (by decide) rfl (fun ls hl => ?_)
  refine lv_aload_n hx hb dX12_wipe_5 rfl (lv_at hl 1 rfl) ?_
  refine lv_iconst (v := 0) hx hb dX12_wipe_6 (by decide) ?_
  refine va_put (D := D) (ci := 12) (v := .int 0) (ty := .int) (C := RX12) (T := TX12) (N := 24) hx hb hts hin12 tyX12 tyX12_ok nmX12 hown hK hP hD hS 0 rfl rfl 10 (by decide) (hts (.fieldLink RX12 101 "MissedPointsModel" "taped" "I") (by decide +kernel)) (fun _ h9 => h9) rfl (by decide +kernel) rfl rfl (Nat.le_of_ble_eq_true rfl) dX12_wipe_7 (fun H locs hP hD hS => ?_)
  have hP : va_P D cls [(h0, .inr (12, [.int 0, .int 1, .ref h1, .ref h2, .ref h3, .ref h4, .ref h5, .ref h6, .ref h7, .ref h8, .int 0, .int 0, .int 0, .int 0, .int 0, .int 0, .ref h9, .ref h10, .ref h11, .ref h12, .ref h13, .ref h14, .ref h15, .int 0]))] H := hP
  have hD : va_D A [(h0, .inr (12, [.int 0, .int 1, .ref h1, .ref h2, .ref h3, .ref h4, .ref h5, .ref h6, .ref h7, .ref h8, .int 0, .int 0, .int 0, .int 0, .int 0, .int 0, .ref h9, .ref h10, .ref h11, .ref h12, .ref h13, .ref h14, .ref h15, .int 0]))] := hD
  refine lv_iload_n hx hb dX12_wipe_10 rfl (lv_at hl 0 rfl) ?_
  have hP9 := hP.sub (ws' := []) [] rfl
  have hD9 := hD.sub (ws' := []) [] (by decide) rfl
  subst hAe
  exact W.iret (v := 0) hx hb hr (fun t ht hW => ⟨⟨_, (), rfl, rfl, by rw [ht]; exact hP9, hD9⟩, hS.F ht⟩) hS.2.2 dX12_wipe_11
set_option maxHeartbeats 4000000 in
set_option maxRecDepth 100000 in
theorem c_X12_keeps_0 (l : Launch) (D : va_G) (cI cS : ClassId) (sz : Nat) (h0 h1 h2 h3 h4 h5 h6 h7 h8 h9 h10 h11 h12 h13 h14 h15 : Nat) : Met l yX12_keeps wsX12_keeps ({ frames := 0, cells := 0, slots := 0, locals := 0 }) (PQ D cI cS [(h0, .inr (12, [.int 0, .int 1, .ref h1, .ref h2, .ref h3, .ref h4, .ref h5, .ref h6, .ref h7, .ref h8, .int 0, .int 0, .int 0, .int 0, .int 0, .int 0, .ref h9, .ref h10, .ref h11, .ref h12, .ref h13, .ref h14, .ref h15, .int 0])), (h1, .inl (cI, 12, .inl (fun _ => 0))), (h15, .inl (cI, 28, .inl (fun _ => 0)))] sz [.ref h0, .int 1]) (QV D [(h0, .inr (12, [.int 0, .int 1, .ref h1, .ref h2, .ref h3, .ref h4, .ref h5, .ref h6, .ref h7, .ref h8, .int 0, .int 0, .int 0, .int 0, .int 0, .int 0, .ref h9, .ref h10, .ref h11, .ref h12, .ref h13, .ref h14, .ref h15, .int 0])), (h1, .inl (cI, 12, .inl (fun _ => 0))), (h15, .inl (cI, 28, .inl (fun _ => 0)))] [(h0, .inr (12, [.int 0, .int 1, .ref h1, .ref h2, .ref h3, .ref h4, .ref h5, .ref h6, .ref h7, .ref h8, .int 0, .int 0, .int 0, .int 0, .int 0, .int 0, .ref h9, .ref h10, .ref h11, .ref h12, .ref h13, .ref h14, .ref h15, .int 0])), (h1, .inl (cI, 12, .inl (fun _ => 0))), (h15, .inl (cI, 28, .inl (upd (upd (upd (upd (upd (upd (upd (upd (upd (upd (upd (upd (upd (fun _ => 0) 15 1) 16 0) 17 0) 18 0) 19 0) 20 0) 21 0) 22 0) 23 0) 24 0) 25 0) 26 0) 27 0)))] sz) 0 0 (va_A [(h0, .inr (12, [.int 0, .int 1, .ref h1, .ref h2, .ref h3, .ref h4, .ref h5, .ref h6, .ref h7, .ref h8, .int 0, .int 0, .int 0, .int 0, .int 0, .int 0, .ref h9, .ref h10, .ref h11, .ref h12, .ref h13, .ref h14, .ref h15, .int 0])), (h1, .inl (cI, 12, .inl (fun _ => 0))), (h15, .inl (cI, 28, .inl (fun _ => 0)))] sz) := by
  refine Met.ofW (cc := cX12_keeps) (maxL := 4) (ret := none) (by decide) rfl ?_
  intro p e s m args below meth c s₁ B hml hv
  obtain ⟨rfl, hsz, hP, hKK, hD0⟩ := hv
  have hx := B.exec
  have hb := B.bytes
  have hr := B.returns
  have hts := atoms_spec (ws := wsX12_keeps) B.pre
  have hown : s.vm.findClass RX12 = some m.cls := findClass_of_methodNamed B.named
  have hlocks := B.notSynchronized
  have hK := hKK.1
  have hN := hKK.2
  have hin12 : ∀ w ∈ wsX120, w ∈ wsX12_keeps := by decide +kernel
  subst hsz
  have hD := hD0.self (sz := s.heap.size)
  obtain ⟨A, hAe⟩ : ∃ A, A = va_A [(h0, .inr (12, [.int 0, .int 1, .ref h1, .ref h2, .ref h3, .ref h4, .ref h5, .ref h6, .ref h7, .ref h8, .int 0, .int 0, .int 0, .int 0, .int 0, .int 0, .ref h9, .ref h10, .ref h11, .ref h12, .ref h13, .ref h14, .ref h15, .int 0])), (h1, .inl (cI, 12, .inl (fun _ => 0))), (h15, .inl (cI, 28, .inl (fun _ => 0)))] s.heap.size := ⟨_, rfl⟩
  rw [← hAe] at hD
  have hA : ∀ q : Nat, s.heap.size ≤ q → A q := fun q h => by rw [hAe]; exact Or.inr h
  have hS : va_S A s.heap s.heap [] := va_S.rf
  have hl := lv_entry ([.ref h0, .int 1]) (n := 4) (Nat.le_of_ble_eq_true rfl)
  rw [lg_entry_eq]
  generalize (lg_sl ([.ref h0, .int 1]) ++ List.replicate (4 - (lg_sl ([.ref h0, .int 1])).length) Slot.unset).toArray = ls at hl ⊢
  have hl : lv_has ls 4 [(0, .ref h0), (1, .int 1)] := hl
  refine lv_iload_n hx hb dX12_keeps_0 rfl (lv_at hl 1 rfl) ?_
  refine lv_bipush (v := 14) hx hb dX12_keeps_1 (by decide) ?_
  refine lv_imul hx hb dX12_keeps_3 ?_
  refine lz_top (y := 14) (by decide) ?_
  refine lv_istore_n (lv' := [(2, .int 14), (0, .ref h0), (1, .int 1)]) hx hb dX12_keeps_4 rfl hl (by decide) rfl (fun ls hl => ?_)
  refine lv_aload_n hx hb dX12_keeps_5 rfl (lv_at hl 1 rfl) ?_
  refine va_get (D := D) (ci := 12) (v := .ref h15) (C := RX12) (T := TX12) (N := 24) hx hb hts hin12 hown hK hP 0 rfl rfl 22 (by decide) (hts (.fieldLink RX12 56 "MissedPointsModel" "kept" "[I") (by decide +kernel)) (fun _ h9 => h9) rfl dX12_keeps_6 ?_
  refine lv_iload_n hx hb dX12_keeps_9 rfl (lv_at hl 0 rfl) ?_
  refine lv_aload_n hx hb dX12_keeps_10 rfl (lv_at hl 1 rfl) ?_
  refine va_get (D := D) (ci := 12) (v := .int 0) (C := RX12) (T := TX12) (N := 24) hx hb hts hin12 hown hK hP 0 rfl rfl 0 (by decide) (hts (.fieldLink RX12 63 "MissedPointsModel" "many" "I") (by decide +kernel)) (fun _ h9 => h9) rfl dX12_keeps_11 ?_
  refine lz_astc hx hb hK hP hD hS 2 0 rfl rfl (lz_vp (x := 14) (n := 28) (by decide) (by decide)) dX12_keeps_14 (fun H locs hP hD hS => ?_)
  refine lv_aload_n hx hb dX12_keeps_15 rfl (lv_at hl 1 rfl) ?_
  refine va_get (D := D) (ci := 12) (v := .ref h15) (C := RX12) (T := TX12) (N := 24) hx hb hts hin12 hown hK hP 0 rfl rfl 22 (by decide) (hts (.fieldLink RX12 56 "MissedPointsModel" "kept" "[I") (by decide +kernel)) (fun _ h9 => h9) rfl dX12_keeps_16 ?_
  refine lv_iload_n hx hb dX12_keeps_19 rfl (lv_at hl 0 rfl) ?_
  refine lv_iconst (v := 1) hx hb dX12_keeps_20 (by decide) ?_
  refine lv_iadd hx hb dX12_keeps_21 ?_
  refine lz_top (y := 15) (by decide) ?_
  refine lv_aload_n hx hb dX12_keeps_22 rfl (lv_at hl 1 rfl) ?_
  refine va_get (D := D) (ci := 12) (v := .int 1) (C := RX12) (T := TX12) (N := 24) hx hb hts hin12 hown hK hP 0 rfl rfl 1 (by decide) (hts (.fieldLink RX12 7 "MissedPointsModel" "z" "I") (by decide +kernel)) (fun _ h9 => h9) rfl dX12_keeps_23 ?_
  refine va_iast hx hb hK hP hD hS 2 0 rfl rfl (lz_vp (x := 15) (n := 28) (by decide) (by decide)) dX12_keeps_26 (fun H locs hP hD hS => ?_)
  have hP : va_P D cls [(h0, .inr (12, [.int 0, .int 1, .ref h1, .ref h2, .ref h3, .ref h4, .ref h5, .ref h6, .ref h7, .ref h8, .int 0, .int 0, .int 0, .int 0, .int 0, .int 0, .ref h9, .ref h10, .ref h11, .ref h12, .ref h13, .ref h14, .ref h15, .int 0])), (h1, .inl (cI, 12, .inl (fun _ => 0))), (h15, .inl (cI, 28, .inl (upd (fun _ => 0) 15 1)))] H := hP
  have hD : va_D A [(h0, .inr (12, [.int 0, .int 1, .ref h1, .ref h2, .ref h3, .ref h4, .ref h5, .ref h6, .ref h7, .ref h8, .int 0, .int 0, .int 0, .int 0, .int 0, .int 0, .ref h9, .ref h10, .ref h11, .ref h12, .ref h13, .ref h14, .ref h15, .int 0])), (h1, .inl (cI, 12, .inl (fun _ => 0))), (h15, .inl (cI, 28, .inl (upd (fun _ => 0) 15 1)))] := hD
  refine lv_iconst (v := 0) hx hb dX12_keeps_27 (by decide) ?_
  refine lv_istore_n (lv' := [(3, .int 0), (2, .int 14), (0, .ref h0), (1, .int 1)]) hx hb dX12_keeps_28 rfl hl (by decide) rfl (fun ls hl => ?_)
  refine lv_iload_n hx hb dX12_keeps_29 rfl (lv_at hl 0 rfl) ?_
  refine lv_bipush (v := 12) hx hb dX12_keeps_30 (by decide) ?_
  refine lv_icmp_ge (tgt := 57) hx hb dX12_keeps_32 (by decide) (fun c1378 => ?_) (fun c1378 => ?_)
  · exact absurd c1378 (by decide)
  · refine lv_aload_n hx hb dX12_keeps_35 rfl (lv_at hl 2 rfl) ?_
    refine va_get (D := D) (ci := 12) (v := .ref h15) (C := RX12) (T := TX12) (N := 24) hx hb hts hin12 hown hK hP 0 rfl rfl 22 (by decide) (hts (.fieldLink RX12 56 "MissedPointsModel" "kept" "[I") (by decide +kernel)) (fun _ h9 => h9) rfl dX12_keeps_36 ?_
    refine lv_iload_n hx hb dX12_keeps_39 rfl (lv_at hl 1 rfl) ?_
    refine lv_iconst (v := 2) hx hb dX12_keeps_40 (by decide) ?_
    refine lv_iadd hx hb dX12_keeps_41 ?_
    refine lz_top (y := 16) (by decide) ?_
    refine lv_iload_n hx hb dX12_keeps_42 rfl (lv_at hl 0 rfl) ?_
    refine lv_iadd hx hb dX12_keeps_43 ?_
    refine lz_top (y := 16) (by decide) ?_
    refine lv_aload_n hx hb dX12_keeps_44 rfl (lv_at hl 2 rfl) ?_
    refine va_get (D := D) (ci := 12) (v := .ref h1) (C := RX12) (T := TX12) (N := 24) hx hb hts hin12 hown hK hP 0 rfl rfl 2 (by decide) (hts (.fieldLink RX12 13 "MissedPointsModel" "near" "[I") (by decide +kernel)) (fun _ h9 => h9) rfl dX12_keeps_45 ?_
    refine lv_iload_n hx hb dX12_keeps_48 rfl (lv_at hl 0 rfl) ?_
    refine va_iald hx hb hK hP 1 0 rfl rfl (lz_vp (x := 0) (n := 12) (by decide) (by decide)) dX12_keeps_49 ?_
    refine lz_top (y := 0) rfl ?_
    refine va_iast hx hb hK hP hD hS 2 0 rfl rfl (lz_vp (x := 16) (n := 28) (by decide) (by decide)) dX12_keeps_50 (fun H locs hP hD hS => ?_)
    have hP : va_P D cls [(h0, .inr (12, [.int 0, .int 1, .ref h1, .ref h2, .ref h3, .ref h4, .ref h5, .ref h6, .ref h7, .ref h8, .int 0, .int 0, .int 0, .int 0, .int 0, .int 0, .ref h9, .ref h10, .ref h11, .ref h12, .ref h13, .ref h14, .ref h15, .int 0])), (h1, .inl (cI, 12, .inl (fun _ => 0))), (h15, .inl (cI, 28, .inl (upd (upd (fun _ => 0) 15 1) 16 0)))] H := hP
    have hD : va_D A [(h0, .inr (12, [.int 0, .int 1, .ref h1, .ref h2, .ref h3, .ref h4, .ref h5, .ref h6, .ref h7, .ref h8, .int 0, .int 0, .int 0, .int 0, .int 0, .int 0, .ref h9, .ref h10, .ref h11, .ref h12, .ref h13, .ref h14, .ref h15, .int 0])), (h1, .inl (cI, 12, .inl (fun _ => 0))), (h15, .inl (cI, 28, .inl (upd (upd (fun _ => 0) 15 1) 16 0)))] := hD
    refine lv_iinc (v := 1) (lv' := [(3, .int 1), (2, .int 14), (0, .ref h0), (1, .int 1)]) hx hb dX12_keeps_51 hl (k := 0) rfl (by decide) (by decide) rfl (fun ls hl => ?_)
    refine lv_goto (tgt := 29) hx hb dX12_keeps_54 (by decide) ?_
    refine lv_iload_n hx hb dX12_keeps_29 rfl (lv_at hl 0 rfl) ?_
    refine lv_bipush (v := 12) hx hb dX12_keeps_30 (by decide) ?_
    refine lv_icmp_ge (tgt := 57) hx hb dX12_keeps_32 (by decide) (fun c1379 => ?_) (fun c1379 => ?_)
    · exact absurd c1379 (by decide)
    · refine lv_aload_n hx hb dX12_keeps_35 rfl (lv_at hl 2 rfl) ?_
      refine va_get (D := D) (ci := 12) (v := .ref h15) (C := RX12) (T := TX12) (N := 24) hx hb hts hin12 hown hK hP 0 rfl rfl 22 (by decide) (hts (.fieldLink RX12 56 "MissedPointsModel" "kept" "[I") (by decide +kernel)) (fun _ h9 => h9) rfl dX12_keeps_36 ?_
      refine lv_iload_n hx hb dX12_keeps_39 rfl (lv_at hl 1 rfl) ?_
      refine lv_iconst (v := 2) hx hb dX12_keeps_40 (by decide) ?_
      refine lv_iadd hx hb dX12_keeps_41 ?_
      refine lz_top (y := 16) (by decide) ?_
      refine lv_iload_n hx hb dX12_keeps_42 rfl (lv_at hl 0 rfl) ?_
      refine lv_iadd hx hb dX12_keeps_43 ?_
      refine lz_top (y := 17) (by decide) ?_
      refine lv_aload_n hx hb dX12_keeps_44 rfl (lv_at hl 2 rfl) ?_
      refine va_get (D := D) (ci := 12) (v := .ref h1) (C := RX12) (T := TX12) (N := 24) hx hb hts hin12 hown hK hP 0 rfl rfl 2 (by decide) (hts (.fieldLink RX12 13 "MissedPointsModel" "near" "[I") (by decide +kernel)) (fun _ h9 => h9) rfl dX12_keeps_45 ?_
      refine lv_iload_n hx hb dX12_keeps_48 rfl (lv_at hl 0 rfl) ?_
      refine va_iald hx hb hK hP 1 0 rfl rfl (lz_vp (x := 1) (n := 12) (by decide) (by decide)) dX12_keeps_49 ?_
      refine lz_top (y := 0) rfl ?_
      refine va_iast hx hb hK hP hD hS 2 0 rfl rfl (lz_vp (x := 17) (n := 28) (by decide) (by decide)) dX12_keeps_50 (fun H locs hP hD hS => ?_)
      have hP : va_P D cls [(h0, .inr (12, [.int 0, .int 1, .ref h1, .ref h2, .ref h3, .ref h4, .ref h5, .ref h6, .ref h7, .ref h8, .int 0, .int 0, .int 0, .int 0, .int 0, .int 0, .ref h9, .ref h10, .ref h11, .ref h12, .ref h13, .ref h14, .ref h15, .int 0])), (h1, .inl (cI, 12, .inl (fun _ => 0))), (h15, .inl (cI, 28, .inl (upd (upd (upd (fun _ => 0) 15 1) 16 0) 17 0)))] H := hP
      have hD : va_D A [(h0, .inr (12, [.int 0, .int 1, .ref h1, .ref h2, .ref h3, .ref h4, .ref h5, .ref h6, .ref h7, .ref h8, .int 0, .int 0, .int 0, .int 0, .int 0, .int 0, .ref h9, .ref h10, .ref h11, .ref h12, .ref h13, .ref h14, .ref h15, .int 0])), (h1, .inl (cI, 12, .inl (fun _ => 0))), (h15, .inl (cI, 28, .inl (upd (upd (upd (fun _ => 0) 15 1) 16 0) 17 0)))] := hD
      refine lv_iinc (v := 2) (lv' := [(3, .int 2), (2, .int 14), (0, .ref h0), (1, .int 1)]) hx hb dX12_keeps_51 hl (k := 0) rfl (by decide) (by decide) rfl (fun ls hl => ?_)
      refine lv_goto (tgt := 29) hx hb dX12_keeps_54 (by decide) ?_
      refine lv_iload_n hx hb dX12_keeps_29 rfl (lv_at hl 0 rfl) ?_
      refine lv_bipush (v := 12) hx hb dX12_keeps_30 (by decide) ?_
      refine lv_icmp_ge (tgt := 57) hx hb dX12_keeps_32 (by decide) (fun c1380 => ?_) (fun c1380 => ?_)
      · exact absurd c1380 (by decide)
      · refine lv_aload_n hx hb dX12_keeps_35 rfl (lv_at hl 2 rfl) ?_
        refine va_get (D := D) (ci := 12) (v := .ref h15) (C := RX12) (T := TX12) (N := 24) hx hb hts hin12 hown hK hP 0 rfl rfl 22 (by decide) (hts (.fieldLink RX12 56 "MissedPointsModel" "kept" "[I") (by decide +kernel)) (fun _ h9 => h9) rfl dX12_keeps_36 ?_
        refine lv_iload_n hx hb dX12_keeps_39 rfl (lv_at hl 1 rfl) ?_
        refine lv_iconst (v := 2) hx hb dX12_keeps_40 (by decide) ?_
        refine lv_iadd hx hb dX12_keeps_41 ?_
        refine lz_top (y := 16) (by decide) ?_
        refine lv_iload_n hx hb dX12_keeps_42 rfl (lv_at hl 0 rfl) ?_
        refine lv_iadd hx hb dX12_keeps_43 ?_
        refine lz_top (y := 18) (by decide) ?_
        refine lv_aload_n hx hb dX12_keeps_44 rfl (lv_at hl 2 rfl) ?_
        refine va_get (D := D) (ci := 12) (v := .ref h1) (C := RX12) (T := TX12) (N := 24) hx hb hts hin12 hown hK hP 0 rfl rfl 2 (by decide) (hts (.fieldLink RX12 13 "MissedPointsModel" "near" "[I") (by decide +kernel)) (fun _ h9 => h9) rfl dX12_keeps_45 ?_
        refine lv_iload_n hx hb dX12_keeps_48 rfl (lv_at hl 0 rfl) ?_
        refine va_iald hx hb hK hP 1 0 rfl rfl (lz_vp (x := 2) (n := 12) (by decide) (by decide)) dX12_keeps_49 ?_
        refine lz_top (y := 0) rfl ?_
        refine va_iast hx hb hK hP hD hS 2 0 rfl rfl (lz_vp (x := 18) (n := 28) (by decide) (by decide)) dX12_keeps_50 (fun H locs hP hD hS => ?_)
        have hP : va_P D cls [(h0, .inr (12, [.int 0, .int 1, .ref h1, .ref h2, .ref h3, .ref h4, .ref h5, .ref h6, .ref h7, .ref h8, .int 0, .int 0, .int 0, .int 0, .int 0, .int 0, .ref h9, .ref h10, .ref h11, .ref h12, .ref h13, .ref h14, .ref h15, .int 0])), (h1, .inl (cI, 12, .inl (fun _ => 0))), (h15, .inl (cI, 28, .inl (upd (upd (upd (upd (fun _ => 0) 15 1) 16 0) 17 0) 18 0)))] H := hP
        have hD : va_D A [(h0, .inr (12, [.int 0, .int 1, .ref h1, .ref h2, .ref h3, .ref h4, .ref h5, .ref h6, .ref h7, .ref h8, .int 0, .int 0, .int 0, .int 0, .int 0, .int 0, .ref h9, .ref h10, .ref h11, .ref h12, .ref h13, .ref h14, .ref h15, .int 0])), (h1, .inl (cI, 12, .inl (fun _ => 0))), (h15, .inl (cI, 28, .inl (upd (upd (upd (upd (fun _ => 0) 15 1) 16 0) 17 0) 18 0)))] := hD
        refine lv_iinc (v := 3) (lv' := [(3, .int 3), (2, .int 14), (0, .ref h0), (1, .int 1)]) hx hb dX12_keeps_51 hl (k := 0) rfl (by decide) (by decide) rfl (fun ls hl => ?_)
        refine lv_goto (tgt := 29) hx hb dX12_keeps_54 (by decide) ?_
        refine lv_iload_n hx hb dX12_keeps_29 rfl (lv_at hl 0 rfl) ?_
        refine lv_bipush (v := 12) hx hb dX12_keeps_30 (by decide) ?_
        refine lv_icmp_ge (tgt := 57) hx hb dX12_keeps_32 (by decide) (fun c1381 => ?_) (fun c1381 => ?_)
        · exact absurd c1381 (by decide)
        · refine lv_aload_n hx hb dX12_keeps_35 rfl (lv_at hl 2 rfl) ?_
          refine va_get (D := D) (ci := 12) (v := .ref h15) (C := RX12) (T := TX12) (N := 24) hx hb hts hin12 hown hK hP 0 rfl rfl 22 (by decide) (hts (.fieldLink RX12 56 "MissedPointsModel" "kept" "[I") (by decide +kernel)) (fun _ h9 => h9) rfl dX12_keeps_36 ?_
          refine lv_iload_n hx hb dX12_keeps_39 rfl (lv_at hl 1 rfl) ?_
          refine lv_iconst (v := 2) hx hb dX12_keeps_40 (by decide) ?_
          refine lv_iadd hx hb dX12_keeps_41 ?_
          refine lz_top (y := 16) (by decide) ?_
          refine lv_iload_n hx hb dX12_keeps_42 rfl (lv_at hl 0 rfl) ?_
          refine lv_iadd hx hb dX12_keeps_43 ?_
          refine lz_top (y := 19) (by decide) ?_
          refine lv_aload_n hx hb dX12_keeps_44 rfl (lv_at hl 2 rfl) ?_
          refine va_get (D := D) (ci := 12) (v := .ref h1) (C := RX12) (T := TX12) (N := 24) hx hb hts hin12 hown hK hP 0 rfl rfl 2 (by decide) (hts (.fieldLink RX12 13 "MissedPointsModel" "near" "[I") (by decide +kernel)) (fun _ h9 => h9) rfl dX12_keeps_45 ?_
          refine lv_iload_n hx hb dX12_keeps_48 rfl (lv_at hl 0 rfl) ?_
          refine va_iald hx hb hK hP 1 0 rfl rfl (lz_vp (x := 3) (n := 12) (by decide) (by decide)) dX12_keeps_49 ?_
          refine lz_top (y := 0) rfl ?_
          refine va_iast hx hb hK hP hD hS 2 0 rfl rfl (lz_vp (x := 19) (n := 28) (by decide) (by decide)) dX12_keeps_50 (fun H locs hP hD hS => ?_)
          have hP : va_P D cls [(h0, .inr (12, [.int 0, .int 1, .ref h1, .ref h2, .ref h3, .ref h4, .ref h5, .ref h6, .ref h7, .ref h8, .int 0, .int 0, .int 0, .int 0, .int 0, .int 0, .ref h9, .ref h10, .ref h11, .ref h12, .ref h13, .ref h14, .ref h15, .int 0])), (h1, .inl (cI, 12, .inl (fun _ => 0))), (h15, .inl (cI, 28, .inl (upd (upd (upd (upd (upd (fun _ => 0) 15 1) 16 0) 17 0) 18 0) 19 0)))] H := hP
          have hD : va_D A [(h0, .inr (12, [.int 0, .int 1, .ref h1, .ref h2, .ref h3, .ref h4, .ref h5, .ref h6, .ref h7, .ref h8, .int 0, .int 0, .int 0, .int 0, .int 0, .int 0, .ref h9, .ref h10, .ref h11, .ref h12, .ref h13, .ref h14, .ref h15, .int 0])), (h1, .inl (cI, 12, .inl (fun _ => 0))), (h15, .inl (cI, 28, .inl (upd (upd (upd (upd (upd (fun _ => 0) 15 1) 16 0) 17 0) 18 0) 19 0)))] := hD
          refine lv_iinc (v := 4) (lv' := [(3, .int 4), (2, .int 14), (0, .ref h0), (1, .int 1)]) hx hb dX12_keeps_51 hl (k := 0) rfl (by decide) (by decide) rfl (fun ls hl => ?_)
          refine lv_goto (tgt := 29) hx hb dX12_keeps_54 (by decide) ?_
          refine lv_iload_n hx hb dX12_keeps_29 rfl (lv_at hl 0 rfl) ?_
          refine lv_bipush (v := 12) hx hb dX12_keeps_30 (by decide) ?_
          refine lv_icmp_ge (tgt := 57) hx hb dX12_keeps_32 (by decide) (fun c1382 => ?_) (fun c1382 => ?_)
          · exact absurd c1382 (by decide)
          · refine lv_aload_n hx hb dX12_keeps_35 rfl (lv_at hl 2 rfl) ?_
            refine va_get (D := D) (ci := 12) (v := .ref h15) (C := RX12) (T := TX12) (N := 24) hx hb hts hin12 hown hK hP 0 rfl rfl 22 (by decide) (hts (.fieldLink RX12 56 "MissedPointsModel" "kept" "[I") (by decide +kernel)) (fun _ h9 => h9) rfl dX12_keeps_36 ?_
            refine lv_iload_n hx hb dX12_keeps_39 rfl (lv_at hl 1 rfl) ?_
            refine lv_iconst (v := 2) hx hb dX12_keeps_40 (by decide) ?_
            refine lv_iadd hx hb dX12_keeps_41 ?_
            refine lz_top (y := 16) (by decide) ?_
            refine lv_iload_n hx hb dX12_keeps_42 rfl (lv_at hl 0 rfl) ?_
            refine lv_iadd hx hb dX12_keeps_43 ?_
            refine lz_top (y := 20) (by decide) ?_
            refine lv_aload_n hx hb dX12_keeps_44 rfl (lv_at hl 2 rfl) ?_
            refine va_get (D := D) (ci := 12) (v := .ref h1) (C := RX12) (T := TX12) (N := 24) hx hb hts hin12 hown hK hP 0 rfl rfl 2 (by decide) (hts (.fieldLink RX12 13 "MissedPointsModel" "near" "[I") (by decide +kernel)) (fun _ h9 => h9) rfl dX12_keeps_45 ?_
            refine lv_iload_n hx hb dX12_keeps_48 rfl (lv_at hl 0 rfl) ?_
            refine va_iald hx hb hK hP 1 0 rfl rfl (lz_vp (x := 4) (n := 12) (by decide) (by decide)) dX12_keeps_49 ?_
            refine lz_top (y := 0) rfl ?_
            refine va_iast hx hb hK hP hD hS 2 0 rfl rfl (lz_vp (x := 20) (n := 28) (by decide) (by decide)) dX12_keeps_50 (fun H locs hP hD hS => ?_)
            have hP : va_P D cls [(h0, .inr (12, [.int 0, .int 1, .ref h1, .ref h2, .ref h3, .ref h4, .ref h5, .ref h6, .ref h7, .ref h8, .int 0, .int 0, .int 0, .int 0, .int 0, .int 0, .ref h9, .ref h10, .ref h11, .ref h12, .ref h13, .ref h14, .ref h15, .int 0])), (h1, .inl (cI, 12, .inl (fun _ => 0))), (h15, .inl (cI, 28, .inl (upd (upd (upd (upd (upd (upd (fun _ => 0) 15 1) 16 0) 17 0) 18 0) 19 0) 20 0)))] H := hP
            have hD : va_D A [(h0, .inr (12, [.int 0, .int 1, .ref h1, .ref h2, .ref h3, .ref h4, .ref h5, .ref h6, .ref h7, .ref h8, .int 0, .int 0, .int 0, .int 0, .int 0, .int 0, .ref h9, .ref h10, .ref h11, .ref h12, .ref h13, .ref h14, .ref h15, .int 0])), (h1, .inl (cI, 12, .inl (fun _ => 0))), (h15, .inl (cI, 28, .inl (upd (upd (upd (upd (upd (upd (fun _ => 0) 15 1) 16 0) 17 0) 18 0) 19 0) 20 0)))] := hD
            refine lv_iinc (v := 5) (lv' := [(3, .int 5), (2, .int 14), (0, .ref h0), (1, .int 1)]) hx hb dX12_keeps_51 hl (k := 0) rfl (by decide) (by decide) rfl (fun ls hl => ?_)
            refine lv_goto (tgt := 29) hx hb dX12_keeps_54 (by decide) ?_
            refine lv_iload_n hx hb dX12_keeps_29 rfl (lv_at hl 0 rfl) ?_
            refine lv_bipush (v := 12) hx hb dX12_keeps_30 (by decide) ?_
            refine lv_icmp_ge (tgt := 57) hx hb dX12_keeps_32 (by decide) (fun c1383 => ?_) (fun c1383 => ?_)
            · exact absurd c1383 (by decide)
            · refine lv_aload_n hx hb dX12_keeps_35 rfl (lv_at hl 2 rfl) ?_
              refine va_get (D := D) (ci := 12) (v := .ref h15) (C := RX12) (T := TX12) (N := 24) hx hb hts hin12 hown hK hP 0 rfl rfl 22 (by decide) (hts (.fieldLink RX12 56 "MissedPointsModel" "kept" "[I") (by decide +kernel)) (fun _ h9 => h9) rfl dX12_keeps_36 ?_
              refine lv_iload_n hx hb dX12_keeps_39 rfl (lv_at hl 1 rfl) ?_
              refine lv_iconst (v := 2) hx hb dX12_keeps_40 (by decide) ?_
              refine lv_iadd hx hb dX12_keeps_41 ?_
              refine lz_top (y := 16) (by decide) ?_
              refine lv_iload_n hx hb dX12_keeps_42 rfl (lv_at hl 0 rfl) ?_
              refine lv_iadd hx hb dX12_keeps_43 ?_
              refine lz_top (y := 21) (by decide) ?_
              refine lv_aload_n hx hb dX12_keeps_44 rfl (lv_at hl 2 rfl) ?_
              refine va_get (D := D) (ci := 12) (v := .ref h1) (C := RX12) (T := TX12) (N := 24) hx hb hts hin12 hown hK hP 0 rfl rfl 2 (by decide) (hts (.fieldLink RX12 13 "MissedPointsModel" "near" "[I") (by decide +kernel)) (fun _ h9 => h9) rfl dX12_keeps_45 ?_
              refine lv_iload_n hx hb dX12_keeps_48 rfl (lv_at hl 0 rfl) ?_
              refine va_iald hx hb hK hP 1 0 rfl rfl (lz_vp (x := 5) (n := 12) (by decide) (by decide)) dX12_keeps_49 ?_
              refine lz_top (y := 0) rfl ?_
              refine va_iast hx hb hK hP hD hS 2 0 rfl rfl (lz_vp (x := 21) (n := 28) (by decide) (by decide)) dX12_keeps_50 (fun H locs hP hD hS => ?_)
              have hP : va_P D cls [(h0, .inr (12, [.int 0, .int 1, .ref h1, .ref h2, .ref h3, .ref h4, .ref h5, .ref h6, .ref h7, .ref h8, .int 0, .int 0, .int 0, .int 0, .int 0, .int 0, .ref h9, .ref h10, .ref h11, .ref h12, .ref h13, .ref h14, .ref h15, .int 0])), (h1, .inl (cI, 12, .inl (fun _ => 0))), (h15, .inl (cI, 28, .inl (upd (upd (upd (upd (upd (upd (upd (fun _ => 0) 15 1) 16 0) 17 0) 18 0) 19 0) 20 0) 21 0)))] H := hP
              have hD : va_D A [(h0, .inr (12, [.int 0, .int 1, .ref h1, .ref h2, .ref h3, .ref h4, .ref h5, .ref h6, .ref h7, .ref h8, .int 0, .int 0, .int 0, .int 0, .int 0, .int 0, .ref h9, .ref h10, .ref h11, .ref h12, .ref h13, .ref h14, .ref h15, .int 0])), (h1, .inl (cI, 12, .inl (fun _ => 0))), (h15, .inl (cI, 28, .inl (upd (upd (upd (upd (upd (upd (upd (fun _ => 0) 15 1) 16 0) 17 0) 18 0) 19 0) 20 0) 21 0)))] := hD
              refine lv_iinc (v := 6) (lv' := [(3, .int 6), (2, .int 14), (0, .ref h0), (1, .int 1)]) hx hb dX12_keeps_51 hl (k := 0) rfl (by decide) (by decide) rfl (fun ls hl => ?_)
              refine lv_goto (tgt := 29) hx hb dX12_keeps_54 (by decide) ?_
              refine lv_iload_n hx hb dX12_keeps_29 rfl (lv_at hl 0 rfl) ?_
              refine lv_bipush (v := 12) hx hb dX12_keeps_30 (by decide) ?_
              refine lv_icmp_ge (tgt := 57) hx hb dX12_keeps_32 (by decide) (fun c1384 => ?_) (fun c1384 => ?_)
              · exact absurd c1384 (by decide)
              · refine lv_aload_n hx hb dX12_keeps_35 rfl (lv_at hl 2 rfl) ?_
                refine va_get (D := D) (ci := 12) (v := .ref h15) (C := RX12) (T := TX12) (N := 24) hx hb hts hin12 hown hK hP 0 rfl rfl 22 (by decide) (hts (.fieldLink RX12 56 "MissedPointsModel" "kept" "[I") (by decide +kernel)) (fun _ h9 => h9) rfl dX12_keeps_36 ?_
                refine lv_iload_n hx hb dX12_keeps_39 rfl (lv_at hl 1 rfl) ?_
                refine lv_iconst (v := 2) hx hb dX12_keeps_40 (by decide) ?_
                refine lv_iadd hx hb dX12_keeps_41 ?_
                refine lz_top (y := 16) (by decide) ?_
                refine lv_iload_n hx hb dX12_keeps_42 rfl (lv_at hl 0 rfl) ?_
                refine lv_iadd hx hb dX12_keeps_43 ?_
                refine lz_top (y := 22) (by decide) ?_
                refine lv_aload_n hx hb dX12_keeps_44 rfl (lv_at hl 2 rfl) ?_
                refine va_get (D := D) (ci := 12) (v := .ref h1) (C := RX12) (T := TX12) (N := 24) hx hb hts hin12 hown hK hP 0 rfl rfl 2 (by decide) (hts (.fieldLink RX12 13 "MissedPointsModel" "near" "[I") (by decide +kernel)) (fun _ h9 => h9) rfl dX12_keeps_45 ?_
                refine lv_iload_n hx hb dX12_keeps_48 rfl (lv_at hl 0 rfl) ?_
                refine va_iald hx hb hK hP 1 0 rfl rfl (lz_vp (x := 6) (n := 12) (by decide) (by decide)) dX12_keeps_49 ?_
                refine lz_top (y := 0) rfl ?_
                refine va_iast hx hb hK hP hD hS 2 0 rfl rfl (lz_vp (x := 22) (n := 28) (by decide) (by decide)) dX12_keeps_50 (fun H locs hP hD hS => ?_)
                have hP : va_P D cls [(h0, .inr (12, [.int 0, .int 1, .ref h1, .ref h2, .ref h3, .ref h4, .ref h5, .ref h6, .ref h7, .ref h8, .int 0, .int 0, .int 0, .int 0, .int 0, .int 0, .ref h9, .ref h10, .ref h11, .ref h12, .ref h13, .ref h14, .ref h15, .int 0])), (h1, .inl (cI, 12, .inl (fun _ => 0))), (h15, .inl (cI, 28, .inl (upd (upd (upd (upd (upd (upd (upd (upd (fun _ => 0) 15 1) 16 0) 17 0) 18 0) 19 0) 20 0) 21 0) 22 0)))] H := hP
                have hD : va_D A [(h0, .inr (12, [.int 0, .int 1, .ref h1, .ref h2, .ref h3, .ref h4, .ref h5, .ref h6, .ref h7, .ref h8, .int 0, .int 0, .int 0, .int 0, .int 0, .int 0, .ref h9, .ref h10, .ref h11, .ref h12, .ref h13, .ref h14, .ref h15, .int 0])), (h1, .inl (cI, 12, .inl (fun _ => 0))), (h15, .inl (cI, 28, .inl (upd (upd (upd (upd (upd (upd (upd (upd (fun _ => 0) 15 1) 16 0) 17 0) 18 0) 19 0) 20 0) 21 0) 22 0)))] := hD
                refine lv_iinc (v := 7) (lv' := [(3, .int 7), (2, .int 14), (0, .ref h0), (1, .int 1)]) hx hb dX12_keeps_51 hl (k := 0) rfl (by decide) (by decide) rfl (fun ls hl => ?_)
                refine lv_goto (tgt := 29) hx hb dX12_keeps_54 (by decide) ?_
                refine lv_iload_n hx hb dX12_keeps_29 rfl (lv_at hl 0 rfl) ?_
                refine lv_bipush (v := 12) hx hb dX12_keeps_30 (by decide) ?_
                refine lv_icmp_ge (tgt := 57) hx hb dX12_keeps_32 (by decide) (fun c1385 => ?_) (fun c1385 => ?_)
                · exact absurd c1385 (by decide)
                · refine lv_aload_n hx hb dX12_keeps_35 rfl (lv_at hl 2 rfl) ?_
                  refine va_get (D := D) (ci := 12) (v := .ref h15) (C := RX12) (T := TX12) (N := 24) hx hb hts hin12 hown hK hP 0 rfl rfl 22 (by decide) (hts (.fieldLink RX12 56 "MissedPointsModel" "kept" "[I") (by decide +kernel)) (fun _ h9 => h9) rfl dX12_keeps_36 ?_
                  refine lv_iload_n hx hb dX12_keeps_39 rfl (lv_at hl 1 rfl) ?_
                  refine lv_iconst (v := 2) hx hb dX12_keeps_40 (by decide) ?_
                  refine lv_iadd hx hb dX12_keeps_41 ?_
                  refine lz_top (y := 16) (by decide) ?_
                  refine lv_iload_n hx hb dX12_keeps_42 rfl (lv_at hl 0 rfl) ?_
                  refine lv_iadd hx hb dX12_keeps_43 ?_
                  refine lz_top (y := 23) (by decide) ?_
                  refine lv_aload_n hx hb dX12_keeps_44 rfl (lv_at hl 2 rfl) ?_
                  refine va_get (D := D) (ci := 12) (v := .ref h1) (C := RX12) (T := TX12) (N := 24) hx hb hts hin12 hown hK hP 0 rfl rfl 2 (by decide) (hts (.fieldLink RX12 13 "MissedPointsModel" "near" "[I") (by decide +kernel)) (fun _ h9 => h9) rfl dX12_keeps_45 ?_
                  refine lv_iload_n hx hb dX12_keeps_48 rfl (lv_at hl 0 rfl) ?_
                  refine va_iald hx hb hK hP 1 0 rfl rfl (lz_vp (x := 7) (n := 12) (by decide) (by decide)) dX12_keeps_49 ?_
                  refine lz_top (y := 0) rfl ?_
                  refine va_iast hx hb hK hP hD hS 2 0 rfl rfl (lz_vp (x := 23) (n := 28) (by decide) (by decide)) dX12_keeps_50 (fun H locs hP hD hS => ?_)
                  have hP : va_P D cls [(h0, .inr (12, [.int 0, .int 1, .ref h1, .ref h2, .ref h3, .ref h4, .ref h5, .ref h6, .ref h7, .ref h8, .int 0, .int 0, .int 0, .int 0, .int 0, .int 0, .ref h9, .ref h10, .ref h11, .ref h12, .ref h13, .ref h14, .ref h15, .int 0])), (h1, .inl (cI, 12, .inl (fun _ => 0))), (h15, .inl (cI, 28, .inl (upd (upd (upd (upd (upd (upd (upd (upd (upd (fun _ => 0) 15 1) 16 0) 17 0) 18 0) 19 0) 20 0) 21 0) 22 0) 23 0)))] H := hP
                  have hD : va_D A [(h0, .inr (12, [.int 0, .int 1, .ref h1, .ref h2, .ref h3, .ref h4, .ref h5, .ref h6, .ref h7, .ref h8, .int 0, .int 0, .int 0, .int 0, .int 0, .int 0, .ref h9, .ref h10, .ref h11, .ref h12, .ref h13, .ref h14, .ref h15, .int 0])), (h1, .inl (cI, 12, .inl (fun _ => 0))), (h15, .inl (cI, 28, .inl (upd (upd (upd (upd (upd (upd (upd (upd (upd (fun _ => 0) 15 1) 16 0) 17 0) 18 0) 19 0) 20 0) 21 0) 22 0) 23 0)))] := hD
                  refine lv_iinc (v := 8) (lv' := [(3, .int 8), (2, .int 14), (0, .ref h0), (1, .int 1)]) hx hb dX12_keeps_51 hl (k := 0) rfl (by decide) (by decide) rfl (fun ls hl => ?_)
                  refine lv_goto (tgt := 29) hx hb dX12_keeps_54 (by decide) ?_
                  refine lv_iload_n hx hb dX12_keeps_29 rfl (lv_at hl 0 rfl) ?_
                  refine lv_bipush (v := 12) hx hb dX12_keeps_30 (by decide) ?_
                  refine lv_icmp_ge (tgt := 57) hx hb dX12_keeps_32 (by decide) (fun c1386 => ?_) (fun c1386 => ?_)
                  · exact absurd c1386 (by decide)
                  · refine lv_aload_n hx hb dX12_keeps_35 rfl (lv_at hl 2 rfl) ?_
                    refine va_get (D := D) (ci := 12) (v := .ref h15) (C := RX12) (T := TX12) (N := 24) hx hb hts hin12 hown hK hP 0 rfl rfl 22 (by decide) (hts (.fieldLink RX12 56 "MissedPointsModel" "kept" "[I") (by decide +kernel)) (fun _ h9 => h9) rfl dX12_keeps_36 ?_
                    refine lv_iload_n hx hb dX12_keeps_39 rfl (lv_at hl 1 rfl) ?_
                    refine lv_iconst (v := 2) hx hb dX12_keeps_40 (by decide) ?_
                    refine lv_iadd hx hb dX12_keeps_41 ?_
                    refine lz_top (y := 16) (by decide) ?_
                    refine lv_iload_n hx hb dX12_keeps_42 rfl (lv_at hl 0 rfl) ?_
                    refine lv_iadd hx hb dX12_keeps_43 ?_
                    refine lz_top (y := 24) (by decide) ?_
                    refine lv_aload_n hx hb dX12_keeps_44 rfl (lv_at hl 2 rfl) ?_
                    refine va_get (D := D) (ci := 12) (v := .ref h1) (C := RX12) (T := TX12) (N := 24) hx hb hts hin12 hown hK hP 0 rfl rfl 2 (by decide) (hts (.fieldLink RX12 13 "MissedPointsModel" "near" "[I") (by decide +kernel)) (fun _ h9 => h9) rfl dX12_keeps_45 ?_
                    refine lv_iload_n hx hb dX12_keeps_48 rfl (lv_at hl 0 rfl) ?_
                    refine va_iald hx hb hK hP 1 0 rfl rfl (lz_vp (x := 8) (n := 12) (by decide) (by decide)) dX12_keeps_49 ?_
                    refine lz_top (y := 0) rfl ?_
                    refine va_iast hx hb hK hP hD hS 2 0 rfl rfl (lz_vp (x := 24) (n := 28) (by decide) (by decide)) dX12_keeps_50 (fun H locs hP hD hS => ?_)
                    have hP : va_P D cls [(h0, .inr (12, [.int 0, .int 1, .ref h1, .ref h2, .ref h3, .ref h4, .ref h5, .ref h6, .ref h7, .ref h8, .int 0, .int 0, .int 0, .int 0, .int 0, .int 0, .ref h9, .ref h10, .ref h11, .ref h12, .ref h13, .ref h14, .ref h15, .int 0])), (h1, .inl (cI, 12, .inl (fun _ => 0))), (h15, .inl (cI, 28, .inl (upd (upd (upd (upd (upd (upd (upd (upd (upd (upd (fun _ => 0) 15 1) 16 0) 17 0) 18 0) 19 0) 20 0) 21 0) 22 0) 23 0) 24 0)))] H := hP
                    have hD : va_D A [(h0, .inr (12, [.int 0, .int 1, .ref h1, .ref h2, .ref h3, .ref h4, .ref h5, .ref h6, .ref h7, .ref h8, .int 0, .int 0, .int 0, .int 0, .int 0, .int 0, .ref h9, .ref h10, .ref h11, .ref h12, .ref h13, .ref h14, .ref h15, .int 0])), (h1, .inl (cI, 12, .inl (fun _ => 0))), (h15, .inl (cI, 28, .inl (upd (upd (upd (upd (upd (upd (upd (upd (upd (upd (fun _ => 0) 15 1) 16 0) 17 0) 18 0) 19 0) 20 0) 21 0) 22 0) 23 0) 24 0)))] := hD
                    refine lv_iinc (v := 9) (lv' := [(3, .int 9), (2, .int 14), (0, .ref h0), (1, .int 1)]) hx hb dX12_keeps_51 hl (k := 0) rfl (by decide) (by decide) rfl (fun ls hl => ?_)
                    refine lv_goto (tgt := 29) hx hb dX12_keeps_54 (by decide) ?_
                    refine lv_iload_n hx hb dX12_keeps_29 rfl (lv_at hl 0 rfl) ?_
                    refine lv_bipush (v := 12) hx hb dX12_keeps_30 (by decide) ?_
                    refine lv_icmp_ge (tgt := 57) hx hb dX12_keeps_32 (by decide) (fun c1387 => ?_) (fun c1387 => ?_)
                    · exact absurd c1387 (by decide)
                    · refine lv_aload_n hx hb dX12_keeps_35 rfl (lv_at hl 2 rfl) ?_
                      refine va_get (D := D) (ci := 12) (v := .ref h15) (C := RX12) (T := TX12) (N := 24) hx hb hts hin12 hown hK hP 0 rfl rfl 22 (by decide) (hts (.fieldLink RX12 56 "MissedPointsModel" "kept" "[I") (by decide +kernel)) (fun _ h9 => h9) rfl dX12_keeps_36 ?_
                      refine lv_iload_n hx hb dX12_keeps_39 rfl (lv_at hl 1 rfl) ?_
                      refine lv_iconst (v := 2) hx hb dX12_keeps_40 (by decide) ?_
                      refine lv_iadd hx hb dX12_keeps_41 ?_
                      refine lz_top (y := 16) (by decide) ?_
                      refine lv_iload_n hx hb dX12_keeps_42 rfl (lv_at hl 0 rfl) ?_
                      refine lv_iadd hx hb dX12_keeps_43 ?_
                      refine lz_top (y := 25) (by decide) ?_
                      refine lv_aload_n hx hb dX12_keeps_44 rfl (lv_at hl 2 rfl) ?_
                      refine va_get (D := D) (ci := 12) (v := .ref h1) (C := RX12) (T := TX12) (N := 24) hx hb hts hin12 hown hK hP 0 rfl rfl 2 (by decide) (hts (.fieldLink RX12 13 "MissedPointsModel" "near" "[I") (by decide +kernel)) (fun _ h9 => h9) rfl dX12_keeps_45 ?_
                      refine lv_iload_n hx hb dX12_keeps_48 rfl (lv_at hl 0 rfl) ?_
                      refine va_iald hx hb hK hP 1 0 rfl rfl (lz_vp (x := 9) (n := 12) (by decide) (by decide)) dX12_keeps_49 ?_
                      refine lz_top (y := 0) rfl ?_
                      refine va_iast hx hb hK hP hD hS 2 0 rfl rfl (lz_vp (x := 25) (n := 28) (by decide) (by decide)) dX12_keeps_50 (fun H locs hP hD hS => ?_)
                      have hP : va_P D cls [(h0, .inr (12, [.int 0, .int 1, .ref h1, .ref h2, .ref h3, .ref h4, .ref h5, .ref h6, .ref h7, .ref h8, .int 0, .int 0, .int 0, .int 0, .int 0, .int 0, .ref h9, .ref h10, .ref h11, .ref h12, .ref h13, .ref h14, .ref h15, .int 0])), (h1, .inl (cI, 12, .inl (fun _ => 0))), (h15, .inl (cI, 28, .inl (upd (upd (upd (upd (upd (upd (upd (upd (upd (upd (upd (fun _ => 0) 15 1) 16 0) 17 0) 18 0) 19 0) 20 0) 21 0) 22 0) 23 0) 24 0) 25 0)))] H := hP
                      have hD : va_D A [(h0, .inr (12, [.int 0, .int 1, .ref h1, .ref h2, .ref h3, .ref h4, .ref h5, .ref h6, .ref h7, .ref h8, .int 0, .int 0, .int 0, .int 0, .int 0, .int 0, .ref h9, .ref h10, .ref h11, .ref h12, .ref h13, .ref h14, .ref h15, .int 0])), (h1, .inl (cI, 12, .inl (fun _ => 0))), (h15, .inl (cI, 28, .inl (upd (upd (upd (upd (upd (upd (upd (upd (upd (upd (upd (fun _ => 0) 15 1) 16 0) 17 0) 18 0) 19 0) 20 0) 21 0) 22 0) 23 0) 24 0) 25 0)))] := hD
                      refine lv_iinc (v := 10) (lv' := [(3, .int 10), (2, .int 14), (0, .ref h0), (1, .int 1)]) hx hb dX12_keeps_51 hl (k := 0) rfl (by decide) (by decide) rfl (fun ls hl => ?_)
                      refine lv_goto (tgt := 29) hx hb dX12_keeps_54 (by decide) ?_
                      refine lv_iload_n hx hb dX12_keeps_29 rfl (lv_at hl 0 rfl) ?_
                      refine lv_bipush (v := 12) hx hb dX12_keeps_30 (by decide) ?_
                      refine lv_icmp_ge (tgt := 57) hx hb dX12_keeps_32 (by decide) (fun c1388 => ?_) (fun c1388 => ?_)
                      · exact absurd c1388 (by decide)
                      · refine lv_aload_n hx hb dX12_keeps_35 rfl (lv_at hl 2 rfl) ?_
                        refine va_get (D := D) (ci := 12) (v := .ref h15) (C := RX12) (T := TX12) (N := 24) hx hb hts hin12 hown hK hP 0 rfl rfl 22 (by decide) (hts (.fieldLink RX12 56 "MissedPointsModel" "kept" "[I") (by decide +kernel)) (fun _ h9 => h9) rfl dX12_keeps_36 ?_
                        refine lv_iload_n hx hb dX12_keeps_39 rfl (lv_at hl 1 rfl) ?_
                        refine lv_iconst (v := 2) hx hb dX12_keeps_40 (by decide) ?_
                        refine lv_iadd hx hb dX12_keeps_41 ?_
                        refine lz_top (y := 16) (by decide) ?_
                        refine lv_iload_n hx hb dX12_keeps_42 rfl (lv_at hl 0 rfl) ?_
                        refine lv_iadd hx hb dX12_keeps_43 ?_
                        refine lz_top (y := 26) (by decide) ?_
                        refine lv_aload_n hx hb dX12_keeps_44 rfl (lv_at hl 2 rfl) ?_
                        refine va_get (D := D) (ci := 12) (v := .ref h1) (C := RX12) (T := TX12) (N := 24) hx hb hts hin12 hown hK hP 0 rfl rfl 2 (by decide) (hts (.fieldLink RX12 13 "MissedPointsModel" "near" "[I") (by decide +kernel)) (fun _ h9 => h9) rfl dX12_keeps_45 ?_
                        refine lv_iload_n hx hb dX12_keeps_48 rfl (lv_at hl 0 rfl) ?_
                        refine va_iald hx hb hK hP 1 0 rfl rfl (lz_vp (x := 10) (n := 12) (by decide) (by decide)) dX12_keeps_49 ?_
                        refine lz_top (y := 0) rfl ?_
                        refine va_iast hx hb hK hP hD hS 2 0 rfl rfl (lz_vp (x := 26) (n := 28) (by decide) (by decide)) dX12_keeps_50 (fun H locs hP hD hS => ?_)
                        have hP : va_P D cls [(h0, .inr (12, [.int 0, .int 1, .ref h1, .ref h2, .ref h3, .ref h4, .ref h5, .ref h6, .ref h7, .ref h8, .int 0, .int 0, .int 0, .int 0, .int 0, .int 0, .ref h9, .ref h10, .ref h11, .ref h12, .ref h13, .ref h14, .ref h15, .int 0])), (h1, .inl (cI, 12, .inl (fun _ => 0))), (h15, .inl (cI, 28, .inl (upd (upd (upd (upd (upd (upd (upd (upd (upd (upd (upd (upd (fun _ => 0) 15 1) 16 0) 17 0) 18 0) 19 0) 20 0) 21 0) 22 0) 23 0) 24 0) 25 0) 26 0)))] H := hP
                        have hD : va_D A [(h0, .inr (12, [.int 0, .int 1, .ref h1, .ref h2, .ref h3, .ref h4, .ref h5, .ref h6, .ref h7, .ref h8, .int 0, .int 0, .int 0, .int 0, .int 0, .int 0, .ref h9, .ref h10, .ref h11, .ref h12, .ref h13, .ref h14, .ref h15, .int 0])), (h1, .inl (cI, 12, .inl (fun _ => 0))), (h15, .inl (cI, 28, .inl (upd (upd (upd (upd (upd (upd (upd (upd (upd (upd (upd (upd (fun _ => 0) 15 1) 16 0) 17 0) 18 0) 19 0) 20 0) 21 0) 22 0) 23 0) 24 0) 25 0) 26 0)))] := hD
                        refine lv_iinc (v := 11) (lv' := [(3, .int 11), (2, .int 14), (0, .ref h0), (1, .int 1)]) hx hb dX12_keeps_51 hl (k := 0) rfl (by decide) (by decide) rfl (fun ls hl => ?_)
                        refine lv_goto (tgt := 29) hx hb dX12_keeps_54 (by decide) ?_
                        refine lv_iload_n hx hb dX12_keeps_29 rfl (lv_at hl 0 rfl) ?_
                        refine lv_bipush (v := 12) hx hb dX12_keeps_30 (by decide) ?_
                        refine lv_icmp_ge (tgt := 57) hx hb dX12_keeps_32 (by decide) (fun c1389 => ?_) (fun c1389 => ?_)
                        · exact absurd c1389 (by decide)
                        · refine lv_aload_n hx hb dX12_keeps_35 rfl (lv_at hl 2 rfl) ?_
                          refine va_get (D := D) (ci := 12) (v := .ref h15) (C := RX12) (T := TX12) (N := 24) hx hb hts hin12 hown hK hP 0 rfl rfl 22 (by decide) (hts (.fieldLink RX12 56 "MissedPointsModel" "kept" "[I") (by decide +kernel)) (fun _ h9 => h9) rfl dX12_keeps_36 ?_
                          refine lv_iload_n hx hb dX12_keeps_39 rfl (lv_at hl 1 rfl) ?_
                          refine lv_iconst (v := 2) hx hb dX12_keeps_40 (by decide) ?_
                          refine lv_iadd hx hb dX12_keeps_41 ?_
                          refine lz_top (y := 16) (by decide) ?_
                          refine lv_iload_n hx hb dX12_keeps_42 rfl (lv_at hl 0 rfl) ?_
                          refine lv_iadd hx hb dX12_keeps_43 ?_
                          refine lz_top (y := 27) (by decide) ?_
                          refine lv_aload_n hx hb dX12_keeps_44 rfl (lv_at hl 2 rfl) ?_
                          refine va_get (D := D) (ci := 12) (v := .ref h1) (C := RX12) (T := TX12) (N := 24) hx hb hts hin12 hown hK hP 0 rfl rfl 2 (by decide) (hts (.fieldLink RX12 13 "MissedPointsModel" "near" "[I") (by decide +kernel)) (fun _ h9 => h9) rfl dX12_keeps_45 ?_
                          refine lv_iload_n hx hb dX12_keeps_48 rfl (lv_at hl 0 rfl) ?_
                          refine va_iald hx hb hK hP 1 0 rfl rfl (lz_vp (x := 11) (n := 12) (by decide) (by decide)) dX12_keeps_49 ?_
                          refine lz_top (y := 0) rfl ?_
                          refine va_iast hx hb hK hP hD hS 2 0 rfl rfl (lz_vp (x := 27) (n := 28) (by decide) (by decide)) dX12_keeps_50 (fun H locs hP hD hS => ?_)
                          have hP : va_P D cls [(h0, .inr (12, [.int 0, .int 1, .ref h1, .ref h2, .ref h3, .ref h4, .ref h5, .ref h6, .ref h7, .ref h8, .int 0, .int 0, .int 0, .int 0, .int 0, .int 0, .ref h9, .ref h10, .ref h11, .ref h12, .ref h13, .ref h14, .ref h15, .int 0])), (h1, .inl (cI, 12, .inl (fun _ => 0))), (h15, .inl (cI, 28, .inl (upd (upd (upd (upd (upd (upd (upd (upd (upd (upd (upd (upd (upd (fun _ => 0) 15 1) 16 0) 17 0) 18 0) 19 0) 20 0) 21 0) 22 0) 23 0) 24 0) 25 0) 26 0) 27 0)))] H := hP
                          have hD : va_D A [(h0, .inr (12, [.int 0, .int 1, .ref h1, .ref h2, .ref h3, .ref h4, .ref h5, .ref h6, .ref h7, .ref h8, .int 0, .int 0, .int 0, .int 0, .int 0, .int 0, .ref h9, .ref h10, .ref h11, .ref h12, .ref h13, .ref h14, .ref h15, .int 0])), (h1, .inl (cI, 12, .inl (fun _ => 0))), (h15, .inl (cI, 28, .inl (upd (upd (upd (upd (upd (upd (upd (upd (upd (upd (upd (upd (upd (fun _ => 0) 15 1) 16 0) 17 0) 18 0) 19 0) 20 0) 21 0) 22 0) 23 0) 24 0) 25 0) 26 0) 27 0)))] := hD
                          refine lv_iinc (v := 12) (lv' := [(3, .int 12), (2, .int 14), (0, .ref h0), (1, .int 1)]) hx hb dX12_keeps_51 hl (k := 0) rfl (by decide) (by decide) rfl (fun ls hl => ?_)
                          refine lv_goto (tgt := 29) hx hb dX12_keeps_54 (by decide) ?_
                          refine lv_iload_n hx hb dX12_keeps_29 rfl (lv_at hl 0 rfl) ?_
                          refine lv_bipush (v := 12) hx hb dX12_keeps_30 (by decide) ?_
                          refine lv_icmp_ge (tgt := 57) hx hb dX12_keeps_32 (by decide) (fun c1390 => ?_) (fun c1390 => ?_)
                          · have hP9 := hP.sub (ws' := [(h0, .inr (12, [.int 0, .int 1, .ref h1, .ref h2, .ref h3, .ref h4, .ref h5, .ref h6, .ref h7, .ref h8, .int 0, .int 0, .int 0, .int 0, .int 0, .int 0, .ref h9, .ref h10, .ref h11, .ref h12, .ref h13, .ref h14, .ref h15, .int 0])), (h1, .inl (cI, 12, .inl (fun _ => 0))), (h15, .inl (cI, 28, .inl (upd (upd (upd (upd (upd (upd (upd (upd (upd (upd (upd (upd (upd (fun _ => 0) 15 1) 16 0) 17 0) 18 0) 19 0) 20 0) 21 0) 22 0) 23 0) 24 0) 25 0) 26 0) 27 0)))]) [0, 1, 2] rfl
                            have hD9 := hD.sub (ws' := [(h0, .inr (12, [.int 0, .int 1, .ref h1, .ref h2, .ref h3, .ref h4, .ref h5, .ref h6, .ref h7, .ref h8, .int 0, .int 0, .int 0, .int 0, .int 0, .int 0, .ref h9, .ref h10, .ref h11, .ref h12, .ref h13, .ref h14, .ref h15, .int 0])), (h1, .inl (cI, 12, .inl (fun _ => 0))), (h15, .inl (cI, 28, .inl (upd (upd (upd (upd (upd (upd (upd (upd (upd (upd (upd (upd (upd (fun _ => 0) 15 1) 16 0) 17 0) 18 0) 19 0) 20 0) 21 0) 22 0) 23 0) 24 0) 25 0) 26 0) 27 0)))]) [0, 1, 2] (by decide) rfl
                            subst hAe
                            exact W.vret hx hb hr (fun t ht hW => ⟨⟨(), rfl, trivial, by rw [ht]; exact hP9, hD9⟩, hS.F ht⟩) hS.2.2 dX12_keeps_57
                          · exact absurd c1390 (by decide)
set_option maxHeartbeats 4000000 in
set_option maxRecDepth 100000 in
theorem c_X12_isAt_0 (l : Launch) (D : va_G) (cI cS : ClassId) (h0 h1 h2 h3 h4 h5 h6 h7 h8 h9 h10 h11 h12 h13 h14 h15 : Nat) : Met l yX12_isAt wsX12_isAt ({ frames := 0, cells := 0, slots := 0, locals := 0 }) (PS D cI cS [(h0, .inr (12, [.int 0, .int 1, .ref h1, .ref h2, .ref h3, .ref h4, .ref h5, .ref h6, .ref h7, .ref h8, .int 0, .int 0, .int 0, .int 0, .int 0, .int 0, .ref h9, .ref h10, .ref h11, .ref h12, .ref h13, .ref h14, .ref h15, .int 0]))] [.ref h0, .int 32, .int 32]) (vp_Si (fun r => r = (0 : Int32))) 0 0 (fun _ => False) := by
  refine Met.ofW (cc := cX12_isAt) (maxL := 3) (ret := (some .boolean)) (by decide) rfl ?_
  intro p e s m args below meth c s₁ B hml hv
  obtain ⟨rfl, hP, hKK⟩ := hv
  have hx := B.exec
  have hb := B.bytes
  have hr := B.returns
  have hts := atoms_spec (ws := wsX12_isAt) B.pre
  have hown : s.vm.findClass RX12 = some m.cls := findClass_of_methodNamed B.named
  have hlocks := B.notSynchronized
  have hK := hKK.1
  have hN := hKK.2
  have hin12 : ∀ w ∈ wsX120, w ∈ wsX12_isAt := by decide +kernel
  have hl := lv_entry ([.ref h0, .int 32, .int 32]) (n := 3) (Nat.le_of_ble_eq_true rfl)
  rw [lg_entry_eq]
  generalize (lg_sl ([.ref h0, .int 32, .int 32]) ++ List.replicate (3 - (lg_sl ([.ref h0, .int 32, .int 32])).length) Slot.unset).toArray = ls at hl ⊢
  have hl : lv_has ls 3 [(0, .ref h0), (1, .int 32), (2, .int 32)] := hl
  refine lv_aload_n hx hb dX12_isAt_0 rfl (lv_at hl 0 rfl) ?_
  refine va_get (D := D) (ci := 12) (v := .int 0) (C := RX12) (T := TX12) (N := 24) hx hb hts hin12 hown hK hP 0 rfl rfl 12 (by decide) (hts (.fieldLink RX12 169 "MissedPointsModel" "to" "I") (by decide +kernel)) (fun _ h9 => h9) rfl dX12_isAt_1 ?_
  refine lv_aload_n hx hb dX12_isAt_4 rfl (lv_at hl 0 rfl) ?_
  refine va_get (D := D) (ci := 12) (v := .int 0) (C := RX12) (T := TX12) (N := 24) hx hb hts hin12 hown hK hP 0 rfl rfl 10 (by decide) (hts (.fieldLink RX12 101 "MissedPointsModel" "taped" "I") (by decide +kernel)) (fun _ h9 => h9) rfl dX12_isAt_5 ?_
  refine lv_icmp_ge (tgt := 32) hx hb dX12_isAt_8 (by decide) (fun c1393 => ?_) (fun c1393 => ?_)
  · refine lv_iconst (v := 0) hx hb dX12_isAt_32 (by decide) ?_
    exact W.zret (v := 0) hx hb hr (by decide) (fun t ht hW => ⟨_, rfl, rfl, ht⟩) (fun q hq => absurd hq List.not_mem_nil) dX12_isAt_33
  · exact absurd c1393 (by decide)
set_option maxHeartbeats 4000000 in
set_option maxRecDepth 100000 in
theorem c_X12_goesOn_0 (l : Launch) (D : va_G) (cI cS : ClassId) (sz : Nat) (h0 h1 h2 h3 h4 h5 h6 h7 h8 h9 h10 h11 h12 h13 h14 h15 : Nat) : Met l yX12_goesOn wsX12_goesOn ({ frames := 1, cells := 0, slots := 0, locals := 40 }) (PQ D cI cS [(h0, .inr (12, [.int 0, .int 1, .ref h1, .ref h2, .ref h3, .ref h4, .ref h5, .ref h6, .ref h7, .ref h8, .int 0, .int 0, .int 0, .int 0, .int 0, .int 0, .ref h9, .ref h10, .ref h11, .ref h12, .ref h13, .ref h14, .ref h15, .int 0]))] sz [.ref h0]) (QV D [(h0, .inr (12, [.int 0, .int 1, .ref h1, .ref h2, .ref h3, .ref h4, .ref h5, .ref h6, .ref h7, .ref h8, .int 0, .int 0, .int 0, .int 0, .int 0, .int 0, .ref h9, .ref h10, .ref h11, .ref h12, .ref h13, .ref h14, .ref h15, .int 0]))] [(h0, .inr (12, [.int 0, .int 1, .ref h1, .ref h2, .ref h3, .ref h4, .ref h5, .ref h6, .ref h7, .ref h8, .int 0, .int 0, .int 0, .int 0, .int 0, .int 0, .ref h9, .ref h10, .ref h11, .ref h12, .ref h13, .ref h14, .ref h15, .int 0]))] sz) 0 0 (va_A [(h0, .inr (12, [.int 0, .int 1, .ref h1, .ref h2, .ref h3, .ref h4, .ref h5, .ref h6, .ref h7, .ref h8, .int 0, .int 0, .int 0, .int 0, .int 0, .int 0, .ref h9, .ref h10, .ref h11, .ref h12, .ref h13, .ref h14, .ref h15, .int 0]))] sz) := by
  refine Met.ofW (cc := cX12_goesOn) (maxL := 1) (ret := none) (by decide) rfl ?_
  intro p e s m args below meth c s₁ B hml hv
  obtain ⟨rfl, hsz, hP, hKK, hD0⟩ := hv
  have hx := B.exec
  have hb := B.bytes
  have hr := B.returns
  have hts := atoms_spec (ws := wsX12_goesOn) B.pre
  have hown : s.vm.findClass RX12 = some m.cls := findClass_of_methodNamed B.named
  have hlocks := B.notSynchronized
  have hK := hKK.1
  have hN := hKK.2
  have hin12 : ∀ w ∈ wsX120, w ∈ wsX12_goesOn := by decide +kernel
  subst hsz
  have hD := hD0.self (sz := s.heap.size)
  obtain ⟨A, hAe⟩ : ∃ A, A = va_A [(h0, .inr (12, [.int 0, .int 1, .ref h1, .ref h2, .ref h3, .ref h4, .ref h5, .ref h6, .ref h7, .ref h8, .int 0, .int 0, .int 0, .int 0, .int 0, .int 0, .ref h9, .ref h10, .ref h11, .ref h12, .ref h13, .ref h14, .ref h15, .int 0]))] s.heap.size := ⟨_, rfl⟩
  rw [← hAe] at hD
  have hA : ∀ q : Nat, s.heap.size ≤ q → A q := fun q h => by rw [hAe]; exact Or.inr h
  have hS : va_S A s.heap s.heap [] := va_S.rf
  have hl := lv_entry ([.ref h0]) (n := 1) (Nat.le_of_ble_eq_true rfl)
  rw [lg_entry_eq]
  generalize (lg_sl ([.ref h0]) ++ List.replicate (1 - (lg_sl ([.ref h0])).length) Slot.unset).toArray = ls at hl ⊢
  have hl : lv_has ls 1 [(0, .ref h0)] := hl
  refine lv_aload_n hx hb dX12_goesOn_0 rfl (lv_at hl 0 rfl) ?_
  refine lv_bipush (v := 32) hx hb dX12_goesOn_1 (by decide) ?_
  refine lv_bipush (v := 32) hx hb dX12_goesOn_3 (by decide) ?_
  have hPc := hP.sub (ws' := [(h0, .inr (12, [.int 0, .int 1, .ref h1, .ref h2, .ref h3, .ref h4, .ref h5, .ref h6, .ref h7, .ref h8, .int 0, .int 0, .int 0, .int 0, .int 0, .int 0, .ref h9, .ref h10, .ref h11, .ref h12, .ref h13, .ref h14, .ref h15, .int 0]))]) [0] rfl
  refine lz_sv (As := [.int 32, .int 32]) (rest := []) ⟨hx, hb, hml, hown, hts⟩ (c_X12_isAt_0 l D cI cS h0 h1 h2 h3 h4 h5 h6 h7 h8 h9 h10 h11 h12 h13 h14 h15) hKK hPc (ci := 12) rfl rfl (cwV 2 hts gX12_goesOn_X12_isAt rfl rfl rfl (by decide +kernel) ⟨Nat.le_of_ble_eq_true rfl, Nat.le_of_ble_eq_true rfl⟩) rfl hl.1 rfl (Nat.le_of_ble_eq_true rfl) dX12_goesOn_5 ⟨Nat.le_of_ble_eq_true rfl, Nat.le_of_ble_eq_true rfl⟩ (fun r1397 hw => ?_)
  subst hw
  refine lv_if_eq (tgt := 24) hx hb dX12_goesOn_8 (by decide) (fun c1398 => ?_) (fun c1398 => ?_)
  · refine lv_aload_n hx hb dX12_goesOn_24 rfl (lv_at hl 0 rfl) ?_
    refine lv_aload_n hx hb dX12_goesOn_25 rfl (lv_at hl 0 rfl) ?_
    refine va_get (D := D) (ci := 12) (v := .int 0) (C := RX12) (T := TX12) (N := 24) hx hb hts hin12 hown hK hP 0 rfl rfl 12 (by decide) (hts (.fieldLink RX12 169 "MissedPointsModel" "to" "I") (by decide +kernel)) (fun _ h9 => h9) rfl dX12_goesOn_26 ?_
    refine va_put (D := D) (ci := 12) (v := .int 0) (ty := .int) (C := RX12) (T := TX12) (N := 24) hx hb hts hin12 tyX12 tyX12_ok nmX12 hown hK hP hD hS 0 rfl rfl 11 (by decide) (hts (.fieldLink RX12 175 "MissedPointsModel" "from" "I") (by decide +kernel)) (fun _ h9 => h9) rfl (by decide +kernel) rfl rfl (Nat.le_of_ble_eq_true rfl) dX12_goesOn_29 (fun H locs hP hD hS => ?_)
    have hP : va_P D cls [(h0, .inr (12, [.int 0, .int 1, .ref h1, .ref h2, .ref h3, .ref h4, .ref h5, .ref h6, .ref h7, .ref h8, .int 0, .int 0, .int 0, .int 0, .int 0, .int 0, .ref h9, .ref h10, .ref h11, .ref h12, .ref h13, .ref h14, .ref h15, .int 0]))] H := hP
    have hD : va_D A [(h0, .inr (12, [.int 0, .int 1, .ref h1, .ref h2, .ref h3, .ref h4, .ref h5, .ref h6, .ref h7, .ref h8, .int 0, .int 0, .int 0, .int 0, .int 0, .int 0, .ref h9, .ref h10, .ref h11, .ref h12, .ref h13, .ref h14, .ref h15, .int 0]))] := hD
    refine lv_aload_n hx hb dX12_goesOn_32 rfl (lv_at hl 0 rfl) ?_
    refine lv_iconst (v := 0) hx hb dX12_goesOn_33 (by decide) ?_
    refine va_put (D := D) (ci := 12) (v := .int 0) (ty := .int) (C := RX12) (T := TX12) (N := 24) hx hb hts hin12 tyX12 tyX12_ok nmX12 hown hK hP hD hS 0 rfl rfl 14 (by decide) (hts (.fieldLink RX12 178 "MissedPointsModel" "worth" "I") (by decide +kernel)) (fun _ h9 => h9) rfl (by decide +kernel) rfl rfl (Nat.le_of_ble_eq_true rfl) dX12_goesOn_34 (fun H locs hP hD hS => ?_)
    have hP : va_P D cls [(h0, .inr (12, [.int 0, .int 1, .ref h1, .ref h2, .ref h3, .ref h4, .ref h5, .ref h6, .ref h7, .ref h8, .int 0, .int 0, .int 0, .int 0, .int 0, .int 0, .ref h9, .ref h10, .ref h11, .ref h12, .ref h13, .ref h14, .ref h15, .int 0]))] H := hP
    have hD : va_D A [(h0, .inr (12, [.int 0, .int 1, .ref h1, .ref h2, .ref h3, .ref h4, .ref h5, .ref h6, .ref h7, .ref h8, .int 0, .int 0, .int 0, .int 0, .int 0, .int 0, .ref h9, .ref h10, .ref h11, .ref h12, .ref h13, .ref h14, .ref h15, .int 0]))] := hD
    refine lv_aload_n hx hb dX12_goesOn_37 rfl (lv_at hl 0 rfl) ?_
    refine va_get (D := D) (ci := 12) (v := .int 0) (C := RX12) (T := TX12) (N := 24) hx hb hts hin12 hown hK hP 0 rfl rfl 12 (by decide) (hts (.fieldLink RX12 169 "MissedPointsModel" "to" "I") (by decide +kernel)) (fun _ h9 => h9) rfl dX12_goesOn_38 ?_
    refine lv_aload_n hx hb dX12_goesOn_41 rfl (lv_at hl 0 rfl) ?_
    refine va_get (D := D) (ci := 12) (v := .int 0) (C := RX12) (T := TX12) (N := 24) hx hb hts hin12 hown hK hP 0 rfl rfl 10 (by decide) (hts (.fieldLink RX12 101 "MissedPointsModel" "taped" "I") (by decide +kernel)) (fun _ h9 => h9) rfl dX12_goesOn_42 ?_
    refine lv_icmp_ne (tgt := 56) hx hb dX12_goesOn_45 (by decide) (fun c1399 => ?_) (fun c1399 => ?_)
    · exact absurd c1399 (by decide)
    · refine lv_aload_n hx hb dX12_goesOn_48 rfl (lv_at hl 0 rfl) ?_
      refine lv_iconst (v := 0) hx hb dX12_goesOn_49 (by decide) ?_
      refine va_put (D := D) (ci := 12) (v := .int 0) (ty := .int) (C := RX12) (T := TX12) (N := 24) hx hb hts hin12 tyX12 tyX12_ok nmX12 hown hK hP hD hS 0 rfl rfl 13 (by decide) (hts (.fieldLink RX12 181 "MissedPointsModel" "token" "I") (by decide +kernel)) (fun _ h9 => h9) rfl (by decide +kernel) rfl rfl (Nat.le_of_ble_eq_true rfl) dX12_goesOn_50 (fun H locs hP hD hS => ?_)
      have hP : va_P D cls [(h0, .inr (12, [.int 0, .int 1, .ref h1, .ref h2, .ref h3, .ref h4, .ref h5, .ref h6, .ref h7, .ref h8, .int 0, .int 0, .int 0, .int 0, .int 0, .int 0, .ref h9, .ref h10, .ref h11, .ref h12, .ref h13, .ref h14, .ref h15, .int 0]))] H := hP
      have hD : va_D A [(h0, .inr (12, [.int 0, .int 1, .ref h1, .ref h2, .ref h3, .ref h4, .ref h5, .ref h6, .ref h7, .ref h8, .int 0, .int 0, .int 0, .int 0, .int 0, .int 0, .ref h9, .ref h10, .ref h11, .ref h12, .ref h13, .ref h14, .ref h15, .int 0]))] := hD
      refine lv_goto (tgt := 176) hx hb dX12_goesOn_53 (by decide) ?_
      have hP9 := hP.sub (ws' := [(h0, .inr (12, [.int 0, .int 1, .ref h1, .ref h2, .ref h3, .ref h4, .ref h5, .ref h6, .ref h7, .ref h8, .int 0, .int 0, .int 0, .int 0, .int 0, .int 0, .ref h9, .ref h10, .ref h11, .ref h12, .ref h13, .ref h14, .ref h15, .int 0]))]) [0] rfl
      have hD9 := hD.sub (ws' := [(h0, .inr (12, [.int 0, .int 1, .ref h1, .ref h2, .ref h3, .ref h4, .ref h5, .ref h6, .ref h7, .ref h8, .int 0, .int 0, .int 0, .int 0, .int 0, .int 0, .ref h9, .ref h10, .ref h11, .ref h12, .ref h13, .ref h14, .ref h15, .int 0]))]) [0] (by decide) rfl
      subst hAe
      exact W.vret hx hb hr (fun t ht hW => ⟨⟨(), rfl, trivial, by rw [ht]; exact hP9, hD9⟩, hS.F ht⟩) hS.2.2 dX12_goesOn_176
  · exact absurd c1398 (by decide)
set_option maxHeartbeats 4000000 in
set_option maxRecDepth 100000 in
theorem c_X12_pointRead_0 (l : Launch) (D : va_G) (cI cS : ClassId) (h0 h1 h2 h3 h4 h5 h6 h7 h8 h9 h10 h11 h12 h13 h14 h15 : Nat) : Met l yX12_pointRead wsX12_pointRead ({ frames := 0, cells := 0, slots := 0, locals := 0 }) (PS D cI cS [(h0, .inr (12, [.int 0, .int 1, .ref h1, .ref h2, .ref h3, .ref h4, .ref h5, .ref h6, .ref h7, .ref h8, .int 0, .int 0, .int 0, .int 0, .int 0, .int 0, .ref h9, .ref h10, .ref h11, .ref h12, .ref h13, .ref h14, .ref h15, .int 0]))] [.ref h0, .int 0]) (vp_Si (fun r => r = ((-1) : Int32))) 0 0 (fun _ => False) := by
  refine Met.ofW (cc := cX12_pointRead) (maxL := 3) (ret := (some .int)) (by decide) rfl ?_
  intro p e s m args below meth c s₁ B hml hv
  obtain ⟨rfl, hP, hKK⟩ := hv
  have hx := B.exec
  have hb := B.bytes
  have hr := B.returns
  have hts := atoms_spec (ws := wsX12_pointRead) B.pre
  have hown : s.vm.findClass RX12 = some m.cls := findClass_of_methodNamed B.named
  have hlocks := B.notSynchronized
  have hK := hKK.1
  have hN := hKK.2
  have hin12 : ∀ w ∈ wsX120, w ∈ wsX12_pointRead := by decide +kernel
  have hl := lv_entry ([.ref h0, .int 0]) (n := 3) (Nat.le_of_ble_eq_true rfl)
  rw [lg_entry_eq]
  generalize (lg_sl ([.ref h0, .int 0]) ++ List.replicate (3 - (lg_sl ([.ref h0, .int 0])).length) Slot.unset).toArray = ls at hl ⊢
  have hl : lv_has ls 3 [(0, .ref h0), (1, .int 0)] := hl
  refine lv_aload_n hx hb dX12_pointRead_0 rfl (lv_at hl 0 rfl) ?_
  refine va_get (D := D) (ci := 12) (v := .int 0) (C := RX12) (T := TX12) (N := 24) hx hb hts hin12 hown hK hP 0 rfl rfl 13 (by decide) (hts (.fieldLink RX12 181 "MissedPointsModel" "token" "I") (by decide +kernel)) (fun _ h9 => h9) rfl dX12_pointRead_1 ?_
  refine lv_iconst (v := 1) hx hb dX12_pointRead_4 (by decide) ?_
  refine lv_icmp_ne (tgt := 30) hx hb dX12_pointRead_5 (by decide) (fun c1404 => ?_) (fun c1404 => ?_)
  · refine lv_iconst (v := (-1)) hx hb dX12_pointRead_30 (by decide) ?_
    exact W.iret (v := (-1)) hx hb hr (fun t ht hW => ⟨_, rfl, rfl, ht⟩) (fun q hq => absurd hq List.not_mem_nil) dX12_pointRead_31
  · exact absurd c1404 (by decide)
set_option maxHeartbeats 4000000 in
set_option maxRecDepth 100000 in
theorem c_X12_rowRead_0 (l : Launch) (D : va_G) (cI cS : ClassId) (h0 h1 h2 h3 h4 h5 h6 h7 h8 h9 h10 h11 h12 h13 h14 h15 : Nat) : Met l yX12_rowRead wsX12_rowRead ({ frames := 1, cells := 0, slots := 0, locals := 40 }) (PS D cI cS [(h0, .inr (12, [.int 0, .int 1, .ref h1, .ref h2, .ref h3, .ref h4, .ref h5, .ref h6, .ref h7, .ref h8, .int 0, .int 0, .int 0, .int 0, .int 0, .int 0, .ref h9, .ref h10, .ref h11, .ref h12, .ref h13, .ref h14, .ref h15, .int 0]))] [.ref h0]) (vp_Si (fun r => r = (0 : Int32))) 0 0 (fun _ => False) := by
  refine Met.ofW (cc := cX12_rowRead) (maxL := 3) (ret := (some .boolean)) (by decide) rfl ?_
  intro p e s m args below meth c s₁ B hml hv
  obtain ⟨rfl, hP, hKK⟩ := hv
  have hx := B.exec
  have hb := B.bytes
  have hr := B.returns
  have hts := atoms_spec (ws := wsX12_rowRead) B.pre
  have hown : s.vm.findClass RX12 = some m.cls := findClass_of_methodNamed B.named
  have hlocks := B.notSynchronized
  have hK := hKK.1
  have hN := hKK.2
  have hl := lv_entry ([.ref h0]) (n := 3) (Nat.le_of_ble_eq_true rfl)
  rw [lg_entry_eq]
  generalize (lg_sl ([.ref h0]) ++ List.replicate (3 - (lg_sl ([.ref h0])).length) Slot.unset).toArray = ls at hl ⊢
  have hl : lv_has ls 3 [(0, .ref h0)] := hl
  refine lv_aload_n hx hb dX12_rowRead_0 rfl (lv_at hl 0 rfl) ?_
  refine lv_iconst (v := 0) hx hb dX12_rowRead_1 (by decide) ?_
  have hPc := hP.sub (ws' := [(h0, .inr (12, [.int 0, .int 1, .ref h1, .ref h2, .ref h3, .ref h4, .ref h5, .ref h6, .ref h7, .ref h8, .int 0, .int 0, .int 0, .int 0, .int 0, .int 0, .ref h9, .ref h10, .ref h11, .ref h12, .ref h13, .ref h14, .ref h15, .int 0]))]) [0] rfl
  refine lz_sv (As := [.int 0]) (rest := []) ⟨hx, hb, hml, hown, hts⟩ (c_X12_pointRead_0 l D cI cS h0 h1 h2 h3 h4 h5 h6 h7 h8 h9 h10 h11 h12 h13 h14 h15) hKK hPc (ci := 12) rfl rfl (cwV 1 hts gX12_rowRead_X12_pointRead rfl rfl rfl (by decide +kernel) ⟨Nat.le_of_ble_eq_true rfl, Nat.le_of_ble_eq_true rfl⟩) rfl hl.1 rfl (Nat.le_of_ble_eq_true rfl) dX12_rowRead_2 ⟨Nat.le_of_ble_eq_true rfl, Nat.le_of_ble_eq_true rfl⟩ (fun r1407 hw => ?_)
  subst hw
  refine lv_istore_n (lv' := [(1, .int (-1)), (0, .ref h0)]) hx hb dX12_rowRead_5 rfl hl (by decide) rfl (fun ls hl => ?_)
  refine lv_iload_n hx hb dX12_rowRead_6 rfl (lv_at hl 0 rfl) ?_
  refine lv_iconst (v := (-1)) hx hb dX12_rowRead_7 (by decide) ?_
  refine lv_icmp_ne (tgt := 13) hx hb dX12_rowRead_8 (by decide) (fun c1408 => ?_) (fun c1408 => ?_)
  · exact absurd c1408 (by decide)
  · refine lv_iconst (v := 0) hx hb dX12_rowRead_11 (by decide) ?_
    exact W.zret (v := 0) hx hb hr (by decide) (fun t ht hW => ⟨_, rfl, rfl, ht⟩) (fun q hq => absurd hq List.not_mem_nil) dX12_rowRead_12
set_option maxHeartbeats 4000000 in
set_option maxRecDepth 100000 in
theorem c_X12_isText_0 (l : Launch) (D : va_G) (cI cS : ClassId) (sz : Nat) (h0 h1 h2 h3 h4 h5 h6 h7 h8 h9 h10 h11 h12 h13 h14 h15 : Nat) : Met l yX12_isText wsX12_isText ({ frames := 2, cells := 0, slots := 0, locals := 80 }) (PQ D cI cS [(h0, .inr (12, [.int 0, .int 1, .ref h1, .ref h2, .ref h3, .ref h4, .ref h5, .ref h6, .ref h7, .ref h8, .int 0, .int 0, .int 0, .int 0, .int 0, .int 0, .ref h9, .ref h10, .ref h11, .ref h12, .ref h13, .ref h14, .ref h15, .int 0]))] sz [.ref h0]) (QI D [(h0, .inr (12, [.int 0, .int 1, .ref h1, .ref h2, .ref h3, .ref h4, .ref h5, .ref h6, .ref h7, .ref h8, .int 0, .int 0, .int 0, .int 0, .int 0, .int 0, .ref h9, .ref h10, .ref h11, .ref h12, .ref h13, .ref h14, .ref h15, .int 0]))] [(h0, .inr (12, [.int 0, .int 1, .ref h1, .ref h2, .ref h3, .ref h4, .ref h5, .ref h6, .ref h7, .ref h8, .int 0, .int 0, .int 0, .int 0, .int 0, .int 0, .ref h9, .ref h10, .ref h11, .ref h12, .ref h13, .ref h14, .ref h15, .int 0]))] sz (fun r => r = (0 : Int32))) 0 0 (va_A [(h0, .inr (12, [.int 0, .int 1, .ref h1, .ref h2, .ref h3, .ref h4, .ref h5, .ref h6, .ref h7, .ref h8, .int 0, .int 0, .int 0, .int 0, .int 0, .int 0, .ref h9, .ref h10, .ref h11, .ref h12, .ref h13, .ref h14, .ref h15, .int 0]))] sz) := by
  refine Met.ofW (cc := cX12_isText) (maxL := 1) (ret := (some .boolean)) (by decide) rfl ?_
  intro p e s m args below meth c s₁ B hml hv
  obtain ⟨rfl, hsz, hP, hKK, hD0⟩ := hv
  have hx := B.exec
  have hb := B.bytes
  have hr := B.returns
  have hts := atoms_spec (ws := wsX12_isText) B.pre
  have hown : s.vm.findClass RX12 = some m.cls := findClass_of_methodNamed B.named
  have hlocks := B.notSynchronized
  have hK := hKK.1
  have hN := hKK.2
  have hin12 : ∀ w ∈ wsX120, w ∈ wsX12_isText := by decide +kernel
  subst hsz
  have hD := hD0.self (sz := s.heap.size)
  obtain ⟨A, hAe⟩ : ∃ A, A = va_A [(h0, .inr (12, [.int 0, .int 1, .ref h1, .ref h2, .ref h3, .ref h4, .ref h5, .ref h6, .ref h7, .ref h8, .int 0, .int 0, .int 0, .int 0, .int 0, .int 0, .ref h9, .ref h10, .ref h11, .ref h12, .ref h13, .ref h14, .ref h15, .int 0]))] s.heap.size := ⟨_, rfl⟩
  rw [← hAe] at hD
  have hA : ∀ q : Nat, s.heap.size ≤ q → A q := fun q h => by rw [hAe]; exact Or.inr h
  have hS : va_S A s.heap s.heap [] := va_S.rf
  have hl := lv_entry ([.ref h0]) (n := 1) (Nat.le_of_ble_eq_true rfl)
  rw [lg_entry_eq]
  generalize (lg_sl ([.ref h0]) ++ List.replicate (1 - (lg_sl ([.ref h0])).length) Slot.unset).toArray = ls at hl ⊢
  have hl : lv_has ls 1 [(0, .ref h0)] := hl
  refine lv_aload_n hx hb dX12_isText_0 rfl (lv_at hl 0 rfl) ?_
  refine lv_iconst (v := 0) hx hb dX12_isText_1 (by decide) ?_
  refine va_put (D := D) (ci := 12) (v := .int 0) (ty := .int) (C := RX12) (T := TX12) (N := 24) hx hb hts hin12 tyX12 tyX12_ok nmX12 hown hK hP hD hS 0 rfl rfl 12 (by decide) (hts (.fieldLink RX12 169 "MissedPointsModel" "to" "I") (by decide +kernel)) (fun _ h9 => h9) rfl (by decide +kernel) rfl rfl (Nat.le_of_ble_eq_true rfl) dX12_isText_2 (fun H locs hP hD hS => ?_)
  have hP : va_P D cls [(h0, .inr (12, [.int 0, .int 1, .ref h1, .ref h2, .ref h3, .ref h4, .ref h5, .ref h6, .ref h7, .ref h8, .int 0, .int 0, .int 0, .int 0, .int 0, .int 0, .ref h9, .ref h10, .ref h11, .ref h12, .ref h13, .ref h14, .ref h15, .int 0]))] H := hP
  have hD : va_D A [(h0, .inr (12, [.int 0, .int 1, .ref h1, .ref h2, .ref h3, .ref h4, .ref h5, .ref h6, .ref h7, .ref h8, .int 0, .int 0, .int 0, .int 0, .int 0, .int 0, .ref h9, .ref h10, .ref h11, .ref h12, .ref h13, .ref h14, .ref h15, .int 0]))] := hD
  refine lv_aload_n hx hb dX12_isText_5 rfl (lv_at hl 0 rfl) ?_
  have hPc := hP.sub (ws' := [(h0, .inr (12, [.int 0, .int 1, .ref h1, .ref h2, .ref h3, .ref h4, .ref h5, .ref h6, .ref h7, .ref h8, .int 0, .int 0, .int 0, .int 0, .int 0, .int 0, .ref h9, .ref h10, .ref h11, .ref h12, .ref h13, .ref h14, .ref h15, .int 0]))]) [0] rfl
  have hDc := hD.sub (ws' := [(h0, .inr (12, [.int 0, .int 1, .ref h1, .ref h2, .ref h3, .ref h4, .ref h5, .ref h6, .ref h7, .ref h8, .int 0, .int 0, .int 0, .int 0, .int 0, .int 0, .ref h9, .ref h10, .ref h11, .ref h12, .ref h13, .ref h14, .ref h15, .int 0]))]) [0] (by decide) rfl
  refine lz_qv (wr := []) (w1 := [(h0, .inr (12, [.int 0, .int 1, .ref h1, .ref h2, .ref h3, .ref h4, .ref h5, .ref h6, .ref h7, .ref h8, .int 0, .int 0, .int 0, .int 0, .int 0, .int 0, .ref h9, .ref h10, .ref h11, .ref h12, .ref h13, .ref h14, .ref h15, .int 0]))]) (As := []) (rest := []) ⟨hx, hb, hml, hown, hts⟩ (c_X12_goesOn_0 l D cI cS _ h0 h1 h2 h3 h4 h5 h6 h7 h8 h9 h10 h11 h12 h13 h14 h15) hKK hP hD hS hA [0] [] (by decide) rfl rfl (by decide) (by decide) hPc hDc (ci := 12) rfl rfl (cwV 0 hts gX12_isText_X12_goesOn rfl rfl rfl (by decide +kernel) ⟨Nat.le_of_ble_eq_true rfl, Nat.le_of_ble_eq_true rfl⟩) rfl hl.1 rfl (Nat.le_of_ble_eq_true rfl) dX12_isText_6 ⟨Nat.le_of_ble_eq_true rfl, Nat.le_of_ble_eq_true rfl⟩ (fun H locs hP hD hS => ?_)
  have hP : va_P D cls [(h0, .inr (12, [.int 0, .int 1, .ref h1, .ref h2, .ref h3, .ref h4, .ref h5, .ref h6, .ref h7, .ref h8, .int 0, .int 0, .int 0, .int 0, .int 0, .int 0, .ref h9, .ref h10, .ref h11, .ref h12, .ref h13, .ref h14, .ref h15, .int 0]))] H := hP
  have hD : va_D A [(h0, .inr (12, [.int 0, .int 1, .ref h1, .ref h2, .ref h3, .ref h4, .ref h5, .ref h6, .ref h7, .ref h8, .int 0, .int 0, .int 0, .int 0, .int 0, .int 0, .ref h9, .ref h10, .ref h11, .ref h12, .ref h13, .ref h14, .ref h15, .int 0]))] := hD
  refine lv_aload_n hx hb dX12_isText_9 rfl (lv_at hl 0 rfl) ?_
  refine va_get (D := D) (ci := 12) (v := .int 0) (C := RX12) (T := TX12) (N := 24) hx hb hts hin12 hown hK hP 0 rfl rfl 13 (by decide) (hts (.fieldLink RX12 181 "MissedPointsModel" "token" "I") (by decide +kernel)) (fun _ h9 => h9) rfl dX12_isText_10 ?_
  refine lv_bipush (v := 40) hx hb dX12_isText_13 (by decide) ?_
  refine lv_icmp_ne (tgt := 29) hx hb dX12_isText_15 (by decide) (fun c1412 => ?_) (fun c1412 => ?_)
  · refine lv_aload_n hx hb dX12_isText_29 rfl (lv_at hl 0 rfl) ?_
    refine va_get (D := D) (ci := 12) (v := .int 0) (C := RX12) (T := TX12) (N := 24) hx hb hts hin12 hown hK hP 0 rfl rfl 13 (by decide) (hts (.fieldLink RX12 181 "MissedPointsModel" "token" "I") (by decide +kernel)) (fun _ h9 => h9) rfl dX12_isText_30 ?_
    refine lv_bipush (v := 91) hx hb dX12_isText_33 (by decide) ?_
    refine lv_icmp_ne (tgt := 49) hx hb dX12_isText_35 (by decide) (fun c1413 => ?_) (fun c1413 => ?_)
    · refine lv_aload_n hx hb dX12_isText_49 rfl (lv_at hl 0 rfl) ?_
      have hPc := hP.sub (ws' := [(h0, .inr (12, [.int 0, .int 1, .ref h1, .ref h2, .ref h3, .ref h4, .ref h5, .ref h6, .ref h7, .ref h8, .int 0, .int 0, .int 0, .int 0, .int 0, .int 0, .ref h9, .ref h10, .ref h11, .ref h12, .ref h13, .ref h14, .ref h15, .int 0]))]) [0] rfl
      refine lz_sv (As := []) (rest := []) ⟨hx, hb, hml, hown, hts⟩ (c_X12_rowRead_0 l D cI cS h0 h1 h2 h3 h4 h5 h6 h7 h8 h9 h10 h11 h12 h13 h14 h15) hKK hPc (ci := 12) rfl rfl (cwV 0 hts gX12_isText_X12_rowRead rfl rfl rfl (by decide +kernel) ⟨Nat.le_of_ble_eq_true rfl, Nat.le_of_ble_eq_true rfl⟩) rfl hl.1 rfl (Nat.le_of_ble_eq_true rfl) dX12_isText_50 ⟨Nat.le_of_ble_eq_true rfl, Nat.le_of_ble_eq_true rfl⟩ (fun r1414 hw => ?_)
      subst hw
      refine lv_if_ne (tgt := 58) hx hb dX12_isText_53 (by decide) (fun c1415 => ?_) (fun c1415 => ?_)
      · exact absurd c1415 (by decide)
      · refine lv_iconst (v := 0) hx hb dX12_isText_56 (by decide) ?_
        have hP9 := hP.sub (ws' := [(h0, .inr (12, [.int 0, .int 1, .ref h1, .ref h2, .ref h3, .ref h4, .ref h5, .ref h6, .ref h7, .ref h8, .int 0, .int 0, .int 0, .int 0, .int 0, .int 0, .ref h9, .ref h10, .ref h11, .ref h12, .ref h13, .ref h14, .ref h15, .int 0]))]) [0] rfl
        have hD9 := hD.sub (ws' := [(h0, .inr (12, [.int 0, .int 1, .ref h1, .ref h2, .ref h3, .ref h4, .ref h5, .ref h6, .ref h7, .ref h8, .int 0, .int 0, .int 0, .int 0, .int 0, .int 0, .ref h9, .ref h10, .ref h11, .ref h12, .ref h13, .ref h14, .ref h15, .int 0]))]) [0] (by decide) rfl
        subst hAe
        exact W.zret (v := 0) hx hb hr (by decide) (fun t ht hW => ⟨⟨_, (), rfl, rfl, by rw [ht]; exact hP9, hD9⟩, hS.F ht⟩) hS.2.2 dX12_isText_57
    · exact absurd c1413 (by decide)
  · exact absurd c1412 (by decide)
set_option maxHeartbeats 4000000 in
set_option maxRecDepth 100000 in
theorem c_X12_putsBack_0 (l : Launch) (D : va_G) (cI cS : ClassId) (sz : Nat) (h0 h1 h2 h3 h4 h5 h6 h7 h8 h9 h10 h11 h12 h13 h14 h15 : Nat) : Met l yX12_putsBack wsX12_putsBack ({ frames := 0, cells := 0, slots := 0, locals := 0 }) (PQ D cI cS [(h0, .inr (12, [.int 0, .int 1, .ref h1, .ref h2, .ref h3, .ref h4, .ref h5, .ref h6, .ref h7, .ref h8, .int 0, .int 0, .int 0, .int 0, .int 0, .int 0, .ref h9, .ref h10, .ref h11, .ref h12, .ref h13, .ref h14, .ref h15, .int 0])), (h1, .inl (cI, 12, .inl (fun _ => 0))), (h15, .inl (cI, 28, .inl (upd (upd (upd (upd (upd (upd (upd (upd (upd (upd (upd (upd (upd (fun _ => 0) 15 1) 16 0) 17 0) 18 0) 19 0) 20 0) 21 0) 22 0) 23 0) 24 0) 25 0) 26 0) 27 0)))] sz [.ref h0, .int 1]) (QV D [(h0, .inr (12, [.int 0, .int 1, .ref h1, .ref h2, .ref h3, .ref h4, .ref h5, .ref h6, .ref h7, .ref h8, .int 0, .int 0, .int 0, .int 0, .int 0, .int 0, .ref h9, .ref h10, .ref h11, .ref h12, .ref h13, .ref h14, .ref h15, .int 0])), (h1, .inl (cI, 12, .inl (fun _ => 0))), (h15, .inl (cI, 28, .inl (upd (upd (upd (upd (upd (upd (upd (upd (upd (upd (upd (upd (upd (fun _ => 0) 15 1) 16 0) 17 0) 18 0) 19 0) 20 0) 21 0) 22 0) 23 0) 24 0) 25 0) 26 0) 27 0)))] [(h0, .inr (12, [.int 0, .int 1, .ref h1, .ref h2, .ref h3, .ref h4, .ref h5, .ref h6, .ref h7, .ref h8, .int 0, .int 0, .int 0, .int 0, .int 0, .int 0, .ref h9, .ref h10, .ref h11, .ref h12, .ref h13, .ref h14, .ref h15, .int 0])), (h1, .inl (cI, 12, .inl (fun _ => 0))), (h15, .inl (cI, 28, .inl (upd (upd (upd (upd (upd (upd (upd (upd (upd (upd (upd (upd (upd (fun _ => 0) 15 1) 16 0) 17 0) 18 0) 19 0) 20 0) 21 0) 22 0) 23 0) 24 0) 25 0) 26 0) 27 0)))] sz) 0 0 (va_A [(h0, .inr (12, [.int 0, .int 1, .ref h1, .ref h2, .ref h3, .ref h4, .ref h5, .ref h6, .ref h7, .ref h8, .int 0, .int 0, .int 0, .int 0, .int 0, .int 0, .ref h9, .ref h10, .ref h11, .ref h12, .ref h13, .ref h14, .ref h15, .int 0])), (h1, .inl (cI, 12, .inl (fun _ => 0))), (h15, .inl (cI, 28, .inl (upd (upd (upd (upd (upd (upd (upd (upd (upd (upd (upd (upd (upd (fun _ => 0) 15 1) 16 0) 17 0) 18 0) 19 0) 20 0) 21 0) 22 0) 23 0) 24 0) 25 0) 26 0) 27 0)))] sz) := by
  refine Met.ofW (cc := cX12_putsBack) (maxL := 4) (ret := none) (by decide) rfl ?_
  intro p e s m args below meth c s₁ B hml hv
  obtain ⟨rfl, hsz, hP, hKK, hD0⟩ := hv
  have hx := B.exec
  have hb := B.bytes
  have hr := B.returns
  have hts := atoms_spec (ws := wsX12_putsBack) B.pre
  have hown : s.vm.findClass RX12 = some m.cls := findClass_of_methodNamed B.named
  have hlocks := B.notSynchronized
  have hK := hKK.1
  have hN := hKK.2
  have hin12 : ∀ w ∈ wsX120, w ∈ wsX12_putsBack := by decide +kernel
  subst hsz
  have hD := hD0.self (sz := s.heap.size)
  obtain ⟨A, hAe⟩ : ∃ A, A = va_A [(h0, .inr (12, [.int 0, .int 1, .ref h1, .ref h2, .ref h3, .ref h4, .ref h5, .ref h6, .ref h7, .ref h8, .int 0, .int 0, .int 0, .int 0, .int 0, .int 0, .ref h9, .ref h10, .ref h11, .ref h12, .ref h13, .ref h14, .ref h15, .int 0])), (h1, .inl (cI, 12, .inl (fun _ => 0))), (h15, .inl (cI, 28, .inl (upd (upd (upd (upd (upd (upd (upd (upd (upd (upd (upd (upd (upd (fun _ => 0) 15 1) 16 0) 17 0) 18 0) 19 0) 20 0) 21 0) 22 0) 23 0) 24 0) 25 0) 26 0) 27 0)))] s.heap.size := ⟨_, rfl⟩
  rw [← hAe] at hD
  have hA : ∀ q : Nat, s.heap.size ≤ q → A q := fun q h => by rw [hAe]; exact Or.inr h
  have hS : va_S A s.heap s.heap [] := va_S.rf
  have hl := lv_entry ([.ref h0, .int 1]) (n := 4) (Nat.le_of_ble_eq_true rfl)
  rw [lg_entry_eq]
  generalize (lg_sl ([.ref h0, .int 1]) ++ List.replicate (4 - (lg_sl ([.ref h0, .int 1])).length) Slot.unset).toArray = ls at hl ⊢
  have hl : lv_has ls 4 [(0, .ref h0), (1, .int 1)] := hl
  refine lv_iload_n hx hb dX12_putsBack_0 rfl (lv_at hl 1 rfl) ?_
  refine lv_bipush (v := 14) hx hb dX12_putsBack_1 (by decide) ?_
  refine lv_imul hx hb dX12_putsBack_3 ?_
  refine lz_top (y := 14) (by decide) ?_
  refine lv_istore_n (lv' := [(2, .int 14), (0, .ref h0), (1, .int 1)]) hx hb dX12_putsBack_4 rfl hl (by decide) rfl (fun ls hl => ?_)
  refine lv_aload_n hx hb dX12_putsBack_5 rfl (lv_at hl 1 rfl) ?_
  refine lv_aload_n hx hb dX12_putsBack_6 rfl (lv_at hl 1 rfl) ?_
  refine va_get (D := D) (ci := 12) (v := .ref h15) (C := RX12) (T := TX12) (N := 24) hx hb hts hin12 hown hK hP 0 rfl rfl 22 (by decide) (hts (.fieldLink RX12 56 "MissedPointsModel" "kept" "[I") (by decide +kernel)) (fun _ h9 => h9) rfl dX12_putsBack_7 ?_
  refine lv_iload_n hx hb dX12_putsBack_10 rfl (lv_at hl 0 rfl) ?_
  refine va_iald hx hb hK hP 2 0 rfl rfl (lz_vp (x := 14) (n := 28) (by decide) (by decide)) dX12_putsBack_11 ?_
  refine lz_top (y := 0) (by simp [upd]; try rfl) ?_
  refine va_put (D := D) (ci := 12) (v := .int 0) (ty := .int) (C := RX12) (T := TX12) (N := 24) hx hb hts hin12 tyX12 tyX12_ok nmX12 hown hK hP hD hS 0 rfl rfl 0 (by decide) (hts (.fieldLink RX12 63 "MissedPointsModel" "many" "I") (by decide +kernel)) (fun _ h9 => h9) rfl (by decide +kernel) rfl rfl (Nat.le_of_ble_eq_true rfl) dX12_putsBack_12 (fun H locs hP hD hS => ?_)
  have hP : va_P D cls [(h0, .inr (12, [.int 0, .int 1, .ref h1, .ref h2, .ref h3, .ref h4, .ref h5, .ref h6, .ref h7, .ref h8, .int 0, .int 0, .int 0, .int 0, .int 0, .int 0, .ref h9, .ref h10, .ref h11, .ref h12, .ref h13, .ref h14, .ref h15, .int 0])), (h1, .inl (cI, 12, .inl (fun _ => 0))), (h15, .inl (cI, 28, .inl (upd (upd (upd (upd (upd (upd (upd (upd (upd (upd (upd (upd (upd (fun _ => 0) 15 1) 16 0) 17 0) 18 0) 19 0) 20 0) 21 0) 22 0) 23 0) 24 0) 25 0) 26 0) 27 0)))] H := hP
  have hD : va_D A [(h0, .inr (12, [.int 0, .int 1, .ref h1, .ref h2, .ref h3, .ref h4, .ref h5, .ref h6, .ref h7, .ref h8, .int 0, .int 0, .int 0, .int 0, .int 0, .int 0, .ref h9, .ref h10, .ref h11, .ref h12, .ref h13, .ref h14, .ref h15, .int 0])), (h1, .inl (cI, 12, .inl (fun _ => 0))), (h15, .inl (cI, 28, .inl (upd (upd (upd (upd (upd (upd (upd (upd (upd (upd (upd (upd (upd (fun _ => 0) 15 1) 16 0) 17 0) 18 0) 19 0) 20 0) 21 0) 22 0) 23 0) 24 0) 25 0) 26 0) 27 0)))] := hD
  refine lv_aload_n hx hb dX12_putsBack_15 rfl (lv_at hl 1 rfl) ?_
  refine lv_aload_n hx hb dX12_putsBack_16 rfl (lv_at hl 1 rfl) ?_
  refine va_get (D := D) (ci := 12) (v := .ref h15) (C := RX12) (T := TX12) (N := 24) hx hb hts hin12 hown hK hP 0 rfl rfl 22 (by decide) (hts (.fieldLink RX12 56 "MissedPointsModel" "kept" "[I") (by decide +kernel)) (fun _ h9 => h9) rfl dX12_putsBack_17 ?_
  refine lv_iload_n hx hb dX12_putsBack_20 rfl (lv_at hl 0 rfl) ?_
  refine lv_iconst (v := 1) hx hb dX12_putsBack_21 (by decide) ?_
  refine lv_iadd hx hb dX12_putsBack_22 ?_
  refine lz_top (y := 15) (by decide) ?_
  refine va_iald hx hb hK hP 2 0 rfl rfl (lz_vp (x := 15) (n := 28) (by decide) (by decide)) dX12_putsBack_23 ?_
  refine lz_top (y := 1) (by simp [upd]; try rfl) ?_
  refine va_put (D := D) (ci := 12) (v := .int 1) (ty := .int) (C := RX12) (T := TX12) (N := 24) hx hb hts hin12 tyX12 tyX12_ok nmX12 hown hK hP hD hS 0 rfl rfl 1 (by decide) (hts (.fieldLink RX12 7 "MissedPointsModel" "z" "I") (by decide +kernel)) (fun _ h9 => h9) rfl (by decide +kernel) rfl rfl (Nat.le_of_ble_eq_true rfl) dX12_putsBack_24 (fun H locs hP hD hS => ?_)
  have hP : va_P D cls [(h0, .inr (12, [.int 0, .int 1, .ref h1, .ref h2, .ref h3, .ref h4, .ref h5, .ref h6, .ref h7, .ref h8, .int 0, .int 0, .int 0, .int 0, .int 0, .int 0, .ref h9, .ref h10, .ref h11, .ref h12, .ref h13, .ref h14, .ref h15, .int 0])), (h1, .inl (cI, 12, .inl (fun _ => 0))), (h15, .inl (cI, 28, .inl (upd (upd (upd (upd (upd (upd (upd (upd (upd (upd (upd (upd (upd (fun _ => 0) 15 1) 16 0) 17 0) 18 0) 19 0) 20 0) 21 0) 22 0) 23 0) 24 0) 25 0) 26 0) 27 0)))] H := hP
  have hD : va_D A [(h0, .inr (12, [.int 0, .int 1, .ref h1, .ref h2, .ref h3, .ref h4, .ref h5, .ref h6, .ref h7, .ref h8, .int 0, .int 0, .int 0, .int 0, .int 0, .int 0, .ref h9, .ref h10, .ref h11, .ref h12, .ref h13, .ref h14, .ref h15, .int 0])), (h1, .inl (cI, 12, .inl (fun _ => 0))), (h15, .inl (cI, 28, .inl (upd (upd (upd (upd (upd (upd (upd (upd (upd (upd (upd (upd (upd (fun _ => 0) 15 1) 16 0) 17 0) 18 0) 19 0) 20 0) 21 0) 22 0) 23 0) 24 0) 25 0) 26 0) 27 0)))] := hD
  refine lv_iconst (v := 0) hx hb dX12_putsBack_27 (by decide) ?_
  refine lv_istore_n (lv' := [(3, .int 0), (2, .int 14), (0, .ref h0), (1, .int 1)]) hx hb dX12_putsBack_28 rfl hl (by decide) rfl (fun ls hl => ?_)
  refine lv_iload_n hx hb dX12_putsBack_29 rfl (lv_at hl 0 rfl) ?_
  refine lv_bipush (v := 12) hx hb dX12_putsBack_30 (by decide) ?_
  refine lv_icmp_ge (tgt := 57) hx hb dX12_putsBack_32 (by decide) (fun c1431 => ?_) (fun c1431 => ?_)
  · exact absurd c1431 (by decide)
  · refine lv_aload_n hx hb dX12_putsBack_35 rfl (lv_at hl 2 rfl) ?_
    refine va_get (D := D) (ci := 12) (v := .ref h1) (C := RX12) (T := TX12) (N := 24) hx hb hts hin12 hown hK hP 0 rfl rfl 2 (by decide) (hts (.fieldLink RX12 13 "MissedPointsModel" "near" "[I") (by decide +kernel)) (fun _ h9 => h9) rfl dX12_putsBack_36 ?_
    refine lv_iload_n hx hb dX12_putsBack_39 rfl (lv_at hl 0 rfl) ?_
    refine lv_aload_n hx hb dX12_putsBack_40 rfl (lv_at hl 2 rfl) ?_
    refine va_get (D := D) (ci := 12) (v := .ref h15) (C := RX12) (T := TX12) (N := 24) hx hb hts hin12 hown hK hP 0 rfl rfl 22 (by decide) (hts (.fieldLink RX12 56 "MissedPointsModel" "kept" "[I") (by decide +kernel)) (fun _ h9 => h9) rfl dX12_putsBack_41 ?_
    refine lv_iload_n hx hb dX12_putsBack_44 rfl (lv_at hl 1 rfl) ?_
    refine lv_iconst (v := 2) hx hb dX12_putsBack_45 (by decide) ?_
    refine lv_iadd hx hb dX12_putsBack_46 ?_
    refine lz_top (y := 16) (by decide) ?_
    refine lv_iload_n hx hb dX12_putsBack_47 rfl (lv_at hl 0 rfl) ?_
    refine lv_iadd hx hb dX12_putsBack_48 ?_
    refine lz_top (y := 16) (by decide) ?_
    refine va_iald hx hb hK hP 2 0 rfl rfl (lz_vp (x := 16) (n := 28) (by decide) (by decide)) dX12_putsBack_49 ?_
    refine lz_top (y := 0) (by simp [upd]; try rfl) ?_
    refine lz_astc hx hb hK hP hD hS 1 0 rfl rfl (lz_vp (x := 0) (n := 12) (by decide) (by decide)) dX12_putsBack_50 (fun H locs hP hD hS => ?_)
    refine lv_iinc (v := 1) (lv' := [(3, .int 1), (2, .int 14), (0, .ref h0), (1, .int 1)]) hx hb dX12_putsBack_51 hl (k := 0) rfl (by decide) (by decide) rfl (fun ls hl => ?_)
    refine lv_goto (tgt := 29) hx hb dX12_putsBack_54 (by decide) ?_
    refine lv_iload_n hx hb dX12_putsBack_29 rfl (lv_at hl 0 rfl) ?_
    refine lv_bipush (v := 12) hx hb dX12_putsBack_30 (by decide) ?_
    refine lv_icmp_ge (tgt := 57) hx hb dX12_putsBack_32 (by decide) (fun c1432 => ?_) (fun c1432 => ?_)
    · exact absurd c1432 (by decide)
    · refine lv_aload_n hx hb dX12_putsBack_35 rfl (lv_at hl 2 rfl) ?_
      refine va_get (D := D) (ci := 12) (v := .ref h1) (C := RX12) (T := TX12) (N := 24) hx hb hts hin12 hown hK hP 0 rfl rfl 2 (by decide) (hts (.fieldLink RX12 13 "MissedPointsModel" "near" "[I") (by decide +kernel)) (fun _ h9 => h9) rfl dX12_putsBack_36 ?_
      refine lv_iload_n hx hb dX12_putsBack_39 rfl (lv_at hl 0 rfl) ?_
      refine lv_aload_n hx hb dX12_putsBack_40 rfl (lv_at hl 2 rfl) ?_
      refine va_get (D := D) (ci := 12) (v := .ref h15) (C := RX12) (T := TX12) (N := 24) hx hb hts hin12 hown hK hP 0 rfl rfl 22 (by decide) (hts (.fieldLink RX12 56 "MissedPointsModel" "kept" "[I") (by decide +kernel)) (fun _ h9 => h9) rfl dX12_putsBack_41 ?_
      refine lv_iload_n hx hb dX12_putsBack_44 rfl (lv_at hl 1 rfl) ?_
      refine lv_iconst (v := 2) hx hb dX12_putsBack_45 (by decide) ?_
      refine lv_iadd hx hb dX12_putsBack_46 ?_
      refine lz_top (y := 16) (by decide) ?_
      refine lv_iload_n hx hb dX12_putsBack_47 rfl (lv_at hl 0 rfl) ?_
      refine lv_iadd hx hb dX12_putsBack_48 ?_
      refine lz_top (y := 17) (by decide) ?_
      refine va_iald hx hb hK hP 2 0 rfl rfl (lz_vp (x := 17) (n := 28) (by decide) (by decide)) dX12_putsBack_49 ?_
      refine lz_top (y := 0) (by simp [upd]; try rfl) ?_
      refine lz_astc hx hb hK hP hD hS 1 0 rfl rfl (lz_vp (x := 1) (n := 12) (by decide) (by decide)) dX12_putsBack_50 (fun H locs hP hD hS => ?_)
      refine lv_iinc (v := 2) (lv' := [(3, .int 2), (2, .int 14), (0, .ref h0), (1, .int 1)]) hx hb dX12_putsBack_51 hl (k := 0) rfl (by decide) (by decide) rfl (fun ls hl => ?_)
      refine lv_goto (tgt := 29) hx hb dX12_putsBack_54 (by decide) ?_
      refine lv_iload_n hx hb dX12_putsBack_29 rfl (lv_at hl 0 rfl) ?_
      refine lv_bipush (v := 12) hx hb dX12_putsBack_30 (by decide) ?_
      refine lv_icmp_ge (tgt := 57) hx hb dX12_putsBack_32 (by decide) (fun c1433 => ?_) (fun c1433 => ?_)
      · exact absurd c1433 (by decide)
      · refine lv_aload_n hx hb dX12_putsBack_35 rfl (lv_at hl 2 rfl) ?_
        refine va_get (D := D) (ci := 12) (v := .ref h1) (C := RX12) (T := TX12) (N := 24) hx hb hts hin12 hown hK hP 0 rfl rfl 2 (by decide) (hts (.fieldLink RX12 13 "MissedPointsModel" "near" "[I") (by decide +kernel)) (fun _ h9 => h9) rfl dX12_putsBack_36 ?_
        refine lv_iload_n hx hb dX12_putsBack_39 rfl (lv_at hl 0 rfl) ?_
        refine lv_aload_n hx hb dX12_putsBack_40 rfl (lv_at hl 2 rfl) ?_
        refine va_get (D := D) (ci := 12) (v := .ref h15) (C := RX12) (T := TX12) (N := 24) hx hb hts hin12 hown hK hP 0 rfl rfl 22 (by decide) (hts (.fieldLink RX12 56 "MissedPointsModel" "kept" "[I") (by decide +kernel)) (fun _ h9 => h9) rfl dX12_putsBack_41 ?_
        refine lv_iload_n hx hb dX12_putsBack_44 rfl (lv_at hl 1 rfl) ?_
        refine lv_iconst (v := 2) hx hb dX12_putsBack_45 (by decide) ?_
        refine lv_iadd hx hb dX12_putsBack_46 ?_
        refine lz_top (y := 16) (by decide) ?_
        refine lv_iload_n hx hb dX12_putsBack_47 rfl (lv_at hl 0 rfl) ?_
        refine lv_iadd hx hb dX12_putsBack_48 ?_
        refine lz_top (y := 18) (by decide) ?_
        refine va_iald hx hb hK hP 2 0 rfl rfl (lz_vp (x := 18) (n := 28) (by decide) (by decide)) dX12_putsBack_49 ?_
        refine lz_top (y := 0) (by simp [upd]; try rfl) ?_
        refine lz_astc hx hb hK hP hD hS 1 0 rfl rfl (lz_vp (x := 2) (n := 12) (by decide) (by decide)) dX12_putsBack_50 (fun H locs hP hD hS => ?_)
        refine lv_iinc (v := 3) (lv' := [(3, .int 3), (2, .int 14), (0, .ref h0), (1, .int 1)]) hx hb dX12_putsBack_51 hl (k := 0) rfl (by decide) (by decide) rfl (fun ls hl => ?_)
        refine lv_goto (tgt := 29) hx hb dX12_putsBack_54 (by decide) ?_
        refine lv_iload_n hx hb dX12_putsBack_29 rfl (lv_at hl 0 rfl) ?_
        refine lv_bipush (v := 12) hx hb dX12_putsBack_30 (by decide) ?_
        refine lv_icmp_ge (tgt := 57) hx hb dX12_putsBack_32 (by decide) (fun c1434 => ?_) (fun c1434 => ?_)
        · exact absurd c1434 (by decide)
        · refine lv_aload_n hx hb dX12_putsBack_35 rfl (lv_at hl 2 rfl) ?_
          refine va_get (D := D) (ci := 12) (v := .ref h1) (C := RX12) (T := TX12) (N := 24) hx hb hts hin12 hown hK hP 0 rfl rfl 2 (by decide) (hts (.fieldLink RX12 13 "MissedPointsModel" "near" "[I") (by decide +kernel)) (fun _ h9 => h9) rfl dX12_putsBack_36 ?_
          refine lv_iload_n hx hb dX12_putsBack_39 rfl (lv_at hl 0 rfl) ?_
          refine lv_aload_n hx hb dX12_putsBack_40 rfl (lv_at hl 2 rfl) ?_
          refine va_get (D := D) (ci := 12) (v := .ref h15) (C := RX12) (T := TX12) (N := 24) hx hb hts hin12 hown hK hP 0 rfl rfl 22 (by decide) (hts (.fieldLink RX12 56 "MissedPointsModel" "kept" "[I") (by decide +kernel)) (fun _ h9 => h9) rfl dX12_putsBack_41 ?_
          refine lv_iload_n hx hb dX12_putsBack_44 rfl (lv_at hl 1 rfl) ?_
          refine lv_iconst (v := 2) hx hb dX12_putsBack_45 (by decide) ?_
          refine lv_iadd hx hb dX12_putsBack_46 ?_
          refine lz_top (y := 16) (by decide) ?_
          refine lv_iload_n hx hb dX12_putsBack_47 rfl (lv_at hl 0 rfl) ?_
          refine lv_iadd hx hb dX12_putsBack_48 ?_
          refine lz_top (y := 19) (by decide) ?_
          refine va_iald hx hb hK hP 2 0 rfl rfl (lz_vp (x := 19) (n := 28) (by decide) (by decide)) dX12_putsBack_49 ?_
          refine lz_top (y := 0) (by simp [upd]; try rfl) ?_
          refine lz_astc hx hb hK hP hD hS 1 0 rfl rfl (lz_vp (x := 3) (n := 12) (by decide) (by decide)) dX12_putsBack_50 (fun H locs hP hD hS => ?_)
          refine lv_iinc (v := 4) (lv' := [(3, .int 4), (2, .int 14), (0, .ref h0), (1, .int 1)]) hx hb dX12_putsBack_51 hl (k := 0) rfl (by decide) (by decide) rfl (fun ls hl => ?_)
          refine lv_goto (tgt := 29) hx hb dX12_putsBack_54 (by decide) ?_
          refine lv_iload_n hx hb dX12_putsBack_29 rfl (lv_at hl 0 rfl) ?_
          refine lv_bipush (v := 12) hx hb dX12_putsBack_30 (by decide) ?_
          refine lv_icmp_ge (tgt := 57) hx hb dX12_putsBack_32 (by decide) (fun c1435 => ?_) (fun c1435 => ?_)
          · exact absurd c1435 (by decide)
          · refine lv_aload_n hx hb dX12_putsBack_35 rfl (lv_at hl 2 rfl) ?_
            refine va_get (D := D) (ci := 12) (v := .ref h1) (C := RX12) (T := TX12) (N := 24) hx hb hts hin12 hown hK hP 0 rfl rfl 2 (by decide) (hts (.fieldLink RX12 13 "MissedPointsModel" "near" "[I") (by decide +kernel)) (fun _ h9 => h9) rfl dX12_putsBack_36 ?_
            refine lv_iload_n hx hb dX12_putsBack_39 rfl (lv_at hl 0 rfl) ?_
            refine lv_aload_n hx hb dX12_putsBack_40 rfl (lv_at hl 2 rfl) ?_
            refine va_get (D := D) (ci := 12) (v := .ref h15) (C := RX12) (T := TX12) (N := 24) hx hb hts hin12 hown hK hP 0 rfl rfl 22 (by decide) (hts (.fieldLink RX12 56 "MissedPointsModel" "kept" "[I") (by decide +kernel)) (fun _ h9 => h9) rfl dX12_putsBack_41 ?_
            refine lv_iload_n hx hb dX12_putsBack_44 rfl (lv_at hl 1 rfl) ?_
            refine lv_iconst (v := 2) hx hb dX12_putsBack_45 (by decide) ?_
            refine lv_iadd hx hb dX12_putsBack_46 ?_
            refine lz_top (y := 16) (by decide) ?_
            refine lv_iload_n hx hb dX12_putsBack_47 rfl (lv_at hl 0 rfl) ?_
            refine lv_iadd hx hb dX12_putsBack_48 ?_
            refine lz_top (y := 20) (by decide) ?_
            refine va_iald hx hb hK hP 2 0 rfl rfl (lz_vp (x := 20) (n := 28) (by decide) (by decide)) dX12_putsBack_49 ?_
            refine lz_top (y := 0) (by simp [upd]; try rfl) ?_
            refine lz_astc hx hb hK hP hD hS 1 0 rfl rfl (lz_vp (x := 4) (n := 12) (by decide) (by decide)) dX12_putsBack_50 (fun H locs hP hD hS => ?_)
            refine lv_iinc (v := 5) (lv' := [(3, .int 5), (2, .int 14), (0, .ref h0), (1, .int 1)]) hx hb dX12_putsBack_51 hl (k := 0) rfl (by decide) (by decide) rfl (fun ls hl => ?_)
            refine lv_goto (tgt := 29) hx hb dX12_putsBack_54 (by decide) ?_
            refine lv_iload_n hx hb dX12_putsBack_29 rfl (lv_at hl 0 rfl) ?_
            refine lv_bipush (v := 12) hx hb dX12_putsBack_30 (by decide) ?_
            refine lv_icmp_ge (tgt := 57) hx hb dX12_putsBack_32 (by decide) (fun c1436 => ?_) (fun c1436 => ?_)
            · exact absurd c1436 (by decide)
            · refine lv_aload_n hx hb dX12_putsBack_35 rfl (lv_at hl 2 rfl) ?_
              refine va_get (D := D) (ci := 12) (v := .ref h1) (C := RX12) (T := TX12) (N := 24) hx hb hts hin12 hown hK hP 0 rfl rfl 2 (by decide) (hts (.fieldLink RX12 13 "MissedPointsModel" "near" "[I") (by decide +kernel)) (fun _ h9 => h9) rfl dX12_putsBack_36 ?_
              refine lv_iload_n hx hb dX12_putsBack_39 rfl (lv_at hl 0 rfl) ?_
              refine lv_aload_n hx hb dX12_putsBack_40 rfl (lv_at hl 2 rfl) ?_
              refine va_get (D := D) (ci := 12) (v := .ref h15) (C := RX12) (T := TX12) (N := 24) hx hb hts hin12 hown hK hP 0 rfl rfl 22 (by decide) (hts (.fieldLink RX12 56 "MissedPointsModel" "kept" "[I") (by decide +kernel)) (fun _ h9 => h9) rfl dX12_putsBack_41 ?_
              refine lv_iload_n hx hb dX12_putsBack_44 rfl (lv_at hl 1 rfl) ?_
              refine lv_iconst (v := 2) hx hb dX12_putsBack_45 (by decide) ?_
              refine lv_iadd hx hb dX12_putsBack_46 ?_
              refine lz_top (y := 16) (by decide) ?_
              refine lv_iload_n hx hb dX12_putsBack_47 rfl (lv_at hl 0 rfl) ?_
              refine lv_iadd hx hb dX12_putsBack_48 ?_
              refine lz_top (y := 21) (by decide) ?_
              refine va_iald hx hb hK hP 2 0 rfl rfl (lz_vp (x := 21) (n := 28) (by decide) (by decide)) dX12_putsBack_49 ?_
              refine lz_top (y := 0) (by simp [upd]; try rfl) ?_
              refine lz_astc hx hb hK hP hD hS 1 0 rfl rfl (lz_vp (x := 5) (n := 12) (by decide) (by decide)) dX12_putsBack_50 (fun H locs hP hD hS => ?_)
              refine lv_iinc (v := 6) (lv' := [(3, .int 6), (2, .int 14), (0, .ref h0), (1, .int 1)]) hx hb dX12_putsBack_51 hl (k := 0) rfl (by decide) (by decide) rfl (fun ls hl => ?_)
              refine lv_goto (tgt := 29) hx hb dX12_putsBack_54 (by decide) ?_
              refine lv_iload_n hx hb dX12_putsBack_29 rfl (lv_at hl 0 rfl) ?_
              refine lv_bipush (v := 12) hx hb dX12_putsBack_30 (by decide) ?_
              refine lv_icmp_ge (tgt := 57) hx hb dX12_putsBack_32 (by decide) (fun c1437 => ?_) (fun c1437 => ?_)
              · exact absurd c1437 (by decide)
              · refine lv_aload_n hx hb dX12_putsBack_35 rfl (lv_at hl 2 rfl) ?_
                refine va_get (D := D) (ci := 12) (v := .ref h1) (C := RX12) (T := TX12) (N := 24) hx hb hts hin12 hown hK hP 0 rfl rfl 2 (by decide) (hts (.fieldLink RX12 13 "MissedPointsModel" "near" "[I") (by decide +kernel)) (fun _ h9 => h9) rfl dX12_putsBack_36 ?_
                refine lv_iload_n hx hb dX12_putsBack_39 rfl (lv_at hl 0 rfl) ?_
                refine lv_aload_n hx hb dX12_putsBack_40 rfl (lv_at hl 2 rfl) ?_
                refine va_get (D := D) (ci := 12) (v := .ref h15) (C := RX12) (T := TX12) (N := 24) hx hb hts hin12 hown hK hP 0 rfl rfl 22 (by decide) (hts (.fieldLink RX12 56 "MissedPointsModel" "kept" "[I") (by decide +kernel)) (fun _ h9 => h9) rfl dX12_putsBack_41 ?_
                refine lv_iload_n hx hb dX12_putsBack_44 rfl (lv_at hl 1 rfl) ?_
                refine lv_iconst (v := 2) hx hb dX12_putsBack_45 (by decide) ?_
                refine lv_iadd hx hb dX12_putsBack_46 ?_
                refine lz_top (y := 16) (by decide) ?_
                refine lv_iload_n hx hb dX12_putsBack_47 rfl (lv_at hl 0 rfl) ?_
                refine lv_iadd hx hb dX12_putsBack_48 ?_
                refine lz_top (y := 22) (by decide) ?_
                refine va_iald hx hb hK hP 2 0 rfl rfl (lz_vp (x := 22) (n := 28) (by decide) (by decide)) dX12_putsBack_49 ?_
                refine lz_top (y := 0) (by simp [upd]; try rfl) ?_
                refine lz_astc hx hb hK hP hD hS 1 0 rfl rfl (lz_vp (x := 6) (n := 12) (by decide) (by decide)) dX12_putsBack_50 (fun H locs hP hD hS => ?_)
                refine lv_iinc (v := 7) (lv' := [(3, .int 7), (2, .int 14), (0, .ref h0), (1, .int 1)]) hx hb dX12_putsBack_51 hl (k := 0) rfl (by decide) (by decide) rfl (fun ls hl => ?_)
                refine lv_goto (tgt := 29) hx hb dX12_putsBack_54 (by decide) ?_
                refine lv_iload_n hx hb dX12_putsBack_29 rfl (lv_at hl 0 rfl) ?_
                refine lv_bipush (v := 12) hx hb dX12_putsBack_30 (by decide) ?_
                refine lv_icmp_ge (tgt := 57) hx hb dX12_putsBack_32 (by decide) (fun c1438 => ?_) (fun c1438 => ?_)
                · exact absurd c1438 (by decide)
                · refine lv_aload_n hx hb dX12_putsBack_35 rfl (lv_at hl 2 rfl) ?_
                  refine va_get (D := D) (ci := 12) (v := .ref h1) (C := RX12) (T := TX12) (N := 24) hx hb hts hin12 hown hK hP 0 rfl rfl 2 (by decide) (hts (.fieldLink RX12 13 "MissedPointsModel" "near" "[I") (by decide +kernel)) (fun _ h9 => h9) rfl dX12_putsBack_36 ?_
                  refine lv_iload_n hx hb dX12_putsBack_39 rfl (lv_at hl 0 rfl) ?_
                  refine lv_aload_n hx hb dX12_putsBack_40 rfl (lv_at hl 2 rfl) ?_
                  refine va_get (D := D) (ci := 12) (v := .ref h15) (C := RX12) (T := TX12) (N := 24) hx hb hts hin12 hown hK hP 0 rfl rfl 22 (by decide) (hts (.fieldLink RX12 56 "MissedPointsModel" "kept" "[I") (by decide +kernel)) (fun _ h9 => h9) rfl dX12_putsBack_41 ?_
                  refine lv_iload_n hx hb dX12_putsBack_44 rfl (lv_at hl 1 rfl) ?_
                  refine lv_iconst (v := 2) hx hb dX12_putsBack_45 (by decide) ?_
                  refine lv_iadd hx hb dX12_putsBack_46 ?_
                  refine lz_top (y := 16) (by decide) ?_
                  refine lv_iload_n hx hb dX12_putsBack_47 rfl (lv_at hl 0 rfl) ?_
                  refine lv_iadd hx hb dX12_putsBack_48 ?_
                  refine lz_top (y := 23) (by decide) ?_
                  refine va_iald hx hb hK hP 2 0 rfl rfl (lz_vp (x := 23) (n := 28) (by decide) (by decide)) dX12_putsBack_49 ?_
                  refine lz_top (y := 0) (by simp [upd]; try rfl) ?_
                  refine lz_astc hx hb hK hP hD hS 1 0 rfl rfl (lz_vp (x := 7) (n := 12) (by decide) (by decide)) dX12_putsBack_50 (fun H locs hP hD hS => ?_)
                  refine lv_iinc (v := 8) (lv' := [(3, .int 8), (2, .int 14), (0, .ref h0), (1, .int 1)]) hx hb dX12_putsBack_51 hl (k := 0) rfl (by decide) (by decide) rfl (fun ls hl => ?_)
                  refine lv_goto (tgt := 29) hx hb dX12_putsBack_54 (by decide) ?_
                  refine lv_iload_n hx hb dX12_putsBack_29 rfl (lv_at hl 0 rfl) ?_
                  refine lv_bipush (v := 12) hx hb dX12_putsBack_30 (by decide) ?_
                  refine lv_icmp_ge (tgt := 57) hx hb dX12_putsBack_32 (by decide) (fun c1439 => ?_) (fun c1439 => ?_)
                  · exact absurd c1439 (by decide)
                  · refine lv_aload_n hx hb dX12_putsBack_35 rfl (lv_at hl 2 rfl) ?_
                    refine va_get (D := D) (ci := 12) (v := .ref h1) (C := RX12) (T := TX12) (N := 24) hx hb hts hin12 hown hK hP 0 rfl rfl 2 (by decide) (hts (.fieldLink RX12 13 "MissedPointsModel" "near" "[I") (by decide +kernel)) (fun _ h9 => h9) rfl dX12_putsBack_36 ?_
                    refine lv_iload_n hx hb dX12_putsBack_39 rfl (lv_at hl 0 rfl) ?_
                    refine lv_aload_n hx hb dX12_putsBack_40 rfl (lv_at hl 2 rfl) ?_
                    refine va_get (D := D) (ci := 12) (v := .ref h15) (C := RX12) (T := TX12) (N := 24) hx hb hts hin12 hown hK hP 0 rfl rfl 22 (by decide) (hts (.fieldLink RX12 56 "MissedPointsModel" "kept" "[I") (by decide +kernel)) (fun _ h9 => h9) rfl dX12_putsBack_41 ?_
                    refine lv_iload_n hx hb dX12_putsBack_44 rfl (lv_at hl 1 rfl) ?_
                    refine lv_iconst (v := 2) hx hb dX12_putsBack_45 (by decide) ?_
                    refine lv_iadd hx hb dX12_putsBack_46 ?_
                    refine lz_top (y := 16) (by decide) ?_
                    refine lv_iload_n hx hb dX12_putsBack_47 rfl (lv_at hl 0 rfl) ?_
                    refine lv_iadd hx hb dX12_putsBack_48 ?_
                    refine lz_top (y := 24) (by decide) ?_
                    refine va_iald hx hb hK hP 2 0 rfl rfl (lz_vp (x := 24) (n := 28) (by decide) (by decide)) dX12_putsBack_49 ?_
                    refine lz_top (y := 0) (by simp [upd]; try rfl) ?_
                    refine lz_astc hx hb hK hP hD hS 1 0 rfl rfl (lz_vp (x := 8) (n := 12) (by decide) (by decide)) dX12_putsBack_50 (fun H locs hP hD hS => ?_)
                    refine lv_iinc (v := 9) (lv' := [(3, .int 9), (2, .int 14), (0, .ref h0), (1, .int 1)]) hx hb dX12_putsBack_51 hl (k := 0) rfl (by decide) (by decide) rfl (fun ls hl => ?_)
                    refine lv_goto (tgt := 29) hx hb dX12_putsBack_54 (by decide) ?_
                    refine lv_iload_n hx hb dX12_putsBack_29 rfl (lv_at hl 0 rfl) ?_
                    refine lv_bipush (v := 12) hx hb dX12_putsBack_30 (by decide) ?_
                    refine lv_icmp_ge (tgt := 57) hx hb dX12_putsBack_32 (by decide) (fun c1440 => ?_) (fun c1440 => ?_)
                    · exact absurd c1440 (by decide)
                    · refine lv_aload_n hx hb dX12_putsBack_35 rfl (lv_at hl 2 rfl) ?_
                      refine va_get (D := D) (ci := 12) (v := .ref h1) (C := RX12) (T := TX12) (N := 24) hx hb hts hin12 hown hK hP 0 rfl rfl 2 (by decide) (hts (.fieldLink RX12 13 "MissedPointsModel" "near" "[I") (by decide +kernel)) (fun _ h9 => h9) rfl dX12_putsBack_36 ?_
                      refine lv_iload_n hx hb dX12_putsBack_39 rfl (lv_at hl 0 rfl) ?_
                      refine lv_aload_n hx hb dX12_putsBack_40 rfl (lv_at hl 2 rfl) ?_
                      refine va_get (D := D) (ci := 12) (v := .ref h15) (C := RX12) (T := TX12) (N := 24) hx hb hts hin12 hown hK hP 0 rfl rfl 22 (by decide) (hts (.fieldLink RX12 56 "MissedPointsModel" "kept" "[I") (by decide +kernel)) (fun _ h9 => h9) rfl dX12_putsBack_41 ?_
                      refine lv_iload_n hx hb dX12_putsBack_44 rfl (lv_at hl 1 rfl) ?_
                      refine lv_iconst (v := 2) hx hb dX12_putsBack_45 (by decide) ?_
                      refine lv_iadd hx hb dX12_putsBack_46 ?_
                      refine lz_top (y := 16) (by decide) ?_
                      refine lv_iload_n hx hb dX12_putsBack_47 rfl (lv_at hl 0 rfl) ?_
                      refine lv_iadd hx hb dX12_putsBack_48 ?_
                      refine lz_top (y := 25) (by decide) ?_
                      refine va_iald hx hb hK hP 2 0 rfl rfl (lz_vp (x := 25) (n := 28) (by decide) (by decide)) dX12_putsBack_49 ?_
                      refine lz_top (y := 0) (by simp [upd]; try rfl) ?_
                      refine lz_astc hx hb hK hP hD hS 1 0 rfl rfl (lz_vp (x := 9) (n := 12) (by decide) (by decide)) dX12_putsBack_50 (fun H locs hP hD hS => ?_)
                      refine lv_iinc (v := 10) (lv' := [(3, .int 10), (2, .int 14), (0, .ref h0), (1, .int 1)]) hx hb dX12_putsBack_51 hl (k := 0) rfl (by decide) (by decide) rfl (fun ls hl => ?_)
                      refine lv_goto (tgt := 29) hx hb dX12_putsBack_54 (by decide) ?_
                      refine lv_iload_n hx hb dX12_putsBack_29 rfl (lv_at hl 0 rfl) ?_
                      refine lv_bipush (v := 12) hx hb dX12_putsBack_30 (by decide) ?_
                      refine lv_icmp_ge (tgt := 57) hx hb dX12_putsBack_32 (by decide) (fun c1441 => ?_) (fun c1441 => ?_)
                      · exact absurd c1441 (by decide)
                      · refine lv_aload_n hx hb dX12_putsBack_35 rfl (lv_at hl 2 rfl) ?_
                        refine va_get (D := D) (ci := 12) (v := .ref h1) (C := RX12) (T := TX12) (N := 24) hx hb hts hin12 hown hK hP 0 rfl rfl 2 (by decide) (hts (.fieldLink RX12 13 "MissedPointsModel" "near" "[I") (by decide +kernel)) (fun _ h9 => h9) rfl dX12_putsBack_36 ?_
                        refine lv_iload_n hx hb dX12_putsBack_39 rfl (lv_at hl 0 rfl) ?_
                        refine lv_aload_n hx hb dX12_putsBack_40 rfl (lv_at hl 2 rfl) ?_
                        refine va_get (D := D) (ci := 12) (v := .ref h15) (C := RX12) (T := TX12) (N := 24) hx hb hts hin12 hown hK hP 0 rfl rfl 22 (by decide) (hts (.fieldLink RX12 56 "MissedPointsModel" "kept" "[I") (by decide +kernel)) (fun _ h9 => h9) rfl dX12_putsBack_41 ?_
                        refine lv_iload_n hx hb dX12_putsBack_44 rfl (lv_at hl 1 rfl) ?_
                        refine lv_iconst (v := 2) hx hb dX12_putsBack_45 (by decide) ?_
                        refine lv_iadd hx hb dX12_putsBack_46 ?_
                        refine lz_top (y := 16) (by decide) ?_
                        refine lv_iload_n hx hb dX12_putsBack_47 rfl (lv_at hl 0 rfl) ?_
                        refine lv_iadd hx hb dX12_putsBack_48 ?_
                        refine lz_top (y := 26) (by decide) ?_
                        refine va_iald hx hb hK hP 2 0 rfl rfl (lz_vp (x := 26) (n := 28) (by decide) (by decide)) dX12_putsBack_49 ?_
                        refine lz_top (y := 0) (by simp [upd]; try rfl) ?_
                        refine lz_astc hx hb hK hP hD hS 1 0 rfl rfl (lz_vp (x := 10) (n := 12) (by decide) (by decide)) dX12_putsBack_50 (fun H locs hP hD hS => ?_)
                        refine lv_iinc (v := 11) (lv' := [(3, .int 11), (2, .int 14), (0, .ref h0), (1, .int 1)]) hx hb dX12_putsBack_51 hl (k := 0) rfl (by decide) (by decide) rfl (fun ls hl => ?_)
                        refine lv_goto (tgt := 29) hx hb dX12_putsBack_54 (by decide) ?_
                        refine lv_iload_n hx hb dX12_putsBack_29 rfl (lv_at hl 0 rfl) ?_
                        refine lv_bipush (v := 12) hx hb dX12_putsBack_30 (by decide) ?_
                        refine lv_icmp_ge (tgt := 57) hx hb dX12_putsBack_32 (by decide) (fun c1442 => ?_) (fun c1442 => ?_)
                        · exact absurd c1442 (by decide)
                        · refine lv_aload_n hx hb dX12_putsBack_35 rfl (lv_at hl 2 rfl) ?_
                          refine va_get (D := D) (ci := 12) (v := .ref h1) (C := RX12) (T := TX12) (N := 24) hx hb hts hin12 hown hK hP 0 rfl rfl 2 (by decide) (hts (.fieldLink RX12 13 "MissedPointsModel" "near" "[I") (by decide +kernel)) (fun _ h9 => h9) rfl dX12_putsBack_36 ?_
                          refine lv_iload_n hx hb dX12_putsBack_39 rfl (lv_at hl 0 rfl) ?_
                          refine lv_aload_n hx hb dX12_putsBack_40 rfl (lv_at hl 2 rfl) ?_
                          refine va_get (D := D) (ci := 12) (v := .ref h15) (C := RX12) (T := TX12) (N := 24) hx hb hts hin12 hown hK hP 0 rfl rfl 22 (by decide) (hts (.fieldLink RX12 56 "MissedPointsModel" "kept" "[I") (by decide +kernel)) (fun _ h9 => h9) rfl dX12_putsBack_41 ?_
                          refine lv_iload_n hx hb dX12_putsBack_44 rfl (lv_at hl 1 rfl) ?_
                          refine lv_iconst (v := 2) hx hb dX12_putsBack_45 (by decide) ?_
                          refine lv_iadd hx hb dX12_putsBack_46 ?_
                          refine lz_top (y := 16) (by decide) ?_
                          refine lv_iload_n hx hb dX12_putsBack_47 rfl (lv_at hl 0 rfl) ?_
                          refine lv_iadd hx hb dX12_putsBack_48 ?_
                          refine lz_top (y := 27) (by decide) ?_
                          refine va_iald hx hb hK hP 2 0 rfl rfl (lz_vp (x := 27) (n := 28) (by decide) (by decide)) dX12_putsBack_49 ?_
                          refine lz_top (y := 0) (by simp [upd]; try rfl) ?_
                          refine lz_astc hx hb hK hP hD hS 1 0 rfl rfl (lz_vp (x := 11) (n := 12) (by decide) (by decide)) dX12_putsBack_50 (fun H locs hP hD hS => ?_)
                          refine lv_iinc (v := 12) (lv' := [(3, .int 12), (2, .int 14), (0, .ref h0), (1, .int 1)]) hx hb dX12_putsBack_51 hl (k := 0) rfl (by decide) (by decide) rfl (fun ls hl => ?_)
                          refine lv_goto (tgt := 29) hx hb dX12_putsBack_54 (by decide) ?_
                          refine lv_iload_n hx hb dX12_putsBack_29 rfl (lv_at hl 0 rfl) ?_
                          refine lv_bipush (v := 12) hx hb dX12_putsBack_30 (by decide) ?_
                          refine lv_icmp_ge (tgt := 57) hx hb dX12_putsBack_32 (by decide) (fun c1443 => ?_) (fun c1443 => ?_)
                          · have hP9 := hP.sub (ws' := [(h0, .inr (12, [.int 0, .int 1, .ref h1, .ref h2, .ref h3, .ref h4, .ref h5, .ref h6, .ref h7, .ref h8, .int 0, .int 0, .int 0, .int 0, .int 0, .int 0, .ref h9, .ref h10, .ref h11, .ref h12, .ref h13, .ref h14, .ref h15, .int 0])), (h1, .inl (cI, 12, .inl (fun _ => 0))), (h15, .inl (cI, 28, .inl (upd (upd (upd (upd (upd (upd (upd (upd (upd (upd (upd (upd (upd (fun _ => 0) 15 1) 16 0) 17 0) 18 0) 19 0) 20 0) 21 0) 22 0) 23 0) 24 0) 25 0) 26 0) 27 0)))]) [0, 1, 2] rfl
                            have hD9 := hD.sub (ws' := [(h0, .inr (12, [.int 0, .int 1, .ref h1, .ref h2, .ref h3, .ref h4, .ref h5, .ref h6, .ref h7, .ref h8, .int 0, .int 0, .int 0, .int 0, .int 0, .int 0, .ref h9, .ref h10, .ref h11, .ref h12, .ref h13, .ref h14, .ref h15, .int 0])), (h1, .inl (cI, 12, .inl (fun _ => 0))), (h15, .inl (cI, 28, .inl (upd (upd (upd (upd (upd (upd (upd (upd (upd (upd (upd (upd (upd (fun _ => 0) 15 1) 16 0) 17 0) 18 0) 19 0) 20 0) 21 0) 22 0) 23 0) 24 0) 25 0) 26 0) 27 0)))]) [0, 1, 2] (by decide) rfl
                            subst hAe
                            exact W.vret hx hb hr (fun t ht hW => ⟨⟨(), rfl, trivial, by rw [ht]; exact hP9, hD9⟩, hS.F ht⟩) hS.2.2 dX12_putsBack_57
                          · exact absurd c1443 (by decide)
set_option maxHeartbeats 4000000 in
set_option maxRecDepth 100000 in
theorem c_X12_text_0 (l : Launch) (D : va_G) (cI cS : ClassId) (sz : Nat) (h0 h1 h2 h3 h4 h5 h6 h7 h8 h9 h10 h11 h12 h13 h14 h15 : Nat) : Met l yX12_text wsX12_text ({ frames := 3, cells := 0, slots := 0, locals := 120 }) (PQ D cI cS [(h0, .inr (12, [.int 0, .int 1, .ref h1, .ref h2, .ref h3, .ref h4, .ref h5, .ref h6, .ref h7, .ref h8, .int 0, .int 0, .int 0, .int 0, .int 0, .int 0, .ref h9, .ref h10, .ref h11, .ref h12, .ref h13, .ref h14, .ref h15, .int 0])), (h1, .inl (cI, 12, .inl (fun _ => 0))), (h15, .inl (cI, 28, .inl (fun _ => 0)))] sz [.ref h0]) (QI D [(h0, .inr (12, [.int 0, .int 1, .ref h1, .ref h2, .ref h3, .ref h4, .ref h5, .ref h6, .ref h7, .ref h8, .int 0, .int 0, .int 0, .int 0, .int 0, .int 0, .ref h9, .ref h10, .ref h11, .ref h12, .ref h13, .ref h14, .ref h15, .int 0])), (h1, .inl (cI, 12, .inl (fun _ => 0))), (h15, .inl (cI, 28, .inl (fun _ => 0)))] [] sz (fun r => r = ((-100) : Int32))) 0 0 (va_A [(h0, .inr (12, [.int 0, .int 1, .ref h1, .ref h2, .ref h3, .ref h4, .ref h5, .ref h6, .ref h7, .ref h8, .int 0, .int 0, .int 0, .int 0, .int 0, .int 0, .ref h9, .ref h10, .ref h11, .ref h12, .ref h13, .ref h14, .ref h15, .int 0])), (h1, .inl (cI, 12, .inl (fun _ => 0))), (h15, .inl (cI, 28, .inl (fun _ => 0)))] sz) := by
  refine Met.ofW (cc := cX12_text) (maxL := 2) (ret := (some .int)) (by decide) rfl ?_
  intro p e s m args below meth c s₁ B hml hv
  obtain ⟨rfl, hsz, hP, hKK, hD0⟩ := hv
  have hx := B.exec
  have hb := B.bytes
  have hr := B.returns
  have hts := atoms_spec (ws := wsX12_text) B.pre
  have hown : s.vm.findClass RX12 = some m.cls := findClass_of_methodNamed B.named
  have hlocks := B.notSynchronized
  have hK := hKK.1
  have hN := hKK.2
  have hin12 : ∀ w ∈ wsX120, w ∈ wsX12_text := by decide +kernel
  subst hsz
  have hD := hD0.self (sz := s.heap.size)
  obtain ⟨A, hAe⟩ : ∃ A, A = va_A [(h0, .inr (12, [.int 0, .int 1, .ref h1, .ref h2, .ref h3, .ref h4, .ref h5, .ref h6, .ref h7, .ref h8, .int 0, .int 0, .int 0, .int 0, .int 0, .int 0, .ref h9, .ref h10, .ref h11, .ref h12, .ref h13, .ref h14, .ref h15, .int 0])), (h1, .inl (cI, 12, .inl (fun _ => 0))), (h15, .inl (cI, 28, .inl (fun _ => 0)))] s.heap.size := ⟨_, rfl⟩
  rw [← hAe] at hD
  have hA : ∀ q : Nat, s.heap.size ≤ q → A q := fun q h => by rw [hAe]; exact Or.inr h
  have hS : va_S A s.heap s.heap [] := va_S.rf
  have hl := lv_entry ([.ref h0]) (n := 2) (Nat.le_of_ble_eq_true rfl)
  rw [lg_entry_eq]
  generalize (lg_sl ([.ref h0]) ++ List.replicate (2 - (lg_sl ([.ref h0])).length) Slot.unset).toArray = ls at hl ⊢
  have hl : lv_has ls 2 [(0, .ref h0)] := hl
  refine lv_aload_n hx hb dX12_text_0 rfl (lv_at hl 0 rfl) ?_
  refine lv_iconst (v := 1) hx hb dX12_text_1 (by decide) ?_
  have hPc := hP.sub (ws' := [(h0, .inr (12, [.int 0, .int 1, .ref h1, .ref h2, .ref h3, .ref h4, .ref h5, .ref h6, .ref h7, .ref h8, .int 0, .int 0, .int 0, .int 0, .int 0, .int 0, .ref h9, .ref h10, .ref h11, .ref h12, .ref h13, .ref h14, .ref h15, .int 0])), (h1, .inl (cI, 12, .inl (fun _ => 0))), (h15, .inl (cI, 28, .inl (fun _ => 0)))]) [0, 1, 2] rfl
  have hDc := hD.sub (ws' := [(h0, .inr (12, [.int 0, .int 1, .ref h1, .ref h2, .ref h3, .ref h4, .ref h5, .ref h6, .ref h7, .ref h8, .int 0, .int 0, .int 0, .int 0, .int 0, .int 0, .ref h9, .ref h10, .ref h11, .ref h12, .ref h13, .ref h14, .ref h15, .int 0])), (h1, .inl (cI, 12, .inl (fun _ => 0))), (h15, .inl (cI, 28, .inl (fun _ => 0)))]) [0, 1, 2] (by decide) rfl
  refine lz_qv (wr := []) (w1 := [(h0, .inr (12, [.int 0, .int 1, .ref h1, .ref h2, .ref h3, .ref h4, .ref h5, .ref h6, .ref h7, .ref h8, .int 0, .int 0, .int 0, .int 0, .int 0, .int 0, .ref h9, .ref h10, .ref h11, .ref h12, .ref h13, .ref h14, .ref h15, .int 0])), (h1, .inl (cI, 12, .inl (fun _ => 0))), (h15, .inl (cI, 28, .inl (upd (upd (upd (upd (upd (upd (upd (upd (upd (upd (upd (upd (upd (fun _ => 0) 15 1) 16 0) 17 0) 18 0) 19 0) 20 0) 21 0) 22 0) 23 0) 24 0) 25 0) 26 0) 27 0)))]) (As := [.int 1]) (rest := []) ⟨hx, hb, hml, hown, hts⟩ (c_X12_keeps_0 l D cI cS _ h0 h1 h2 h3 h4 h5 h6 h7 h8 h9 h10 h11 h12 h13 h14 h15) hKK hP hD hS hA [0, 1, 2] [] (by decide) rfl rfl (by decide) (by decide) hPc hDc (ci := 12) rfl rfl (cwV 1 hts gX12_text_X12_keeps rfl rfl rfl (by decide +kernel) ⟨Nat.le_of_ble_eq_true rfl, Nat.le_of_ble_eq_true rfl⟩) rfl hl.1 rfl (Nat.le_of_ble_eq_true rfl) dX12_text_2 ⟨Nat.le_of_ble_eq_true rfl, Nat.le_of_ble_eq_true rfl⟩ (fun H locs hP hD hS => ?_)
  have hP : va_P D cls [(h0, .inr (12, [.int 0, .int 1, .ref h1, .ref h2, .ref h3, .ref h4, .ref h5, .ref h6, .ref h7, .ref h8, .int 0, .int 0, .int 0, .int 0, .int 0, .int 0, .ref h9, .ref h10, .ref h11, .ref h12, .ref h13, .ref h14, .ref h15, .int 0])), (h1, .inl (cI, 12, .inl (fun _ => 0))), (h15, .inl (cI, 28, .inl (upd (upd (upd (upd (upd (upd (upd (upd (upd (upd (upd (upd (upd (fun _ => 0) 15 1) 16 0) 17 0) 18 0) 19 0) 20 0) 21 0) 22 0) 23 0) 24 0) 25 0) 26 0) 27 0)))] H := hP
  have hD : va_D A [(h0, .inr (12, [.int 0, .int 1, .ref h1, .ref h2, .ref h3, .ref h4, .ref h5, .ref h6, .ref h7, .ref h8, .int 0, .int 0, .int 0, .int 0, .int 0, .int 0, .ref h9, .ref h10, .ref h11, .ref h12, .ref h13, .ref h14, .ref h15, .int 0])), (h1, .inl (cI, 12, .inl (fun _ => 0))), (h15, .inl (cI, 28, .inl (upd (upd (upd (upd (upd (upd (upd (upd (upd (upd (upd (upd (upd (fun _ => 0) 15 1) 16 0) 17 0) 18 0) 19 0) 20 0) 21 0) 22 0) 23 0) 24 0) 25 0) 26 0) 27 0)))] := hD
  refine lv_aload_n hx hb dX12_text_5 rfl (lv_at hl 0 rfl) ?_
  refine lv_iconst (v := 0) hx hb dX12_text_6 (by decide) ?_
  refine va_put (D := D) (ci := 12) (v := .int 0) (ty := .int) (C := RX12) (T := TX12) (N := 24) hx hb hts hin12 tyX12 tyX12_ok nmX12 hown hK hP hD hS 0 rfl rfl 15 (by decide) (hts (.fieldLink RX12 184 "MissedPointsModel" "news" "I") (by decide +kernel)) (fun _ h9 => h9) rfl (by decide +kernel) rfl rfl (Nat.le_of_ble_eq_true rfl) dX12_text_7 (fun H locs hP hD hS => ?_)
  have hP : va_P D cls [(h0, .inr (12, [.int 0, .int 1, .ref h1, .ref h2, .ref h3, .ref h4, .ref h5, .ref h6, .ref h7, .ref h8, .int 0, .int 0, .int 0, .int 0, .int 0, .int 0, .ref h9, .ref h10, .ref h11, .ref h12, .ref h13, .ref h14, .ref h15, .int 0])), (h1, .inl (cI, 12, .inl (fun _ => 0))), (h15, .inl (cI, 28, .inl (upd (upd (upd (upd (upd (upd (upd (upd (upd (upd (upd (upd (upd (fun _ => 0) 15 1) 16 0) 17 0) 18 0) 19 0) 20 0) 21 0) 22 0) 23 0) 24 0) 25 0) 26 0) 27 0)))] H := hP
  have hD : va_D A [(h0, .inr (12, [.int 0, .int 1, .ref h1, .ref h2, .ref h3, .ref h4, .ref h5, .ref h6, .ref h7, .ref h8, .int 0, .int 0, .int 0, .int 0, .int 0, .int 0, .ref h9, .ref h10, .ref h11, .ref h12, .ref h13, .ref h14, .ref h15, .int 0])), (h1, .inl (cI, 12, .inl (fun _ => 0))), (h15, .inl (cI, 28, .inl (upd (upd (upd (upd (upd (upd (upd (upd (upd (upd (upd (upd (upd (fun _ => 0) 15 1) 16 0) 17 0) 18 0) 19 0) 20 0) 21 0) 22 0) 23 0) 24 0) 25 0) 26 0) 27 0)))] := hD
  refine lv_aload_n hx hb dX12_text_10 rfl (lv_at hl 0 rfl) ?_
  have hPc := hP.sub (ws' := [(h0, .inr (12, [.int 0, .int 1, .ref h1, .ref h2, .ref h3, .ref h4, .ref h5, .ref h6, .ref h7, .ref h8, .int 0, .int 0, .int 0, .int 0, .int 0, .int 0, .ref h9, .ref h10, .ref h11, .ref h12, .ref h13, .ref h14, .ref h15, .int 0]))]) [0] rfl
  have hDc := hD.sub (ws' := [(h0, .inr (12, [.int 0, .int 1, .ref h1, .ref h2, .ref h3, .ref h4, .ref h5, .ref h6, .ref h7, .ref h8, .int 0, .int 0, .int 0, .int 0, .int 0, .int 0, .ref h9, .ref h10, .ref h11, .ref h12, .ref h13, .ref h14, .ref h15, .int 0]))]) [0] (by decide) rfl
  refine lz_qi (wr := [(h1, .inl (cI, 12, .inl (fun _ => 0))), (h15, .inl (cI, 28, .inl (upd (upd (upd (upd (upd (upd (upd (upd (upd (upd (upd (upd (upd (fun _ => 0) 15 1) 16 0) 17 0) 18 0) 19 0) 20 0) 21 0) 22 0) 23 0) 24 0) 25 0) 26 0) 27 0)))]) (w1 := [(h0, .inr (12, [.int 0, .int 1, .ref h1, .ref h2, .ref h3, .ref h4, .ref h5, .ref h6, .ref h7, .ref h8, .int 0, .int 0, .int 0, .int 0, .int 0, .int 0, .ref h9, .ref h10, .ref h11, .ref h12, .ref h13, .ref h14, .ref h15, .int 0]))]) (As := []) (rest := []) ⟨hx, hb, hml, hown, hts⟩ (c_X12_isText_0 l D cI cS _ h0 h1 h2 h3 h4 h5 h6 h7 h8 h9 h10 h11 h12 h13 h14 h15) hKK hP hD hS hA [0] [1, 2] (by decide) rfl rfl (by decide) (by decide) hPc hDc (ci := 12) rfl rfl (cwV 0 hts gX12_text_X12_isText rfl rfl rfl (by decide +kernel) ⟨Nat.le_of_ble_eq_true rfl, Nat.le_of_ble_eq_true rfl⟩) rfl hl.1 rfl (Nat.le_of_ble_eq_true rfl) dX12_text_11 ⟨Nat.le_of_ble_eq_true rfl, Nat.le_of_ble_eq_true rfl⟩ (fun r1446 H locs hw hP hD hS => ?_)
  have hP : va_P D cls [(h1, .inl (cI, 12, .inl (fun _ => 0))), (h15, .inl (cI, 28, .inl (upd (upd (upd (upd (upd (upd (upd (upd (upd (upd (upd (upd (upd (fun _ => 0) 15 1) 16 0) 17 0) 18 0) 19 0) 20 0) 21 0) 22 0) 23 0) 24 0) 25 0) 26 0) 27 0))), (h0, .inr (12, [.int 0, .int 1, .ref h1, .ref h2, .ref h3, .ref h4, .ref h5, .ref h6, .ref h7, .ref h8, .int 0, .int 0, .int 0, .int 0, .int 0, .int 0, .ref h9, .ref h10, .ref h11, .ref h12, .ref h13, .ref h14, .ref h15, .int 0]))] H := hP
  have hD : va_D A [(h1, .inl (cI, 12, .inl (fun _ => 0))), (h15, .inl (cI, 28, .inl (upd (upd (upd (upd (upd (upd (upd (upd (upd (upd (upd (upd (upd (fun _ => 0) 15 1) 16 0) 17 0) 18 0) 19 0) 20 0) 21 0) 22 0) 23 0) 24 0) 25 0) 26 0) 27 0))), (h0, .inr (12, [.int 0, .int 1, .ref h1, .ref h2, .ref h3, .ref h4, .ref h5, .ref h6, .ref h7, .ref h8, .int 0, .int 0, .int 0, .int 0, .int 0, .int 0, .ref h9, .ref h10, .ref h11, .ref h12, .ref h13, .ref h14, .ref h15, .int 0]))] := hD
  subst hw
  refine lv_istore_n (lv' := [(1, .int 0), (0, .ref h0)]) hx hb dX12_text_14 rfl hl (by decide) rfl (fun ls hl => ?_)
  refine lv_aload_n hx hb dX12_text_15 rfl (lv_at hl 1 rfl) ?_
  refine lv_iconst (v := 0) hx hb dX12_text_16 (by decide) ?_
  refine va_put (D := D) (ci := 12) (v := .int 0) (ty := .int) (C := RX12) (T := TX12) (N := 24) hx hb hts hin12 tyX12 tyX12_ok nmX12 hown hK hP hD hS 2 rfl rfl 10 (by decide) (hts (.fieldLink RX12 101 "MissedPointsModel" "taped" "I") (by decide +kernel)) (fun _ h9 => h9) rfl (by decide +kernel) rfl rfl (Nat.le_of_ble_eq_true rfl) dX12_text_17 (fun H locs hP hD hS => ?_)
  have hP : va_P D cls [(h1, .inl (cI, 12, .inl (fun _ => 0))), (h15, .inl (cI, 28, .inl (upd (upd (upd (upd (upd (upd (upd (upd (upd (upd (upd (upd (upd (fun _ => 0) 15 1) 16 0) 17 0) 18 0) 19 0) 20 0) 21 0) 22 0) 23 0) 24 0) 25 0) 26 0) 27 0))), (h0, .inr (12, [.int 0, .int 1, .ref h1, .ref h2, .ref h3, .ref h4, .ref h5, .ref h6, .ref h7, .ref h8, .int 0, .int 0, .int 0, .int 0, .int 0, .int 0, .ref h9, .ref h10, .ref h11, .ref h12, .ref h13, .ref h14, .ref h15, .int 0]))] H := hP
  have hD : va_D A [(h1, .inl (cI, 12, .inl (fun _ => 0))), (h15, .inl (cI, 28, .inl (upd (upd (upd (upd (upd (upd (upd (upd (upd (upd (upd (upd (upd (fun _ => 0) 15 1) 16 0) 17 0) 18 0) 19 0) 20 0) 21 0) 22 0) 23 0) 24 0) 25 0) 26 0) 27 0))), (h0, .inr (12, [.int 0, .int 1, .ref h1, .ref h2, .ref h3, .ref h4, .ref h5, .ref h6, .ref h7, .ref h8, .int 0, .int 0, .int 0, .int 0, .int 0, .int 0, .ref h9, .ref h10, .ref h11, .ref h12, .ref h13, .ref h14, .ref h15, .int 0]))] := hD
  refine lv_iload_n hx hb dX12_text_20 rfl (lv_at hl 0 rfl) ?_
  refine lv_if_eq (tgt := 29) hx hb dX12_text_21 (by decide) (fun c1447 => ?_) (fun c1447 => ?_)
  · refine lv_aload_n hx hb dX12_text_29 rfl (lv_at hl 1 rfl) ?_
    refine lv_iconst (v := 1) hx hb dX12_text_30 (by decide) ?_
    have hPc := hP.sub (ws' := [(h0, .inr (12, [.int 0, .int 1, .ref h1, .ref h2, .ref h3, .ref h4, .ref h5, .ref h6, .ref h7, .ref h8, .int 0, .int 0, .int 0, .int 0, .int 0, .int 0, .ref h9, .ref h10, .ref h11, .ref h12, .ref h13, .ref h14, .ref h15, .int 0])), (h1, .inl (cI, 12, .inl (fun _ => 0))), (h15, .inl (cI, 28, .inl (upd (upd (upd (upd (upd (upd (upd (upd (upd (upd (upd (upd (upd (fun _ => 0) 15 1) 16 0) 17 0) 18 0) 19 0) 20 0) 21 0) 22 0) 23 0) 24 0) 25 0) 26 0) 27 0)))]) [2, 0, 1] rfl
    have hDc := hD.sub (ws' := [(h0, .inr (12, [.int 0, .int 1, .ref h1, .ref h2, .ref h3, .ref h4, .ref h5, .ref h6, .ref h7, .ref h8, .int 0, .int 0, .int 0, .int 0, .int 0, .int 0, .ref h9, .ref h10, .ref h11, .ref h12, .ref h13, .ref h14, .ref h15, .int 0])), (h1, .inl (cI, 12, .inl (fun _ => 0))), (h15, .inl (cI, 28, .inl (upd (upd (upd (upd (upd (upd (upd (upd (upd (upd (upd (upd (upd (fun _ => 0) 15 1) 16 0) 17 0) 18 0) 19 0) 20 0) 21 0) 22 0) 23 0) 24 0) 25 0) 26 0) 27 0)))]) [2, 0, 1] (by decide) rfl
    refine lz_qv (wr := []) (w1 := [(h0, .inr (12, [.int 0, .int 1, .ref h1, .ref h2, .ref h3, .ref h4, .ref h5, .ref h6, .ref h7, .ref h8, .int 0, .int 0, .int 0, .int 0, .int 0, .int 0, .ref h9, .ref h10, .ref h11, .ref h12, .ref h13, .ref h14, .ref h15, .int 0])), (h1, .inl (cI, 12, .inl (fun _ => 0))), (h15, .inl (cI, 28, .inl (upd (upd (upd (upd (upd (upd (upd (upd (upd (upd (upd (upd (upd (fun _ => 0) 15 1) 16 0) 17 0) 18 0) 19 0) 20 0) 21 0) 22 0) 23 0) 24 0) 25 0) 26 0) 27 0)))]) (As := [.int 1]) (rest := []) ⟨hx, hb, hml, hown, hts⟩ (c_X12_putsBack_0 l D cI cS _ h0 h1 h2 h3 h4 h5 h6 h7 h8 h9 h10 h11 h12 h13 h14 h15) hKK hP hD hS hA [2, 0, 1] [] (by decide) rfl rfl (by decide) (by decide) hPc hDc (ci := 12) rfl rfl (cwV 1 hts gX12_text_X12_putsBack rfl rfl rfl (by decide +kernel) ⟨Nat.le_of_ble_eq_true rfl, Nat.le_of_ble_eq_true rfl⟩) rfl hl.1 rfl (Nat.le_of_ble_eq_true rfl) dX12_text_31 ⟨Nat.le_of_ble_eq_true rfl, Nat.le_of_ble_eq_true rfl⟩ (fun H locs hP hD hS => ?_)
    have hP : va_P D cls [(h0, .inr (12, [.int 0, .int 1, .ref h1, .ref h2, .ref h3, .ref h4, .ref h5, .ref h6, .ref h7, .ref h8, .int 0, .int 0, .int 0, .int 0, .int 0, .int 0, .ref h9, .ref h10, .ref h11, .ref h12, .ref h13, .ref h14, .ref h15, .int 0])), (h1, .inl (cI, 12, .inl (fun _ => 0))), (h15, .inl (cI, 28, .inl (upd (upd (upd (upd (upd (upd (upd (upd (upd (upd (upd (upd (upd (fun _ => 0) 15 1) 16 0) 17 0) 18 0) 19 0) 20 0) 21 0) 22 0) 23 0) 24 0) 25 0) 26 0) 27 0)))] H := hP
    have hD : va_D A [(h0, .inr (12, [.int 0, .int 1, .ref h1, .ref h2, .ref h3, .ref h4, .ref h5, .ref h6, .ref h7, .ref h8, .int 0, .int 0, .int 0, .int 0, .int 0, .int 0, .ref h9, .ref h10, .ref h11, .ref h12, .ref h13, .ref h14, .ref h15, .int 0])), (h1, .inl (cI, 12, .inl (fun _ => 0))), (h15, .inl (cI, 28, .inl (upd (upd (upd (upd (upd (upd (upd (upd (upd (upd (upd (upd (upd (fun _ => 0) 15 1) 16 0) 17 0) 18 0) 19 0) 20 0) 21 0) 22 0) 23 0) 24 0) 25 0) 26 0) 27 0)))] := hD
    refine lv_bipush (v := (-100)) hx hb dX12_text_34 (by decide) ?_
    refine lv_aload_n hx hb dX12_text_36 rfl (lv_at hl 1 rfl) ?_
    refine va_get (D := D) (ci := 12) (v := .int 0) (C := RX12) (T := TX12) (N := 24) hx hb hts hin12 hown hK hP 0 rfl rfl 11 (by decide) (hts (.fieldLink RX12 175 "MissedPointsModel" "from" "I") (by decide +kernel)) (fun _ h9 => h9) rfl dX12_text_37 ?_
    refine lv_isub hx hb dX12_text_40 ?_
    refine lz_top (y := (-100)) (by decide) ?_
    have hP9 := hP.sub (ws' := []) [] rfl
    have hD9 := hD.sub (ws' := []) [] (by decide) rfl
    subst hAe
    exact W.iret (v := (-100)) hx hb hr (fun t ht hW => ⟨⟨_, (), rfl, rfl, by rw [ht]; exact hP9, hD9⟩, hS.F ht⟩) hS.2.2 dX12_text_41
  · exact absurd c1447 (by decide)
set_option maxHeartbeats 4000000 in
set_option maxRecDepth 100000 in
theorem c_X12_seed_0 (l : Launch) (D : va_G) (cI cS : ClassId) (sz : Nat) (h0 h1 h2 h3 h4 h5 h6 h7 h8 h9 h10 h11 h12 h13 h14 h15 : Nat) (x0 : Int32) : Met l yX12_seed wsX12_seed ({ frames := 0, cells := 0, slots := 0, locals := 0 }) (PQ D cI cS [(h0, .inr (12, [.int 0, .int 1, .ref h1, .ref h2, .ref h3, .ref h4, .ref h5, .ref h6, .ref h7, .ref h8, .int 0, .int 0, .int 0, .int 0, .int 0, .int 0, .ref h9, .ref h10, .ref h11, .ref h12, .ref h13, .ref h14, .ref h15, .int 0]))] sz [.ref h0, .int x0]) (QI D [(h0, .inr (12, [.int 0, .int 1, .ref h1, .ref h2, .ref h3, .ref h4, .ref h5, .ref h6, .ref h7, .ref h8, .int 0, .int 0, .int 0, .int 0, .int 0, .int 0, .ref h9, .ref h10, .ref h11, .ref h12, .ref h13, .ref h14, .ref h15, .int 0]))] [] sz (fun r => r = (1 : Int32))) 0 0 (va_A [(h0, .inr (12, [.int 0, .int 1, .ref h1, .ref h2, .ref h3, .ref h4, .ref h5, .ref h6, .ref h7, .ref h8, .int 0, .int 0, .int 0, .int 0, .int 0, .int 0, .ref h9, .ref h10, .ref h11, .ref h12, .ref h13, .ref h14, .ref h15, .int 0]))] sz) := by
  refine Met.ofW (cc := cX12_seed) (maxL := 3) (ret := (some .int)) (by decide) rfl ?_
  intro p e s m args below meth c s₁ B hml hv
  obtain ⟨rfl, hsz, hP, hKK, hD0⟩ := hv
  have hx := B.exec
  have hb := B.bytes
  have hr := B.returns
  have hts := atoms_spec (ws := wsX12_seed) B.pre
  have hown : s.vm.findClass RX12 = some m.cls := findClass_of_methodNamed B.named
  have hlocks := B.notSynchronized
  have hK := hKK.1
  have hN := hKK.2
  have hin12 : ∀ w ∈ wsX120, w ∈ wsX12_seed := by decide +kernel
  subst hsz
  have hD := hD0.self (sz := s.heap.size)
  obtain ⟨A, hAe⟩ : ∃ A, A = va_A [(h0, .inr (12, [.int 0, .int 1, .ref h1, .ref h2, .ref h3, .ref h4, .ref h5, .ref h6, .ref h7, .ref h8, .int 0, .int 0, .int 0, .int 0, .int 0, .int 0, .ref h9, .ref h10, .ref h11, .ref h12, .ref h13, .ref h14, .ref h15, .int 0]))] s.heap.size := ⟨_, rfl⟩
  rw [← hAe] at hD
  have hA : ∀ q : Nat, s.heap.size ≤ q → A q := fun q h => by rw [hAe]; exact Or.inr h
  have hS : va_S A s.heap s.heap [] := va_S.rf
  have hl := lv_entry ([.ref h0, .int x0]) (n := 3) (Nat.le_of_ble_eq_true rfl)
  rw [lg_entry_eq]
  generalize (lg_sl ([.ref h0, .int x0]) ++ List.replicate (3 - (lg_sl ([.ref h0, .int x0])).length) Slot.unset).toArray = ls at hl ⊢
  have hl : lv_has ls 3 [(0, .ref h0), (1, .int x0)] := hl
  refine lv_aload_n hx hb dX12_seed_0 rfl (lv_at hl 0 rfl) ?_
  refine va_get (D := D) (ci := 12) (v := .int 1) (C := RX12) (T := TX12) (N := 24) hx hb hts hin12 hown hK hP 0 rfl rfl 1 (by decide) (hts (.fieldLink RX12 7 "MissedPointsModel" "z" "I") (by decide +kernel)) (fun _ h9 => h9) rfl dX12_seed_1 ?_
  refine lv_istore_n (lv' := [(2, .int 1), (0, .ref h0), (1, .int x0)]) hx hb dX12_seed_4 rfl hl (by decide) rfl (fun ls hl => ?_)
  refine lv_aload_n hx hb dX12_seed_5 rfl (lv_at hl 1 rfl) ?_
  refine lv_iload_n hx hb dX12_seed_6 rfl (lv_at hl 2 rfl) ?_
  refine va_put (D := D) (ci := 12) (v := .int x0) (ty := .int) (C := RX12) (T := TX12) (N := 24) hx hb hts hin12 tyX12 tyX12_ok nmX12 hown hK hP hD hS 0 rfl rfl 1 (by decide) (hts (.fieldLink RX12 7 "MissedPointsModel" "z" "I") (by decide +kernel)) (fun _ h9 => h9) rfl (by decide +kernel) rfl rfl (Nat.le_of_ble_eq_true rfl) dX12_seed_7 (fun H locs hP hD hS => ?_)
  have hP : va_P D cls [(h0, .inr (12, [.int 0, .int x0, .ref h1, .ref h2, .ref h3, .ref h4, .ref h5, .ref h6, .ref h7, .ref h8, .int 0, .int 0, .int 0, .int 0, .int 0, .int 0, .ref h9, .ref h10, .ref h11, .ref h12, .ref h13, .ref h14, .ref h15, .int 0]))] H := hP
  have hD : va_D A [(h0, .inr (12, [.int 0, .int x0, .ref h1, .ref h2, .ref h3, .ref h4, .ref h5, .ref h6, .ref h7, .ref h8, .int 0, .int 0, .int 0, .int 0, .int 0, .int 0, .ref h9, .ref h10, .ref h11, .ref h12, .ref h13, .ref h14, .ref h15, .int 0]))] := hD
  refine lv_iload_n hx hb dX12_seed_10 rfl (lv_at hl 0 rfl) ?_
  have hP9 := hP.sub (ws' := []) [] rfl
  have hD9 := hD.sub (ws' := []) [] (by decide) rfl
  subst hAe
  exact W.iret (v := 1) hx hb hr (fun t ht hW => ⟨⟨_, (), rfl, rfl, by rw [ht]; exact hP9, hD9⟩, hS.F ht⟩) hS.2.2 dX12_seed_11
set_option maxHeartbeats 4000000 in
set_option maxRecDepth 100000 in
theorem c_X12_isShelf_0 (l : Launch) (D : va_G) (cI cS : ClassId) (x0 : Int32) : Met l yX12_isShelf wsX12_isShelf ({ frames := 1, cells := 0, slots := 0, locals := 40 }) (PS D cI cS [] [.int x0]) (vp_Si (fun r => r = if x0 < 0 then (0 : Int32) else (if (3 : Int32) < x0 then (0 : Int32) else (1 : Int32)))) 0 0 (fun _ => False) := by
  refine Met.ofW (cc := cX12_isShelf) (maxL := 1) (ret := (some .boolean)) (by decide) rfl ?_
  intro p e s m args below meth c s₁ B hml hv
  obtain ⟨rfl, hP, hKK⟩ := hv
  have hx := B.exec
  have hb := B.bytes
  have hr := B.returns
  have hts := atoms_spec (ws := wsX12_isShelf) B.pre
  have hown : s.vm.findClass RX12 = some m.cls := findClass_of_methodNamed B.named
  have hlocks := B.notSynchronized
  have hK := hKK.1
  have hN := hKK.2
  have hl := lv_entry ([.int x0]) (n := 1) (Nat.le_of_ble_eq_true rfl)
  rw [lg_entry_eq]
  generalize (lg_sl ([.int x0]) ++ List.replicate (1 - (lg_sl ([.int x0])).length) Slot.unset).toArray = ls at hl ⊢
  have hl : lv_has ls 1 [(0, .int x0)] := hl
  refine lv_iload_n hx hb dX12_isShelf_0 rfl (lv_at hl 0 rfl) ?_
  refine lv_iconst (v := 0) hx hb dX12_isShelf_1 (by decide) ?_
  refine lv_iconst (v := 3) hx hb dX12_isShelf_2 (by decide) ?_
  have hPc := hP.sub (ws' := []) [] rfl
  refine lz_ss (As := [.int x0, .int 0, .int 3]) (rest := []) ⟨hx, hb, hml, hown, hts⟩ (c_X12_in_5 l D cI cS x0) hKK hPc (va_cwS 3 hts gX12_isShelf_X12_in rfl rfl rfl (by decide +kernel) ⟨Nat.le_of_ble_eq_true rfl, Nat.le_of_ble_eq_true rfl⟩) rfl hl.1 rfl (Nat.le_of_ble_eq_true rfl) dX12_isShelf_3 ⟨Nat.le_of_ble_eq_true rfl, Nat.le_of_ble_eq_true rfl⟩ (fun r1452 hw => ?_)
  by_cases k1453 : x0 < 0
  · rw [if_pos k1453] at hw
    subst hw
    exact W.zret (v := 0) hx hb hr (by decide) (fun t ht hW => ⟨_, rfl, by rw [if_pos k1453], ht⟩) (fun q hq => absurd hq List.not_mem_nil) dX12_isShelf_6
  · rw [if_neg k1453] at hw
    by_cases k1454 : (3 : Int32) < x0
    · rw [if_pos k1454] at hw
      subst hw
      exact W.zret (v := 0) hx hb hr (by decide) (fun t ht hW => ⟨_, rfl, by rw [if_neg k1453, if_pos k1454], ht⟩) (fun q hq => absurd hq List.not_mem_nil) dX12_isShelf_6
    · rw [if_neg k1454] at hw
      subst hw
      exact W.zret (v := 1) hx hb hr (by decide) (fun t ht hW => ⟨_, rfl, by rw [if_neg k1453, if_neg k1454], ht⟩) (fun q hq => absurd hq List.not_mem_nil) dX12_isShelf_6
set_option maxHeartbeats 4000000 in
set_option maxRecDepth 100000 in
theorem c_X12_in_7 (l : Launch) (D : va_G) (cI cS : ClassId) (x0 : Int32) : Met l yX12_in wsX12_in ({ frames := 0, cells := 0, slots := 0, locals := 0 }) (PS D cI cS [] [.int x0, .int 0, .int 5]) (vp_Si (fun r => r = if x0 < 0 then (0 : Int32) else (if (5 : Int32) < x0 then (0 : Int32) else (1 : Int32)))) 0 0 (fun _ => False) := by
  refine Met.ofW (cc := cX12_in) (maxL := 3) (ret := (some .boolean)) (by decide) rfl ?_
  intro p e s m args below meth c s₁ B hml hv
  obtain ⟨rfl, hP, hKK⟩ := hv
  have hx := B.exec
  have hb := B.bytes
  have hr := B.returns
  have hts := atoms_spec (ws := wsX12_in) B.pre
  have hown : s.vm.findClass RX12 = some m.cls := findClass_of_methodNamed B.named
  have hlocks := B.notSynchronized
  have hK := hKK.1
  have hN := hKK.2
  have hl := lv_entry ([.int x0, .int 0, .int 5]) (n := 3) (Nat.le_of_ble_eq_true rfl)
  rw [lg_entry_eq]
  generalize (lg_sl ([.int x0, .int 0, .int 5]) ++ List.replicate (3 - (lg_sl ([.int x0, .int 0, .int 5])).length) Slot.unset).toArray = ls at hl ⊢
  have hl : lv_has ls 3 [(0, .int x0), (1, .int 0), (2, .int 5)] := hl
  refine lv_iload_n hx hb dX12_in_0 rfl (lv_at hl 0 rfl) ?_
  refine lv_iload_n hx hb dX12_in_1 rfl (lv_at hl 1 rfl) ?_
  refine lv_icmp_lt (tgt := 14) hx hb dX12_in_2 (by decide) (fun c1463 => ?_) (fun c1463 => ?_)
  · refine lv_iconst (v := 0) hx hb dX12_in_14 (by decide) ?_
    exact W.zret (v := 0) hx hb hr (by decide) (fun t ht hW => ⟨_, rfl, by rw [if_pos c1463], ht⟩) (fun q hq => absurd hq List.not_mem_nil) dX12_in_15
  · refine lv_iload_n hx hb dX12_in_5 rfl (lv_at hl 0 rfl) ?_
    refine lv_iload_n hx hb dX12_in_6 rfl (lv_at hl 2 rfl) ?_
    refine lv_icmp_gt (tgt := 14) hx hb dX12_in_7 (by decide) (fun c1464 => ?_) (fun c1464 => ?_)
    · refine lv_iconst (v := 0) hx hb dX12_in_14 (by decide) ?_
      exact W.zret (v := 0) hx hb hr (by decide) (fun t ht hW => ⟨_, rfl, by rw [if_neg c1463, if_pos c1464], ht⟩) (fun q hq => absurd hq List.not_mem_nil) dX12_in_15
    · refine lv_iconst (v := 1) hx hb dX12_in_10 (by decide) ?_
      refine lv_goto (tgt := 15) hx hb dX12_in_11 (by decide) ?_
      exact W.zret (v := 1) hx hb hr (by decide) (fun t ht hW => ⟨_, rfl, by rw [if_neg c1463, if_neg c1464], ht⟩) (fun q hq => absurd hq List.not_mem_nil) dX12_in_15
set_option maxHeartbeats 4000000 in
set_option maxRecDepth 100000 in
theorem c_X12_in_8 (l : Launch) (D : va_G) (cI cS : ClassId) (x0 : Int32) : Met l yX12_in wsX12_in ({ frames := 0, cells := 0, slots := 0, locals := 0 }) (PS D cI cS [] [.int x0, .int 1, .int 2]) (vp_Si (fun r => r = if x0 < 1 then (0 : Int32) else (if (2 : Int32) < x0 then (0 : Int32) else (1 : Int32)))) 0 0 (fun _ => False) := by
  refine Met.ofW (cc := cX12_in) (maxL := 3) (ret := (some .boolean)) (by decide) rfl ?_
  intro p e s m args below meth c s₁ B hml hv
  obtain ⟨rfl, hP, hKK⟩ := hv
  have hx := B.exec
  have hb := B.bytes
  have hr := B.returns
  have hts := atoms_spec (ws := wsX12_in) B.pre
  have hown : s.vm.findClass RX12 = some m.cls := findClass_of_methodNamed B.named
  have hlocks := B.notSynchronized
  have hK := hKK.1
  have hN := hKK.2
  have hl := lv_entry ([.int x0, .int 1, .int 2]) (n := 3) (Nat.le_of_ble_eq_true rfl)
  rw [lg_entry_eq]
  generalize (lg_sl ([.int x0, .int 1, .int 2]) ++ List.replicate (3 - (lg_sl ([.int x0, .int 1, .int 2])).length) Slot.unset).toArray = ls at hl ⊢
  have hl : lv_has ls 3 [(0, .int x0), (1, .int 1), (2, .int 2)] := hl
  refine lv_iload_n hx hb dX12_in_0 rfl (lv_at hl 0 rfl) ?_
  refine lv_iload_n hx hb dX12_in_1 rfl (lv_at hl 1 rfl) ?_
  refine lv_icmp_lt (tgt := 14) hx hb dX12_in_2 (by decide) (fun c1476 => ?_) (fun c1476 => ?_)
  · refine lv_iconst (v := 0) hx hb dX12_in_14 (by decide) ?_
    exact W.zret (v := 0) hx hb hr (by decide) (fun t ht hW => ⟨_, rfl, by rw [if_pos c1476], ht⟩) (fun q hq => absurd hq List.not_mem_nil) dX12_in_15
  · refine lv_iload_n hx hb dX12_in_5 rfl (lv_at hl 0 rfl) ?_
    refine lv_iload_n hx hb dX12_in_6 rfl (lv_at hl 2 rfl) ?_
    refine lv_icmp_gt (tgt := 14) hx hb dX12_in_7 (by decide) (fun c1477 => ?_) (fun c1477 => ?_)
    · refine lv_iconst (v := 0) hx hb dX12_in_14 (by decide) ?_
      exact W.zret (v := 0) hx hb hr (by decide) (fun t ht hW => ⟨_, rfl, by rw [if_neg c1476, if_pos c1477], ht⟩) (fun q hq => absurd hq List.not_mem_nil) dX12_in_15
    · refine lv_iconst (v := 1) hx hb dX12_in_10 (by decide) ?_
      refine lv_goto (tgt := 15) hx hb dX12_in_11 (by decide) ?_
      exact W.zret (v := 1) hx hb hr (by decide) (fun t ht hW => ⟨_, rfl, by rw [if_neg c1476, if_neg c1477], ht⟩) (fun q hq => absurd hq List.not_mem_nil) dX12_in_15
set_option maxHeartbeats 4000000 in
set_option maxRecDepth 100000 in
theorem c_X12_in_9 (l : Launch) (D : va_G) (cI cS : ClassId) : Met l yX12_in wsX12_in ({ frames := 0, cells := 0, slots := 0, locals := 0 }) (PS D cI cS [] [.int 4, .int 1, .int 2]) (vp_Si (fun r => r = (0 : Int32))) 0 0 (fun _ => False) := by
  refine Met.ofW (cc := cX12_in) (maxL := 3) (ret := (some .boolean)) (by decide) rfl ?_
  intro p e s m args below meth c s₁ B hml hv
  obtain ⟨rfl, hP, hKK⟩ := hv
  have hx := B.exec
  have hb := B.bytes
  have hr := B.returns
  have hts := atoms_spec (ws := wsX12_in) B.pre
  have hown : s.vm.findClass RX12 = some m.cls := findClass_of_methodNamed B.named
  have hlocks := B.notSynchronized
  have hK := hKK.1
  have hN := hKK.2
  have hl := lv_entry ([.int 4, .int 1, .int 2]) (n := 3) (Nat.le_of_ble_eq_true rfl)
  rw [lg_entry_eq]
  generalize (lg_sl ([.int 4, .int 1, .int 2]) ++ List.replicate (3 - (lg_sl ([.int 4, .int 1, .int 2])).length) Slot.unset).toArray = ls at hl ⊢
  have hl : lv_has ls 3 [(0, .int 4), (1, .int 1), (2, .int 2)] := hl
  refine lv_iload_n hx hb dX12_in_0 rfl (lv_at hl 0 rfl) ?_
  refine lv_iload_n hx hb dX12_in_1 rfl (lv_at hl 1 rfl) ?_
  refine lv_icmp_lt (tgt := 14) hx hb dX12_in_2 (by decide) (fun c1504 => ?_) (fun c1504 => ?_)
  · exact absurd c1504 (by decide)
  · refine lv_iload_n hx hb dX12_in_5 rfl (lv_at hl 0 rfl) ?_
    refine lv_iload_n hx hb dX12_in_6 rfl (lv_at hl 2 rfl) ?_
    refine lv_icmp_gt (tgt := 14) hx hb dX12_in_7 (by decide) (fun c1505 => ?_) (fun c1505 => ?_)
    · refine lv_iconst (v := 0) hx hb dX12_in_14 (by decide) ?_
      exact W.zret (v := 0) hx hb hr (by decide) (fun t ht hW => ⟨_, rfl, rfl, ht⟩) (fun q hq => absurd hq List.not_mem_nil) dX12_in_15
    · exact absurd c1505 (by decide)
set_option maxHeartbeats 4000000 in
set_option maxRecDepth 100000 in
theorem c_X12_in_10 (l : Launch) (D : va_G) (cI cS : ClassId) : Met l yX12_in wsX12_in ({ frames := 0, cells := 0, slots := 0, locals := 0 }) (PS D cI cS [] [.int 3, .int 1, .int 2]) (vp_Si (fun r => r = (0 : Int32))) 0 0 (fun _ => False) := by
  refine Met.ofW (cc := cX12_in) (maxL := 3) (ret := (some .boolean)) (by decide) rfl ?_
  intro p e s m args below meth c s₁ B hml hv
  obtain ⟨rfl, hP, hKK⟩ := hv
  have hx := B.exec
  have hb := B.bytes
  have hr := B.returns
  have hts := atoms_spec (ws := wsX12_in) B.pre
  have hown : s.vm.findClass RX12 = some m.cls := findClass_of_methodNamed B.named
  have hlocks := B.notSynchronized
  have hK := hKK.1
  have hN := hKK.2
  have hl := lv_entry ([.int 3, .int 1, .int 2]) (n := 3) (Nat.le_of_ble_eq_true rfl)
  rw [lg_entry_eq]
  generalize (lg_sl ([.int 3, .int 1, .int 2]) ++ List.replicate (3 - (lg_sl ([.int 3, .int 1, .int 2])).length) Slot.unset).toArray = ls at hl ⊢
  have hl : lv_has ls 3 [(0, .int 3), (1, .int 1), (2, .int 2)] := hl
  refine lv_iload_n hx hb dX12_in_0 rfl (lv_at hl 0 rfl) ?_
  refine lv_iload_n hx hb dX12_in_1 rfl (lv_at hl 1 rfl) ?_
  refine lv_icmp_lt (tgt := 14) hx hb dX12_in_2 (by decide) (fun c1517 => ?_) (fun c1517 => ?_)
  · exact absurd c1517 (by decide)
  · refine lv_iload_n hx hb dX12_in_5 rfl (lv_at hl 0 rfl) ?_
    refine lv_iload_n hx hb dX12_in_6 rfl (lv_at hl 2 rfl) ?_
    refine lv_icmp_gt (tgt := 14) hx hb dX12_in_7 (by decide) (fun c1518 => ?_) (fun c1518 => ?_)
    · refine lv_iconst (v := 0) hx hb dX12_in_14 (by decide) ?_
      exact W.zret (v := 0) hx hb hr (by decide) (fun t ht hW => ⟨_, rfl, rfl, ht⟩) (fun q hq => absurd hq List.not_mem_nil) dX12_in_15
    · exact absurd c1518 (by decide)
