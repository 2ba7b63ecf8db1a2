set_option maxRecDepth 20000 in
theorem ggX11_paint_X11_isSheet : GoodIn wsX11_paint wsX11_isSheet := goodIn_r _ [7] (by decide +kernel) (by decide +kernel)
set_option maxRecDepth 20000 in
theorem gX11_paint_X11_isSheet : GoodIn wsX11_paint (va_wsS RX11 248 yX11_isSheet wsX11_isSheet) := goodIn_app (goodIn_of _ (by decide +kernel)) ggX11_paint_X11_isSheet
set_option maxRecDepth 20000 in
theorem ggX11_paint_X11_isSort : GoodIn wsX11_paint wsX11_isSort := goodIn_r _ [10] (by decide +kernel) (by decide +kernel)
set_option maxRecDepth 20000 in
theorem gX11_paint_X11_isSort : GoodIn wsX11_paint (va_wsS RX11 259 yX11_isSort wsX11_isSort) := goodIn_app (goodIn_of _ (by decide +kernel)) ggX11_paint_X11_isSort
set_option maxRecDepth 20000 in
theorem ggX11_paint_X9_becomeFirst : GoodIn wsX11_paint wsX9_becomeFirst := goodIn_r _ [15, 16, 17, 18, 19, 20, 21, 22, 23, 24, 25, 26, 27, 28, 29, 30, 31, 32, 33, 34, 35, 36, 37, 38, 39, 40, 41, 42, 43, 44, 45, 46, 47, 48, 49, 50, 51, 52, 53, 54, 55, 56, 57, 58, 59, 60, 61, 62, 63, 64, 65, 66, 67, 68, 69, 70, 71, 72, 73, 74, 75, 76, 77, 78, 79, 80, 81, 82, 83, 84, 132, 133, 134, 135, 136, 137, 138, 139, 140, 141, 129, 130, 131, 142, 143] (by decide +kernel) (by decide +kernel)
set_option maxRecDepth 20000 in
theorem gX11_paint_X9_becomeFirst : GoodIn wsX11_paint (wsV RX11 147 RX9 yX9_becomeFirst wsX9_becomeFirst) := goodIn_app (goodIn_of _ (by decide +kernel)) ggX11_paint_X9_becomeFirst
set_option maxRecDepth 20000 in
theorem ggX11_paint_X9_writeTo : GoodIn wsX11_paint wsX9_writeTo := goodIn_r _ [88, 89, 17, 90, 91, 92, 93, 94, 95, 96, 97, 98, 99, 100, 101, 102, 103, 104, 105, 106, 107, 108, 109, 110, 111, 112, 132, 133, 134, 135, 136, 137, 129, 130, 131, 144, 145, 146] (by decide +kernel) (by decide +kernel)
set_option maxRecDepth 20000 in
theorem gX11_paint_X9_writeTo : GoodIn wsX11_paint (wsV RX11 243 RX9 yX9_writeTo wsX9_writeTo) := goodIn_app (goodIn_of _ (by decide +kernel)) ggX11_paint_X9_writeTo
theorem dX11_paint_0 : decode cX11_paint 0 = .ok (.iload_n 1, 1) := by decide +kernel
theorem dX11_paint_1 : decode cX11_paint 1 = .ok (.invokestatic 248, 3) := by decide +kernel
theorem dX11_paint_11 : decode cX11_paint 11 = .ok (.ifCond .ne 6, 3) := by decide +kernel
theorem dX11_paint_14 : decode cX11_paint 14 = .ok (.bipush (-2), 2) := by decide +kernel
theorem dX11_paint_16 : decode cX11_paint 16 = .ok (.ireturn, 1) := by decide +kernel
theorem dX11_paint_17 : decode cX11_paint 17 = .ok (.aload_n 0, 1) := by decide +kernel
theorem dX11_paint_18 : decode cX11_paint 18 = .ok (.getfield 82, 3) := by decide +kernel
theorem dX11_paint_21 : decode cX11_paint 21 = .ok (.invokevirtual 147, 3) := by decide +kernel
theorem dX11_paint_24 : decode cX11_paint 24 = .ok (.aload_n 0, 1) := by decide +kernel
theorem dX11_paint_25 : decode cX11_paint 25 = .ok (.getfield 82, 3) := by decide +kernel
theorem dX11_paint_28 : decode cX11_paint 28 = .ok (.aload_n 0, 1) := by decide +kernel
theorem dX11_paint_29 : decode cX11_paint 29 = .ok (.getfield 75, 3) := by decide +kernel
theorem dX11_paint_32 : decode cX11_paint 32 = .ok (.iload_n 1, 1) := by decide +kernel
theorem dX11_paint_33 : decode cX11_paint 33 = .ok (.aaload, 1) := by decide +kernel
theorem dX11_paint_34 : decode cX11_paint 34 = .ok (.iload_n 2, 1) := by decide +kernel
theorem dX11_paint_35 : decode cX11_paint 35 = .ok (.invokevirtual 243, 3) := by decide +kernel
theorem dX11_paint_38 : decode cX11_paint 38 = .ok (.aload_n 0, 1) := by decide +kernel
theorem dX11_paint_39 : decode cX11_paint 39 = .ok (.getfield 12, 3) := by decide +kernel
theorem dX11_paint_4 : decode cX11_paint 4 = .ok (.ifCond .eq 10, 3) := by decide +kernel
theorem dX11_paint_42 : decode cX11_paint 42 = .ok (.getfield 97, 3) := by decide +kernel
theorem dX11_paint_45 : decode cX11_paint 45 = .ok (.ireturn, 1) := by decide +kernel
theorem dX11_paint_7 : decode cX11_paint 7 = .ok (.iload_n 2, 1) := by decide +kernel
theorem dX11_paint_8 : decode cX11_paint 8 = .ok (.invokestatic 259, 3) := by decide +kernel
theorem dX8_append_0 : decode cX8_append 0 = .ok (.aload_n 0, 1) := by decide +kernel
theorem dX8_append_1 : decode cX8_append 1 = .ok (.getfield 15, 3) := by decide +kernel
theorem dX8_append_10 : decode cX8_append 10 = .ok (.getfield 9, 3) := by decide +kernel
theorem dX8_append_13 : decode cX8_append 13 = .ok (.aload_n 0, 1) := by decide +kernel
theorem dX8_append_14 : decode cX8_append 14 = .ok (.getfield 15, 3) := by decide +kernel
theorem dX8_append_17 : decode cX8_append 17 = .ok (.iload_n 1, 1) := by decide +kernel
theorem dX8_append_18 : decode cX8_append 18 = .ok (.iastore, 1) := by decide +kernel
theorem dX8_append_19 : decode cX8_append 19 = .ok (.aload_n 0, 1) := by decide +kernel
theorem dX8_append_20 : decode cX8_append 20 = .ok (.dup, 1) := by decide +kernel
theorem dX8_append_21 : decode cX8_append 21 = .ok (.getfield 15, 3) := by decide +kernel
theorem dX8_append_24 : decode cX8_append 24 = .ok (.iconst 1, 1) := by decide +kernel
theorem dX8_append_25 : decode cX8_append 25 = .ok (.iadd, 1) := by decide +kernel
theorem dX8_append_26 : decode cX8_append 26 = .ok (.putfield 15, 3) := by decide +kernel
theorem dX8_append_29 : decode cX8_append 29 = .ok (.return_, 1) := by decide +kernel
theorem dX8_append_4 : decode cX8_append 4 = .ok (.bipush 120, 2) := by decide +kernel
theorem dX8_append_6 : decode cX8_append 6 = .ok (.if_icmp .ge 23, 3) := by decide +kernel
theorem dX8_append_9 : decode cX8_append 9 = .ok (.aload_n 0, 1) := by decide +kernel
set_option maxRecDepth 20000 in
theorem ggX11_feed_X8_append : GoodIn wsX11_feed wsX8_append := goodIn_r _ [6, 7, 8, 25, 26] (by decide +kernel) (by decide +kernel)
set_option maxRecDepth 20000 in
theorem gX11_feed_X8_append : GoodIn wsX11_feed (wsV RX11 262 RX8 yX8_append wsX8_append) := goodIn_app (goodIn_of _ (by decide +kernel)) ggX11_feed_X8_append
theorem dX11_feed_0 : decode cX11_feed 0 = .ok (.iload_n 2, 1) := by decide +kernel
theorem dX11_feed_1 : decode cX11_feed 1 = .ok (.iconst 1, 1) := by decide +kernel
theorem dX11_feed_10 : decode cX11_feed 10 = .ok (.bipush (-2), 2) := by decide +kernel
theorem dX11_feed_12 : decode cX11_feed 12 = .ok (.ireturn, 1) := by decide +kernel
theorem dX11_feed_13 : decode cX11_feed 13 = .ok (.iload_n 2, 1) := by decide +kernel
theorem dX11_feed_14 : decode cX11_feed 14 = .ok (.bipush 120, 2) := by decide +kernel
theorem dX11_feed_16 : decode cX11_feed 16 = .ok (.aload_n 0, 1) := by decide +kernel
theorem dX11_feed_17 : decode cX11_feed 17 = .ok (.getfield 60, 3) := by decide +kernel
theorem dX11_feed_2 : decode cX11_feed 2 = .ok (.if_icmp .lt 8, 3) := by decide +kernel
theorem dX11_feed_20 : decode cX11_feed 20 = .ok (.getfield 140, 3) := by decide +kernel
theorem dX11_feed_23 : decode cX11_feed 23 = .ok (.isub, 1) := by decide +kernel
theorem dX11_feed_24 : decode cX11_feed 24 = .ok (.if_icmp .le 6, 3) := by decide +kernel
theorem dX11_feed_30 : decode cX11_feed 30 = .ok (.iload_n 2, 1) := by decide +kernel
theorem dX11_feed_31 : decode cX11_feed 31 = .ok (.iconst 1, 1) := by decide +kernel
theorem dX11_feed_32 : decode cX11_feed 32 = .ok (.isub, 1) := by decide +kernel
theorem dX11_feed_33 : decode cX11_feed 33 = .ok (.istore_n 3, 1) := by decide +kernel
theorem dX11_feed_34 : decode cX11_feed 34 = .ok (.iload_n 3, 1) := by decide +kernel
theorem dX11_feed_35 : decode cX11_feed 35 = .ok (.ifCond .lt 26, 3) := by decide +kernel
theorem dX11_feed_38 : decode cX11_feed 38 = .ok (.aload_n 0, 1) := by decide +kernel
theorem dX11_feed_39 : decode cX11_feed 39 = .ok (.getfield 60, 3) := by decide +kernel
theorem dX11_feed_42 : decode cX11_feed 42 = .ok (.iload_n 1, 1) := by decide +kernel
theorem dX11_feed_43 : decode cX11_feed 43 = .ok (.bipush 8, 2) := by decide +kernel
theorem dX11_feed_45 : decode cX11_feed 45 = .ok (.iload_n 3, 1) := by decide +kernel
theorem dX11_feed_46 : decode cX11_feed 46 = .ok (.imul, 1) := by decide +kernel
theorem dX11_feed_47 : decode cX11_feed 47 = .ok (.iushr, 1) := by decide +kernel
theorem dX11_feed_48 : decode cX11_feed 48 = .ok (.sipush 255, 3) := by decide +kernel
theorem dX11_feed_5 : decode cX11_feed 5 = .ok (.iload_n 2, 1) := by decide +kernel
theorem dX11_feed_51 : decode cX11_feed 51 = .ok (.iand, 1) := by decide +kernel
theorem dX11_feed_52 : decode cX11_feed 52 = .ok (.invokevirtual 262, 3) := by decide +kernel
theorem dX11_feed_55 : decode cX11_feed 55 = .ok (.iinc 3 (-1), 3) := by decide +kernel
theorem dX11_feed_58 : decode cX11_feed 58 = .ok (.goto (-24), 3) := by decide +kernel
theorem dX11_feed_6 : decode cX11_feed 6 = .ok (.iconst 4, 1) := by decide +kernel
theorem dX11_feed_61 : decode cX11_feed 61 = .ok (.aload_n 0, 1) := by decide +kernel
theorem dX11_feed_62 : decode cX11_feed 62 = .ok (.getfield 60, 3) := by decide +kernel
theorem dX11_feed_65 : decode cX11_feed 65 = .ok (.getfield 140, 3) := by decide +kernel
theorem dX11_feed_68 : decode cX11_feed 68 = .ok (.ireturn, 1) := by decide +kernel
theorem dX11_feed_7 : decode cX11_feed 7 = .ok (.if_icmp .le 6, 3) := by decide +kernel
theorem dX8_clear_0 : decode cX8_clear 0 = .ok (.aload_n 0, 1) := by decide +kernel
theorem dX8_clear_1 : decode cX8_clear 1 = .ok (.getfield 15, 3) := by decide +kernel
theorem dX8_clear_10 : decode cX8_clear 10 = .ok (.iload_n 1, 1) := by decide +kernel
theorem dX8_clear_11 : decode cX8_clear 11 = .ok (.ireturn, 1) := by decide +kernel
theorem dX8_clear_4 : decode cX8_clear 4 = .ok (.istore_n 1, 1) := by decide +kernel
theorem dX8_clear_5 : decode cX8_clear 5 = .ok (.aload_n 0, 1) := by decide +kernel
theorem dX8_clear_6 : decode cX8_clear 6 = .ok (.iconst 0, 1) := by decide +kernel
theorem dX8_clear_7 : decode cX8_clear 7 = .ok (.putfield 15, 3) := by decide +kernel
set_option maxRecDepth 20000 in
theorem ggX11_wipe_X8_clear : GoodIn wsX11_wipe wsX8_clear := goodIn_r _ [6, 7, 24, 25] (by decide +kernel) (by decide +kernel)
set_option maxRecDepth 20000 in
theorem gX11_wipe_X8_clear : GoodIn wsX11_wipe (wsV RX11 265 RX8 yX8_clear wsX8_clear) := goodIn_app (goodIn_of _ (by decide +kernel)) ggX11_wipe_X8_clear
theorem dX11_wipe_0 : decode cX11_wipe 0 = .ok (.aload_n 0, 1) := by decide +kernel
theorem dX11_wipe_1 : decode cX11_wipe 1 = .ok (.getfield 60, 3) := by decide +kernel
theorem dX11_wipe_4 : decode cX11_wipe 4 = .ok (.invokevirtual 265, 3) := by decide +kernel
theorem dX11_wipe_7 : decode cX11_wipe 7 = .ok (.ireturn, 1) := by decide +kernel
theorem dX8_byteAt_0 : decode cX8_byteAt 0 = .ok (.iload_n 1, 1) := by decide +kernel
theorem dX8_byteAt_1 : decode cX8_byteAt 1 = .ok (.ifCond .lt 26, 3) := by decide +kernel
theorem dX8_byteAt_27 : decode cX8_byteAt 27 = .ok (.iconst (-1), 1) := by decide +kernel
theorem dX8_byteAt_28 : decode cX8_byteAt 28 = .ok (.ireturn, 1) := by decide +kernel
theorem dX8_byteAt_4 : decode cX8_byteAt 4 = .ok (.iload_n 1, 1) := by decide +kernel
theorem dX8_byteAt_5 : decode cX8_byteAt 5 = .ok (.aload_n 0, 1) := by decide +kernel
theorem dX8_byteAt_6 : decode cX8_byteAt 6 = .ok (.getfield 15, 3) := by decide +kernel
theorem dX8_byteAt_9 : decode cX8_byteAt 9 = .ok (.if_icmp .ge 18, 3) := by decide +kernel
theorem dX5_tokenOf_0 : decode cX5_tokenOf 0 = .ok (.iload_n 0, 1) := by decide +kernel
theorem dX5_tokenOf_1 : decode cX5_tokenOf 1 = .ok (.ifCond .ge 5, 3) := by decide +kernel
theorem dX5_tokenOf_4 : decode cX5_tokenOf 4 = .ok (.iconst (-1), 1) := by decide +kernel
theorem dX5_tokenOf_5 : decode cX5_tokenOf 5 = .ok (.ireturn, 1) := by decide +kernel
set_option maxRecDepth 20000 in
theorem ggX5_step_X5_tokenOf : GoodIn wsX5_step wsX5_tokenOf := goodIn_r _ [16] (by decide +kernel) (by decide +kernel)
set_option maxRecDepth 20000 in
theorem gX5_step_X5_tokenOf : GoodIn wsX5_step (va_wsS RX5 54 yX5_tokenOf wsX5_tokenOf) := goodIn_app (goodIn_of _ (by decide +kernel)) ggX5_step_X5_tokenOf
set_option maxRecDepth 20000 in
theorem ggX5_step_X8_byteAt : GoodIn wsX5_step wsX8_byteAt := goodIn_r _ [10, 11, 12, 25, 26] (by decide +kernel) (by decide +kernel)
set_option maxRecDepth 20000 in
theorem gX5_step_X8_byteAt : GoodIn wsX5_step (wsV RX5 45 RX8 yX8_byteAt wsX8_byteAt) := goodIn_app (goodIn_of _ (by decide +kernel)) ggX5_step_X8_byteAt
theorem dX5_step_0 : decode cX5_step 0 = .ok (.iconst 0, 1) := by decide +kernel
theorem dX5_step_1 : decode cX5_step 1 = .ok (.istore_n 1, 1) := by decide +kernel
theorem dX5_step_102 : decode cX5_step 102 = .ok (.return_, 1) := by decide +kernel
theorem dX5_step_12 : decode cX5_step 12 = .ok (.aload_n 0, 1) := by decide +kernel
theorem dX5_step_13 : decode cX5_step 13 = .ok (.getfield 23, 3) := by decide +kernel
theorem dX5_step_16 : decode cX5_step 16 = .ok (.invokevirtual 45, 3) := by decide +kernel
theorem dX5_step_19 : decode cX5_step 19 = .ok (.bipush 32, 2) := by decide +kernel
theorem dX5_step_2 : decode cX5_step 2 = .ok (.iload_n 1, 1) := by decide +kernel
theorem dX5_step_21 : decode cX5_step 21 = .ok (.if_icmp .ne 19, 3) := by decide +kernel
theorem dX5_step_3 : decode cX5_step 3 = .ok (.bipush 120, 2) := by decide +kernel
theorem dX5_step_40 : decode cX5_step 40 = .ok (.aload_n 0, 1) := by decide +kernel
theorem dX5_step_41 : decode cX5_step 41 = .ok (.aload_n 0, 1) := by decide +kernel
theorem dX5_step_42 : decode cX5_step 42 = .ok (.getfield 23, 3) := by decide +kernel
theorem dX5_step_45 : decode cX5_step 45 = .ok (.putfield 42, 3) := by decide +kernel
theorem dX5_step_48 : decode cX5_step 48 = .ok (.aload_n 0, 1) := by decide +kernel
theorem dX5_step_49 : decode cX5_step 49 = .ok (.iconst 0, 1) := by decide +kernel
theorem dX5_step_5 : decode cX5_step 5 = .ok (.if_icmp .ge 35, 3) := by decide +kernel
theorem dX5_step_50 : decode cX5_step 50 = .ok (.putfield 51, 3) := by decide +kernel
theorem dX5_step_53 : decode cX5_step 53 = .ok (.aload_n 0, 1) := by decide +kernel
theorem dX5_step_54 : decode cX5_step 54 = .ok (.aload_n 0, 1) := by decide +kernel
theorem dX5_step_55 : decode cX5_step 55 = .ok (.getfield 15, 3) := by decide +kernel
theorem dX5_step_58 : decode cX5_step 58 = .ok (.aload_n 0, 1) := by decide +kernel
theorem dX5_step_59 : decode cX5_step 59 = .ok (.getfield 23, 3) := by decide +kernel
theorem dX5_step_62 : decode cX5_step 62 = .ok (.invokevirtual 45, 3) := by decide +kernel
theorem dX5_step_65 : decode cX5_step 65 = .ok (.invokestatic 54, 3) := by decide +kernel
theorem dX5_step_68 : decode cX5_step 68 = .ok (.putfield 36, 3) := by decide +kernel
theorem dX5_step_71 : decode cX5_step 71 = .ok (.aload_n 0, 1) := by decide +kernel
theorem dX5_step_72 : decode cX5_step 72 = .ok (.getfield 36, 3) := by decide +kernel
theorem dX5_step_75 : decode cX5_step 75 = .ok (.bipush (-2), 2) := by decide +kernel
theorem dX5_step_77 : decode cX5_step 77 = .ok (.if_icmp .eq 26, 3) := by decide +kernel
theorem dX5_step_8 : decode cX5_step 8 = .ok (.aload_n 0, 1) := by decide +kernel
theorem dX5_step_80 : decode cX5_step 80 = .ok (.aload_n 0, 1) := by decide +kernel
theorem dX5_step_81 : decode cX5_step 81 = .ok (.dup, 1) := by decide +kernel
theorem dX5_step_82 : decode cX5_step 82 = .ok (.getfield 23, 3) := by decide +kernel
theorem dX5_step_85 : decode cX5_step 85 = .ok (.aload_n 0, 1) := by decide +kernel
theorem dX5_step_86 : decode cX5_step 86 = .ok (.getfield 36, 3) := by decide +kernel
theorem dX5_step_89 : decode cX5_step 89 = .ok (.iconst (-1), 1) := by decide +kernel
theorem dX5_step_9 : decode cX5_step 9 = .ok (.getfield 15, 3) := by decide +kernel
theorem dX5_step_90 : decode cX5_step 90 = .ok (.if_icmp .ne 7, 3) := by decide +kernel
theorem dX5_step_93 : decode cX5_step 93 = .ok (.iconst 0, 1) := by decide +kernel
theorem dX5_step_94 : decode cX5_step 94 = .ok (.goto 4, 3) := by decide +kernel
theorem dX5_step_98 : decode cX5_step 98 = .ok (.iadd, 1) := by decide +kernel
theorem dX5_step_99 : decode cX5_step 99 = .ok (.putfield 23, 3) := by decide +kernel
theorem dX5_fail_0 : decode cX5_fail 0 = .ok (.aload_n 0, 1) := by decide +kernel
theorem dX5_fail_1 : decode cX5_fail 1 = .ok (.getfield 27, 3) := by decide +kernel
theorem dX5_fail_12 : decode cX5_fail 12 = .ok (.putfield 27, 3) := by decide +kernel
theorem dX5_fail_15 : decode cX5_fail 15 = .ok (.return_, 1) := by decide +kernel
theorem dX5_fail_4 : decode cX5_fail 4 = .ok (.ifCond .ge 11, 3) := by decide +kernel
theorem dX5_fail_7 : decode cX5_fail 7 = .ok (.aload_n 0, 1) := by decide +kernel
theorem dX5_fail_8 : decode cX5_fail 8 = .ok (.aload_n 0, 1) := by decide +kernel
theorem dX5_fail_9 : decode cX5_fail 9 = .ok (.getfield 42, 3) := by decide +kernel
set_option maxRecDepth 20000 in
theorem ggX5_readItem_X5_fail : GoodIn wsX5_readItem wsX5_fail := goodIn_r _ [22, 23, 24, 57, 58, 59, 60, 61, 62, 63, 64] (by decide +kernel) (by decide +kernel)
set_option maxRecDepth 20000 in
theorem gX5_readItem_X5_fail : GoodIn wsX5_readItem (wsV RX5 39 RX5 yX5_fail wsX5_fail) := goodIn_app (goodIn_of _ (by decide +kernel)) ggX5_readItem_X5_fail
theorem dX5_readItem_0 : decode cX5_readItem 0 = .ok (.aload_n 0, 1) := by decide +kernel
theorem dX5_readItem_1 : decode cX5_readItem 1 = .ok (.getfield 36, 3) := by decide +kernel
theorem dX5_readItem_16 : decode cX5_readItem 16 = .ok (.aload_n 0, 1) := by decide +kernel
theorem dX5_readItem_17 : decode cX5_readItem 17 = .ok (.getfield 36, 3) := by decide +kernel
theorem dX5_readItem_20 : decode cX5_readItem 20 = .ok (.bipush 40, 2) := by decide +kernel
theorem dX5_readItem_22 : decode cX5_readItem 22 = .ok (.if_icmp .ne 13, 3) := by decide +kernel
theorem dX5_readItem_35 : decode cX5_readItem 35 = .ok (.aload_n 0, 1) := by decide +kernel
theorem dX5_readItem_36 : decode cX5_readItem 36 = .ok (.getfield 36, 3) := by decide +kernel
theorem dX5_readItem_39 : decode cX5_readItem 39 = .ok (.bipush 91, 2) := by decide +kernel
theorem dX5_readItem_4 : decode cX5_readItem 4 = .ok (.bipush (-2), 2) := by decide +kernel
theorem dX5_readItem_41 : decode cX5_readItem 41 = .ok (.if_icmp .ne 13, 3) := by decide +kernel
theorem dX5_readItem_54 : decode cX5_readItem 54 = .ok (.aload_n 0, 1) := by decide +kernel
theorem dX5_readItem_55 : decode cX5_readItem 55 = .ok (.invokevirtual 39, 3) := by decide +kernel
theorem dX5_readItem_58 : decode cX5_readItem 58 = .ok (.return_, 1) := by decide +kernel
theorem dX5_readItem_6 : decode cX5_readItem 6 = .ok (.if_icmp .ne 10, 3) := by decide +kernel
set_option maxRecDepth 20000 in
theorem ggX5_readAll_X5_readItem : GoodIn wsX5_readAll wsX5_readItem := goodIn_r _ [26, 4, 27, 28, 29, 8, 30, 31, 32, 33, 34, 35, 12, 36, 37, 38, 39, 40, 41, 42, 43, 44, 45, 3, 11, 5, 6, 7, 9, 10, 2, 13, 14, 15, 16, 17, 18, 19, 20, 21, 22, 46, 47, 48, 49, 1, 50, 51, 52, 53, 54, 55, 56, 57, 58, 59, 60, 61, 62, 63, 64, 65, 66, 67, 68, 71, 72, 73, 69, 70] (by decide +kernel) (by decide +kernel)
set_option maxRecDepth 20000 in
theorem gX5_readAll_X5_readItem : GoodIn wsX5_readAll (wsV RX5 33 RX5 yX5_readItem wsX5_readItem) := goodIn_app (goodIn_of _ (by decide +kernel)) ggX5_readAll_X5_readItem
set_option maxRecDepth 20000 in
theorem ggX5_readAll_X5_step : GoodIn wsX5_readAll wsX5_step := goodIn_r _ [9, 10, 2, 11, 12, 4, 13, 14, 15, 16, 17, 18, 19, 20, 21, 8, 22, 61, 62, 63, 64, 65, 66, 67, 68, 69, 70] (by decide +kernel) (by decide +kernel)
set_option maxRecDepth 20000 in
theorem gX5_readAll_X5_step : GoodIn wsX5_readAll (wsV RX5 30 RX5 yX5_step wsX5_step) := goodIn_app (goodIn_of _ (by decide +kernel)) ggX5_readAll_X5_step
theorem dX5_readAll_0 : decode cX5_readAll 0 = .ok (.iconst 0, 1) := by decide +kernel
theorem dX5_readAll_1 : decode cX5_readAll 1 = .ok (.istore_n 1, 1) := by decide +kernel
theorem dX5_readAll_12 : decode cX5_readAll 12 = .ok (.iload_n 1, 1) := by decide +kernel
theorem dX5_readAll_13 : decode cX5_readAll 13 = .ok (.iconst 0, 1) := by decide +kernel
theorem dX5_readAll_14 : decode cX5_readAll 14 = .ok (.iastore, 1) := by decide +kernel
theorem dX5_readAll_15 : decode cX5_readAll 15 = .ok (.iinc 1 1, 3) := by decide +kernel
theorem dX5_readAll_18 : decode cX5_readAll 18 = .ok (.goto (-16), 3) := by decide +kernel
theorem dX5_readAll_2 : decode cX5_readAll 2 = .ok (.iload_n 1, 1) := by decide +kernel
theorem dX5_readAll_21 : decode cX5_readAll 21 = .ok (.aload_n 0, 1) := by decide +kernel
theorem dX5_readAll_22 : decode cX5_readAll 22 = .ok (.iconst 0, 1) := by decide +kernel
theorem dX5_readAll_23 : decode cX5_readAll 23 = .ok (.putfield 23, 3) := by decide +kernel
theorem dX5_readAll_26 : decode cX5_readAll 26 = .ok (.aload_n 0, 1) := by decide +kernel
theorem dX5_readAll_27 : decode cX5_readAll 27 = .ok (.iconst (-1), 1) := by decide +kernel
theorem dX5_readAll_28 : decode cX5_readAll 28 = .ok (.putfield 27, 3) := by decide +kernel
theorem dX5_readAll_3 : decode cX5_readAll 3 = .ok (.bipush 12, 2) := by decide +kernel
theorem dX5_readAll_31 : decode cX5_readAll 31 = .ok (.aload_n 0, 1) := by decide +kernel
theorem dX5_readAll_32 : decode cX5_readAll 32 = .ok (.invokevirtual 30, 3) := by decide +kernel
theorem dX5_readAll_35 : decode cX5_readAll 35 = .ok (.aload_n 0, 1) := by decide +kernel
theorem dX5_readAll_36 : decode cX5_readAll 36 = .ok (.invokevirtual 33, 3) := by decide +kernel
theorem dX5_readAll_39 : decode cX5_readAll 39 = .ok (.iconst 0, 1) := by decide +kernel
theorem dX5_readAll_40 : decode cX5_readAll 40 = .ok (.istore_n 1, 1) := by decide +kernel
theorem dX5_readAll_41 : decode cX5_readAll 41 = .ok (.iload_n 1, 1) := by decide +kernel
theorem dX5_readAll_42 : decode cX5_readAll 42 = .ok (.bipush 120, 2) := by decide +kernel
theorem dX5_readAll_44 : decode cX5_readAll 44 = .ok (.if_icmp .ge 33, 3) := by decide +kernel
theorem dX5_readAll_47 : decode cX5_readAll 47 = .ok (.aload_n 0, 1) := by decide +kernel
theorem dX5_readAll_48 : decode cX5_readAll 48 = .ok (.getfield 27, 3) := by decide +kernel
theorem dX5_readAll_5 : decode cX5_readAll 5 = .ok (.if_icmp .ge 16, 3) := by decide +kernel
theorem dX5_readAll_51 : decode cX5_readAll 51 = .ok (.ifCond .ge 26, 3) := by decide +kernel
theorem dX5_readAll_77 : decode cX5_readAll 77 = .ok (.aload_n 0, 1) := by decide +kernel
theorem dX5_readAll_78 : decode cX5_readAll 78 = .ok (.getfield 36, 3) := by decide +kernel
theorem dX5_readAll_8 : decode cX5_readAll 8 = .ok (.aload_n 0, 1) := by decide +kernel
theorem dX5_readAll_81 : decode cX5_readAll 81 = .ok (.iconst (-1), 1) := by decide +kernel
theorem dX5_readAll_82 : decode cX5_readAll 82 = .ok (.if_icmp .eq 7, 3) := by decide +kernel
theorem dX5_readAll_89 : decode cX5_readAll 89 = .ok (.aload_n 0, 1) := by decide +kernel
theorem dX5_readAll_9 : decode cX5_readAll 9 = .ok (.getfield 9, 3) := by decide +kernel
theorem dX5_readAll_90 : decode cX5_readAll 90 = .ok (.getfield 27, 3) := by decide +kernel
theorem dX5_readAll_93 : decode cX5_readAll 93 = .ok (.ireturn, 1) := by decide +kernel
set_option maxHeartbeats 4000000 in
set_option maxRecDepth 100000 in
theorem c_X6_become_1 (l : Launch) (D : va_G) (cI cS : ClassId) (sz : Nat) (h0 h1 : Nat) : Met l yX6_become wsX6_become ({ frames := 1, cells := 0, slots := 0, locals := 40 }) (PQ D cI cS [(h0, .inr (6, [.ref h1, .int (-1), .int 0])), (h1, .inl (cI, 40, .inl (fun _ => 0)))] sz [.ref h0, .int 1, .int 0]) (QV D [(h0, .inr (6, [.ref h1, .int (-1), .int 0])), (h1, .inl (cI, 40, .inl (fun _ => 0)))] [(h0, .inr (6, [.ref h1, .int 1, .int 0])), (h1, .inl (cI, 40, .inl (fun _ => 0)))] sz) 0 0 (va_A [(h0, .inr (6, [.ref h1, .int (-1), .int 0])), (h1, .inl (cI, 40, .inl (fun _ => 0)))] sz) := by
  refine Met.ofW (cc := cX6_become) (maxL := 4) (ret := none) (by decide) rfl ?_
  intro p e s m args below meth c s₁ B hml hv
  obtain ⟨rfl, hsz, hP, hKK, hD0⟩ := hv
  have hx := B.exec
  have hb := B.bytes
  have hr := B.returns
  have hts := atoms_spec (ws := wsX6_become) B.pre
  have hown : s.vm.findClass RX6 = some m.cls := findClass_of_methodNamed B.named
  have hlocks := B.notSynchronized
  have hK := hKK.1
  have hN := hKK.2
  have hin6 : ∀ w ∈ wsX60, w ∈ wsX6_become := by decide +kernel
  subst hsz
  have hD := hD0.self (sz := s.heap.size)
  obtain ⟨A, hAe⟩ : ∃ A, A = va_A [(h0, .inr (6, [.ref h1, .int (-1), .int 0])), (h1, .inl (cI, 40, .inl (fun _ => 0)))] s.heap.size := ⟨_, rfl⟩
  rw [← hAe] at hD
  have hA : ∀ q : Nat, s.heap.size ≤ q → A q := fun q h => by rw [hAe]; exact Or.inr h
  have hS : va_S A s.heap s.heap [] := va_S.rf
  have hl := lv_entry ([.ref h0, .int 1, .int 0]) (n := 4) (Nat.le_of_ble_eq_true rfl)
  rw [lg_entry_eq]
  generalize (lg_sl ([.ref h0, .int 1, .int 0]) ++ List.replicate (4 - (lg_sl ([.ref h0, .int 1, .int 0])).length) Slot.unset).toArray = ls at hl ⊢
  have hl : lv_has ls 4 [(0, .ref h0), (1, .int 1), (2, .int 0)] := hl
  refine lv_aload_n hx hb dX6_become_0 rfl (lv_at hl 0 rfl) ?_
  refine lv_iload_n hx hb dX6_become_1 rfl (lv_at hl 1 rfl) ?_
  refine va_put (D := D) (ci := 6) (v := .int 1) (ty := .int) (C := RX6) (T := TX6) (N := 3) hx hb hts hin6 tyX6 tyX6_ok nmX6 hown hK hP hD hS 0 rfl rfl 1 (by decide) (hts (.fieldLink RX6 15 "MissedPoints$Sheet" "sort" "I") (by decide +kernel)) (fun _ h9 => h9) rfl (by decide +kernel) rfl rfl (Nat.le_of_ble_eq_true rfl) dX6_become_2 (fun H locs hP hD hS => ?_)
  have hP : va_P D cls [(h0, .inr (6, [.ref h1, .int 1, .int 0])), (h1, .inl (cI, 40, .inl (fun _ => 0)))] H := hP
  have hD : va_D A [(h0, .inr (6, [.ref h1, .int 1, .int 0])), (h1, .inl (cI, 40, .inl (fun _ => 0)))] := hD
  refine lv_aload_n hx hb dX6_become_5 rfl (lv_at hl 0 rfl) ?_
  refine lv_iconst (v := 0) hx hb dX6_become_6 (by decide) ?_
  refine lv_iload_n hx hb dX6_become_7 rfl (lv_at hl 2 rfl) ?_
  refine lv_bipush (v := 40) hx hb dX6_become_8 (by decide) ?_
  refine va_mmin hx hb (by rw [hml]; exact hl.1.symm) hown (hts (.methodLink RX6 19 Lib.Math.min.name) (by decide +kernel)) (hts (.static Lib.Math.min.name) (by decide +kernel)) (hts (.initialized "java/lang/Math") (by decide +kernel)) (hts (.code Lib.Math.min.name Lib.Math.min.code 2 (some .int)) (by decide +kernel)) (Nat.le_of_ble_eq_true rfl) (Nat.le_of_ble_eq_true rfl) (Nat.le_of_ble_eq_true rfl) (Nat.le_of_ble_eq_true rfl) dX6_become_10 ?_
  refine lz_top (y := 0) (by decide) ?_
  refine va_mmax hx hb (by rw [hml]; exact hl.1.symm) hown (hts (.methodLink RX6 25 Lib.Math.max.name) (by decide +kernel)) (hts (.static Lib.Math.max.name) (by decide +kernel)) (hts (.initialized "java/lang/Math") (by decide +kernel)) (hts (.code Lib.Math.max.name Lib.Math.max.code 2 (some .int)) (by decide +kernel)) (Nat.le_of_ble_eq_true rfl) (Nat.le_of_ble_eq_true rfl) (Nat.le_of_ble_eq_true rfl) (Nat.le_of_ble_eq_true rfl) dX6_become_13 ?_
  refine lz_top (y := 0) (by decide) ?_
  refine va_put (D := D) (ci := 6) (v := .int 0) (ty := .int) (C := RX6) (T := TX6) (N := 3) hx hb hts hin6 tyX6 tyX6_ok nmX6 hown hK hP hD hS 0 rfl rfl 2 (by decide) (hts (.fieldLink RX6 28 "MissedPoints$Sheet" "size" "I") (by decide +kernel)) (fun _ h9 => h9) rfl (by decide +kernel) rfl rfl (Nat.le_of_ble_eq_true rfl) dX6_become_16 (fun H locs hP hD hS => ?_)
  have hP : va_P D cls [(h0, .inr (6, [.ref h1, .int 1, .int 0])), (h1, .inl (cI, 40, .inl (fun _ => 0)))] H := hP
  have hD : va_D A [(h0, .inr (6, [.ref h1, .int 1, .int 0])), (h1, .inl (cI, 40, .inl (fun _ => 0)))] := hD
  refine lv_iconst (v := 0) hx hb dX6_become_19 (by decide) ?_
  refine lv_istore_n (lv' := [(3, .int 0), (0, .ref h0), (1, .int 1), (2, .int 0)]) hx hb dX6_become_20 rfl hl (by decide) rfl (fun ls hl => ?_)
  refine lv_iload_n hx hb dX6_become_21 rfl (lv_at hl 0 rfl) ?_
  refine lv_bipush (v := 40) hx hb dX6_become_22 (by decide) ?_
  refine lv_icmp_ge (tgt := 40) hx hb dX6_become_24 (by decide) (fun c1731 => ?_) (fun c1731 => ?_)
  · exact absurd c1731 (by decide)
  · refine lv_aload_n hx hb dX6_become_27 rfl (lv_at hl 1 rfl) ?_
    refine va_get (D := D) (ci := 6) (v := .ref h1) (C := RX6) (T := TX6) (N := 3) hx hb hts hin6 hown hK hP 0 rfl rfl 0 (by decide) (hts (.fieldLink RX6 9 "MissedPoints$Sheet" "numbers" "[I") (by decide +kernel)) (fun _ h9 => h9) rfl dX6_become_28 ?_
    refine lv_iload_n hx hb dX6_become_31 rfl (lv_at hl 0 rfl) ?_
    refine lv_iconst (v := 0) hx hb dX6_become_32 (by decide) ?_
    refine lz_astc hx hb hK hP hD hS 1 0 rfl rfl (lz_vp (x := 0) (n := 40) (by decide) (by decide)) dX6_become_33 (fun H locs hP hD hS => ?_)
    refine lv_iinc (v := 1) (lv' := [(3, .int 1), (0, .ref h0), (1, .int 1), (2, .int 0)]) hx hb dX6_become_34 hl (k := 0) rfl (by decide) (by decide) rfl (fun ls hl => ?_)
    refine lv_goto (tgt := 21) hx hb dX6_become_37 (by decide) ?_
    refine lv_iload_n hx hb dX6_become_21 rfl (lv_at hl 0 rfl) ?_
    refine lv_bipush (v := 40) hx hb dX6_become_22 (by decide) ?_
    refine lv_icmp_ge (tgt := 40) hx hb dX6_become_24 (by decide) (fun c1732 => ?_) (fun c1732 => ?_)
    · exact absurd c1732 (by decide)
    · refine lv_aload_n hx hb dX6_become_27 rfl (lv_at hl 1 rfl) ?_
      refine va_get (D := D) (ci := 6) (v := .ref h1) (C := RX6) (T := TX6) (N := 3) hx hb hts hin6 hown hK hP 0 rfl rfl 0 (by decide) (hts (.fieldLink RX6 9 "MissedPoints$Sheet" "numbers" "[I") (by decide +kernel)) (fun _ h9 => h9) rfl dX6_become_28 ?_
      refine lv_iload_n hx hb dX6_become_31 rfl (lv_at hl 0 rfl) ?_
      refine lv_iconst (v := 0) hx hb dX6_become_32 (by decide) ?_
      refine lz_astc hx hb hK hP hD hS 1 0 rfl rfl (lz_vp (x := 1) (n := 40) (by decide) (by decide)) dX6_become_33 (fun H locs hP hD hS => ?_)
      refine lv_iinc (v := 2) (lv' := [(3, .int 2), (0, .ref h0), (1, .int 1), (2, .int 0)]) hx hb dX6_become_34 hl (k := 0) rfl (by decide) (by decide) rfl (fun ls hl => ?_)
      refine lv_goto (tgt := 21) hx hb dX6_become_37 (by decide) ?_
      refine lv_iload_n hx hb dX6_become_21 rfl (lv_at hl 0 rfl) ?_
      refine lv_bipush (v := 40) hx hb dX6_become_22 (by decide) ?_
      refine lv_icmp_ge (tgt := 40) hx hb dX6_become_24 (by decide) (fun c1733 => ?_) (fun c1733 => ?_)
      · exact absurd c1733 (by decide)
      · refine lv_aload_n hx hb dX6_become_27 rfl (lv_at hl 1 rfl) ?_
        refine va_get (D := D) (ci := 6) (v := .ref h1) (C := RX6) (T := TX6) (N := 3) hx hb hts hin6 hown hK hP 0 rfl rfl 0 (by decide) (hts (.fieldLink RX6 9 "MissedPoints$Sheet" "numbers" "[I") (by decide +kernel)) (fun _ h9 => h9) rfl dX6_become_28 ?_
        refine lv_iload_n hx hb dX6_become_31 rfl (lv_at hl 0 rfl) ?_
        refine lv_iconst (v := 0) hx hb dX6_become_32 (by decide) ?_
        refine lz_astc hx hb hK hP hD hS 1 0 rfl rfl (lz_vp (x := 2) (n := 40) (by decide) (by decide)) dX6_become_33 (fun H locs hP hD hS => ?_)
        refine lv_iinc (v := 3) (lv' := [(3, .int 3), (0, .ref h0), (1, .int 1), (2, .int 0)]) hx hb dX6_become_34 hl (k := 0) rfl (by decide) (by decide) rfl (fun ls hl => ?_)
        refine lv_goto (tgt := 21) hx hb dX6_become_37 (by decide) ?_
        refine lv_iload_n hx hb dX6_become_21 rfl (lv_at hl 0 rfl) ?_
        refine lv_bipush (v := 40) hx hb dX6_become_22 (by decide) ?_
        refine lv_icmp_ge (tgt := 40) hx hb dX6_become_24 (by decide) (fun c1734 => ?_) (fun c1734 => ?_)
        · exact absurd c1734 (by decide)
        · refine lv_aload_n hx hb dX6_become_27 rfl (lv_at hl 1 rfl) ?_
          refine va_get (D := D) (ci := 6) (v := .ref h1) (C := RX6) (T := TX6) (N := 3) hx hb hts hin6 hown hK hP 0 rfl rfl 0 (by decide) (hts (.fieldLink RX6 9 "MissedPoints$Sheet" "numbers" "[I") (by decide +kernel)) (fun _ h9 => h9) rfl dX6_become_28 ?_
          refine lv_iload_n hx hb dX6_become_31 rfl (lv_at hl 0 rfl) ?_
          refine lv_iconst (v := 0) hx hb dX6_become_32 (by decide) ?_
          refine lz_astc hx hb hK hP hD hS 1 0 rfl rfl (lz_vp (x := 3) (n := 40) (by decide) (by decide)) dX6_become_33 (fun H locs hP hD hS => ?_)
          refine lv_iinc (v := 4) (lv' := [(3, .int 4), (0, .ref h0), (1, .int 1), (2, .int 0)]) hx hb dX6_become_34 hl (k := 0) rfl (by decide) (by decide) rfl (fun ls hl => ?_)
          refine lv_goto (tgt := 21) hx hb dX6_become_37 (by decide) ?_
          refine lv_iload_n hx hb dX6_become_21 rfl (lv_at hl 0 rfl) ?_
          refine lv_bipush (v := 40) hx hb dX6_become_22 (by decide) ?_
          refine lv_icmp_ge (tgt := 40) hx hb dX6_become_24 (by decide) (fun c1735 => ?_) (fun c1735 => ?_)
          · exact absurd c1735 (by decide)
          · refine lv_aload_n hx hb dX6_become_27 rfl (lv_at hl 1 rfl) ?_
            refine va_get (D := D) (ci := 6) (v := .ref h1) (C := RX6) (T := TX6) (N := 3) hx hb hts hin6 hown hK hP 0 rfl rfl 0 (by decide) (hts (.fieldLink RX6 9 "MissedPoints$Sheet" "numbers" "[I") (by decide +kernel)) (fun _ h9 => h9) rfl dX6_become_28 ?_
            refine lv_iload_n hx hb dX6_become_31 rfl (lv_at hl 0 rfl) ?_
            refine lv_iconst (v := 0) hx hb dX6_become_32 (by decide) ?_
            refine lz_astc hx hb hK hP hD hS 1 0 rfl rfl (lz_vp (x := 4) (n := 40) (by decide) (by decide)) dX6_become_33 (fun H locs hP hD hS => ?_)
            refine lv_iinc (v := 5) (lv' := [(3, .int 5), (0, .ref h0), (1, .int 1), (2, .int 0)]) hx hb dX6_become_34 hl (k := 0) rfl (by decide) (by decide) rfl (fun ls hl => ?_)
            refine lv_goto (tgt := 21) hx hb dX6_become_37 (by decide) ?_
            refine lv_iload_n hx hb dX6_become_21 rfl (lv_at hl 0 rfl) ?_
            refine lv_bipush (v := 40) hx hb dX6_become_22 (by decide) ?_
            refine lv_icmp_ge (tgt := 40) hx hb dX6_become_24 (by decide) (fun c1736 => ?_) (fun c1736 => ?_)
            · exact absurd c1736 (by decide)
            · refine lv_aload_n hx hb dX6_become_27 rfl (lv_at hl 1 rfl) ?_
              refine va_get (D := D) (ci := 6) (v := .ref h1) (C := RX6) (T := TX6) (N := 3) hx hb hts hin6 hown hK hP 0 rfl rfl 0 (by decide) (hts (.fieldLink RX6 9 "MissedPoints$Sheet" "numbers" "[I") (by decide +kernel)) (fun _ h9 => h9) rfl dX6_become_28 ?_
              refine lv_iload_n hx hb dX6_become_31 rfl (lv_at hl 0 rfl) ?_
              refine lv_iconst (v := 0) hx hb dX6_become_32 (by decide) ?_
              refine lz_astc hx hb hK hP hD hS 1 0 rfl rfl (lz_vp (x := 5) (n := 40) (by decide) (by decide)) dX6_become_33 (fun H locs hP hD hS => ?_)
              refine lv_iinc (v := 6) (lv' := [(3, .int 6), (0, .ref h0), (1, .int 1), (2, .int 0)]) hx hb dX6_become_34 hl (k := 0) rfl (by decide) (by decide) rfl (fun ls hl => ?_)
              refine lv_goto (tgt := 21) hx hb dX6_become_37 (by decide) ?_
              refine lv_iload_n hx hb dX6_become_21 rfl (lv_at hl 0 rfl) ?_
              refine lv_bipush (v := 40) hx hb dX6_become_22 (by decide) ?_
              refine lv_icmp_ge (tgt := 40) hx hb dX6_become_24 (by decide) (fun c1737 => ?_) (fun c1737 => ?_)
              · exact absurd c1737 (by decide)
              · refine lv_aload_n hx hb dX6_become_27 rfl (lv_at hl 1 rfl) ?_
                refine va_get (D := D) (ci := 6) (v := .ref h1) (C := RX6) (T := TX6) (N := 3) hx hb hts hin6 hown hK hP 0 rfl rfl 0 (by decide) (hts (.fieldLink RX6 9 "MissedPoints$Sheet" "numbers" "[I") (by decide +kernel)) (fun _ h9 => h9) rfl dX6_become_28 ?_
                refine lv_iload_n hx hb dX6_become_31 rfl (lv_at hl 0 rfl) ?_
                refine lv_iconst (v := 0) hx hb dX6_become_32 (by decide) ?_
                refine lz_astc hx hb hK hP hD hS 1 0 rfl rfl (lz_vp (x := 6) (n := 40) (by decide) (by decide)) dX6_become_33 (fun H locs hP hD hS => ?_)
                refine lv_iinc (v := 7) (lv' := [(3, .int 7), (0, .ref h0), (1, .int 1), (2, .int 0)]) hx hb dX6_become_34 hl (k := 0) rfl (by decide) (by decide) rfl (fun ls hl => ?_)
                refine lv_goto (tgt := 21) hx hb dX6_become_37 (by decide) ?_
                refine lv_iload_n hx hb dX6_become_21 rfl (lv_at hl 0 rfl) ?_
                refine lv_bipush (v := 40) hx hb dX6_become_22 (by decide) ?_
                refine lv_icmp_ge (tgt := 40) hx hb dX6_become_24 (by decide) (fun c1738 => ?_) (fun c1738 => ?_)
                · exact absurd c1738 (by decide)
                · refine lv_aload_n hx hb dX6_become_27 rfl (lv_at hl 1 rfl) ?_
                  refine va_get (D := D) (ci := 6) (v := .ref h1) (C := RX6) (T := TX6) (N := 3) hx hb hts hin6 hown hK hP 0 rfl rfl 0 (by decide) (hts (.fieldLink RX6 9 "MissedPoints$Sheet" "numbers" "[I") (by decide +kernel)) (fun _ h9 => h9) rfl dX6_become_28 ?_
                  refine lv_iload_n hx hb dX6_become_31 rfl (lv_at hl 0 rfl) ?_
                  refine lv_iconst (v := 0) hx hb dX6_become_32 (by decide) ?_
                  refine lz_astc hx hb hK hP hD hS 1 0 rfl rfl (lz_vp (x := 7) (n := 40) (by decide) (by decide)) dX6_become_33 (fun H locs hP hD hS => ?_)
                  refine lv_iinc (v := 8) (lv' := [(3, .int 8), (0, .ref h0), (1, .int 1), (2, .int 0)]) hx hb dX6_become_34 hl (k := 0) rfl (by decide) (by decide) rfl (fun ls hl => ?_)
                  refine lv_goto (tgt := 21) hx hb dX6_become_37 (by decide) ?_
                  refine lv_iload_n hx hb dX6_become_21 rfl (lv_at hl 0 rfl) ?_
                  refine lv_bipush (v := 40) hx hb dX6_become_22 (by decide) ?_
                  refine lv_icmp_ge (tgt := 40) hx hb dX6_become_24 (by decide) (fun c1739 => ?_) (fun c1739 => ?_)
                  · exact absurd c1739 (by decide)
                  · refine lv_aload_n hx hb dX6_become_27 rfl (lv_at hl 1 rfl) ?_
                    refine va_get (D := D) (ci := 6) (v := .ref h1) (C := RX6) (T := TX6) (N := 3) hx hb hts hin6 hown hK hP 0 rfl rfl 0 (by decide) (hts (.fieldLink RX6 9 "MissedPoints$Sheet" "numbers" "[I") (by decide +kernel)) (fun _ h9 => h9) rfl dX6_become_28 ?_
                    refine lv_iload_n hx hb dX6_become_31 rfl (lv_at hl 0 rfl) ?_
                    refine lv_iconst (v := 0) hx hb dX6_become_32 (by decide) ?_
                    refine lz_astc hx hb hK hP hD hS 1 0 rfl rfl (lz_vp (x := 8) (n := 40) (by decide) (by decide)) dX6_become_33 (fun H locs hP hD hS => ?_)
                    refine lv_iinc (v := 9) (lv' := [(3, .int 9), (0, .ref h0), (1, .int 1), (2, .int 0)]) hx hb dX6_become_34 hl (k := 0) rfl (by decide) (by decide) rfl (fun ls hl => ?_)
                    refine lv_goto (tgt := 21) hx hb dX6_become_37 (by decide) ?_
                    refine lv_iload_n hx hb dX6_become_21 rfl (lv_at hl 0 rfl) ?_
                    refine lv_bipush (v := 40) hx hb dX6_become_22 (by decide) ?_
                    refine lv_icmp_ge (tgt := 40) hx hb dX6_become_24 (by decide) (fun c1740 => ?_) (fun c1740 => ?_)
                    · exact absurd c1740 (by decide)
                    · refine lv_aload_n hx hb dX6_become_27 rfl (lv_at hl 1 rfl) ?_
                      refine va_get (D := D) (ci := 6) (v := .ref h1) (C := RX6) (T := TX6) (N := 3) hx hb hts hin6 hown hK hP 0 rfl rfl 0 (by decide) (hts (.fieldLink RX6 9 "MissedPoints$Sheet" "numbers" "[I") (by decide +kernel)) (fun _ h9 => h9) rfl dX6_become_28 ?_
                      refine lv_iload_n hx hb dX6_become_31 rfl (lv_at hl 0 rfl) ?_
                      refine lv_iconst (v := 0) hx hb dX6_become_32 (by decide) ?_
                      refine lz_astc hx hb hK hP hD hS 1 0 rfl rfl (lz_vp (x := 9) (n := 40) (by decide) (by decide)) dX6_become_33 (fun H locs hP hD hS => ?_)
                      refine lv_iinc (v := 10) (lv' := [(3, .int 10), (0, .ref h0), (1, .int 1), (2, .int 0)]) hx hb dX6_become_34 hl (k := 0) rfl (by decide) (by decide) rfl (fun ls hl => ?_)
                      refine lv_goto (tgt := 21) hx hb dX6_become_37 (by decide) ?_
                      refine lv_iload_n hx hb dX6_become_21 rfl (lv_at hl 0 rfl) ?_
                      refine lv_bipush (v := 40) hx hb dX6_become_22 (by decide) ?_
                      refine lv_icmp_ge (tgt := 40) hx hb dX6_become_24 (by decide) (fun c1741 => ?_) (fun c1741 => ?_)
                      · exact absurd c1741 (by decide)
                      · refine lv_aload_n hx hb dX6_become_27 rfl (lv_at hl 1 rfl) ?_
                        refine va_get (D := D) (ci := 6) (v := .ref h1) (C := RX6) (T := TX6) (N := 3) hx hb hts hin6 hown hK hP 0 rfl rfl 0 (by decide) (hts (.fieldLink RX6 9 "MissedPoints$Sheet" "numbers" "[I") (by decide +kernel)) (fun _ h9 => h9) rfl dX6_become_28 ?_
                        refine lv_iload_n hx hb dX6_become_31 rfl (lv_at hl 0 rfl) ?_
                        refine lv_iconst (v := 0) hx hb dX6_become_32 (by decide) ?_
                        refine lz_astc hx hb hK hP hD hS 1 0 rfl rfl (lz_vp (x := 10) (n := 40) (by decide) (by decide)) dX6_become_33 (fun H locs hP hD hS => ?_)
                        refine lv_iinc (v := 11) (lv' := [(3, .int 11), (0, .ref h0), (1, .int 1), (2, .int 0)]) hx hb dX6_become_34 hl (k := 0) rfl (by decide) (by decide) rfl (fun ls hl => ?_)
                        refine lv_goto (tgt := 21) hx hb dX6_become_37 (by decide) ?_
                        refine lv_iload_n hx hb dX6_become_21 rfl (lv_at hl 0 rfl) ?_
                        refine lv_bipush (v := 40) hx hb dX6_become_22 (by decide) ?_
                        refine lv_icmp_ge (tgt := 40) hx hb dX6_become_24 (by decide) (fun c1742 => ?_) (fun c1742 => ?_)
                        · exact absurd c1742 (by decide)
                        · refine lv_aload_n hx hb dX6_become_27 rfl (lv_at hl 1 rfl) ?_
                          refine va_get (D := D) (ci := 6) (v := .ref h1) (C := RX6) (T := TX6) (N := 3) hx hb hts hin6 hown hK hP 0 rfl rfl 0 (by decide) (hts (.fieldLink RX6 9 "MissedPoints$Sheet" "numbers" "[I") (by decide +kernel)) (fun _ h9 => h9) rfl dX6_become_28 ?_
                          refine lv_iload_n hx hb dX6_become_31 rfl (lv_at hl 0 rfl) ?_
                          refine lv_iconst (v := 0) hx hb dX6_become_32 (by decide) ?_
                          refine lz_astc hx hb hK hP hD hS 1 0 rfl rfl (lz_vp (x := 11) (n := 40) (by decide) (by decide)) dX6_become_33 (fun H locs hP hD hS => ?_)
                          refine lv_iinc (v := 12) (lv' := [(3, .int 12), (0, .ref h0), (1, .int 1), (2, .int 0)]) hx hb dX6_become_34 hl (k := 0) rfl (by decide) (by decide) rfl (fun ls hl => ?_)
                          refine lv_goto (tgt := 21) hx hb dX6_become_37 (by decide) ?_
                          refine lv_iload_n hx hb dX6_become_21 rfl (lv_at hl 0 rfl) ?_
                          refine lv_bipush (v := 40) hx hb dX6_become_22 (by decide) ?_
                          refine lv_icmp_ge (tgt := 40) hx hb dX6_become_24 (by decide) (fun c1743 => ?_) (fun c1743 => ?_)
                          · exact absurd c1743 (by decide)
                          · refine lv_aload_n hx hb dX6_become_27 rfl (lv_at hl 1 rfl) ?_
                            refine va_get (D := D) (ci := 6) (v := .ref h1) (C := RX6) (T := TX6) (N := 3) hx hb hts hin6 hown hK hP 0 rfl rfl 0 (by decide) (hts (.fieldLink RX6 9 "MissedPoints$Sheet" "numbers" "[I") (by decide +kernel)) (fun _ h9 => h9) rfl dX6_become_28 ?_
                            refine lv_iload_n hx hb dX6_become_31 rfl (lv_at hl 0 rfl) ?_
                            refine lv_iconst (v := 0) hx hb dX6_become_32 (by decide) ?_
                            refine lz_astc hx hb hK hP hD hS 1 0 rfl rfl (lz_vp (x := 12) (n := 40) (by decide) (by decide)) dX6_become_33 (fun H locs hP hD hS => ?_)
                            refine lv_iinc (v := 13) (lv' := [(3, .int 13), (0, .ref h0), (1, .int 1), (2, .int 0)]) hx hb dX6_become_34 hl (k := 0) rfl (by decide) (by decide) rfl (fun ls hl => ?_)
                            refine lv_goto (tgt := 21) hx hb dX6_become_37 (by decide) ?_
                            refine lv_iload_n hx hb dX6_become_21 rfl (lv_at hl 0 rfl) ?_
                            refine lv_bipush (v := 40) hx hb dX6_become_22 (by decide) ?_
                            refine lv_icmp_ge (tgt := 40) hx hb dX6_become_24 (by decide) (fun c1744 => ?_) (fun c1744 => ?_)
                            · exact absurd c1744 (by decide)
                            · refine lv_aload_n hx hb dX6_become_27 rfl (lv_at hl 1 rfl) ?_
                              refine va_get (D := D) (ci := 6) (v := .ref h1) (C := RX6) (T := TX6) (N := 3) hx hb hts hin6 hown hK hP 0 rfl rfl 0 (by decide) (hts (.fieldLink RX6 9 "MissedPoints$Sheet" "numbers" "[I") (by decide +kernel)) (fun _ h9 => h9) rfl dX6_become_28 ?_
                              refine lv_iload_n hx hb dX6_become_31 rfl (lv_at hl 0 rfl) ?_
                              refine lv_iconst (v := 0) hx hb dX6_become_32 (by decide) ?_
                              refine lz_astc hx hb hK hP hD hS 1 0 rfl rfl (lz_vp (x := 13) (n := 40) (by decide) (by decide)) dX6_become_33 (fun H locs hP hD hS => ?_)
                              refine lv_iinc (v := 14) (lv' := [(3, .int 14), (0, .ref h0), (1, .int 1), (2, .int 0)]) hx hb dX6_become_34 hl (k := 0) rfl (by decide) (by decide) rfl (fun ls hl => ?_)
                              refine lv_goto (tgt := 21) hx hb dX6_become_37 (by decide) ?_
                              refine lv_iload_n hx hb dX6_become_21 rfl (lv_at hl 0 rfl) ?_
                              refine lv_bipush (v := 40) hx hb dX6_become_22 (by decide) ?_
                              refine lv_icmp_ge (tgt := 40) hx hb dX6_become_24 (by decide) (fun c1745 => ?_) (fun c1745 => ?_)
                              · exact absurd c1745 (by decide)
                              · refine lv_aload_n hx hb dX6_become_27 rfl (lv_at hl 1 rfl) ?_
                                refine va_get (D := D) (ci := 6) (v := .ref h1) (C := RX6) (T := TX6) (N := 3) hx hb hts hin6 hown hK hP 0 rfl rfl 0 (by decide) (hts (.fieldLink RX6 9 "MissedPoints$Sheet" "numbers" "[I") (by decide +kernel)) (fun _ h9 => h9) rfl dX6_become_28 ?_
                                refine lv_iload_n hx hb dX6_become_31 rfl (lv_at hl 0 rfl) ?_
                                refine lv_iconst (v := 0) hx hb dX6_become_32 (by decide) ?_
                                refine lz_astc hx hb hK hP hD hS 1 0 rfl rfl (lz_vp (x := 14) (n := 40) (by decide) (by decide)) dX6_become_33 (fun H locs hP hD hS => ?_)
                                refine lv_iinc (v := 15) (lv' := [(3, .int 15), (0, .ref h0), (1, .int 1), (2, .int 0)]) hx hb dX6_become_34 hl (k := 0) rfl (by decide) (by decide) rfl (fun ls hl => ?_)
                                refine lv_goto (tgt := 21) hx hb dX6_become_37 (by decide) ?_
                                refine lv_iload_n hx hb dX6_become_21 rfl (lv_at hl 0 rfl) ?_
                                refine lv_bipush (v := 40) hx hb dX6_become_22 (by decide) ?_
                                refine lv_icmp_ge (tgt := 40) hx hb dX6_become_24 (by decide) (fun c1746 => ?_) (fun c1746 => ?_)
                                · exact absurd c1746 (by decide)
                                · refine lv_aload_n hx hb dX6_become_27 rfl (lv_at hl 1 rfl) ?_
                                  refine va_get (D := D) (ci := 6) (v := .ref h1) (C := RX6) (T := TX6) (N := 3) hx hb hts hin6 hown hK hP 0 rfl rfl 0 (by decide) (hts (.fieldLink RX6 9 "MissedPoints$Sheet" "numbers" "[I") (by decide +kernel)) (fun _ h9 => h9) rfl dX6_become_28 ?_
                                  refine lv_iload_n hx hb dX6_become_31 rfl (lv_at hl 0 rfl) ?_
                                  refine lv_iconst (v := 0) hx hb dX6_become_32 (by decide) ?_
                                  refine lz_astc hx hb hK hP hD hS 1 0 rfl rfl (lz_vp (x := 15) (n := 40) (by decide) (by decide)) dX6_become_33 (fun H locs hP hD hS => ?_)
                                  refine lv_iinc (v := 16) (lv' := [(3, .int 16), (0, .ref h0), (1, .int 1), (2, .int 0)]) hx hb dX6_become_34 hl (k := 0) rfl (by decide) (by decide) rfl (fun ls hl => ?_)
                                  refine lv_goto (tgt := 21) hx hb dX6_become_37 (by decide) ?_
                                  refine lv_iload_n hx hb dX6_become_21 rfl (lv_at hl 0 rfl) ?_
                                  refine lv_bipush (v := 40) hx hb dX6_become_22 (by decide) ?_
                                  refine lv_icmp_ge (tgt := 40) hx hb dX6_become_24 (by decide) (fun c1747 => ?_) (fun c1747 => ?_)
                                  · exact absurd c1747 (by decide)
                                  · refine lv_aload_n hx hb dX6_become_27 rfl (lv_at hl 1 rfl) ?_
                                    refine va_get (D := D) (ci := 6) (v := .ref h1) (C := RX6) (T := TX6) (N := 3) hx hb hts hin6 hown hK hP 0 rfl rfl 0 (by decide) (hts (.fieldLink RX6 9 "MissedPoints$Sheet" "numbers" "[I") (by decide +kernel)) (fun _ h9 => h9) rfl dX6_become_28 ?_
                                    refine lv_iload_n hx hb dX6_become_31 rfl (lv_at hl 0 rfl) ?_
                                    refine lv_iconst (v := 0) hx hb dX6_become_32 (by decide) ?_
                                    refine lz_astc hx hb hK hP hD hS 1 0 rfl rfl (lz_vp (x := 16) (n := 40) (by decide) (by decide)) dX6_become_33 (fun H locs hP hD hS => ?_)
                                    refine lv_iinc (v := 17) (lv' := [(3, .int 17), (0, .ref h0), (1, .int 1), (2, .int 0)]) hx hb dX6_become_34 hl (k := 0) rfl (by decide) (by decide) rfl (fun ls hl => ?_)
                                    refine lv_goto (tgt := 21) hx hb dX6_become_37 (by decide) ?_
                                    refine lv_iload_n hx hb dX6_become_21 rfl (lv_at hl 0 rfl) ?_
                                    refine lv_bipush (v := 40) hx hb dX6_become_22 (by decide) ?_
                                    refine lv_icmp_ge (tgt := 40) hx hb dX6_become_24 (by decide) (fun c1748 => ?_) (fun c1748 => ?_)
                                    · exact absurd c1748 (by decide)
                                    · refine lv_aload_n hx hb dX6_become_27 rfl (lv_at hl 1 rfl) ?_
                                      refine va_get (D := D) (ci := 6) (v := .ref h1) (C := RX6) (T := TX6) (N := 3) hx hb hts hin6 hown hK hP 0 rfl rfl 0 (by decide) (hts (.fieldLink RX6 9 "MissedPoints$Sheet" "numbers" "[I") (by decide +kernel)) (fun _ h9 => h9) rfl dX6_become_28 ?_
                                      refine lv_iload_n hx hb dX6_become_31 rfl (lv_at hl 0 rfl) ?_
                                      refine lv_iconst (v := 0) hx hb dX6_become_32 (by decide) ?_
                                      refine lz_astc hx hb hK hP hD hS 1 0 rfl rfl (lz_vp (x := 17) (n := 40) (by decide) (by decide)) dX6_become_33 (fun H locs hP hD hS => ?_)
                                      refine lv_iinc (v := 18) (lv' := [(3, .int 18), (0, .ref h0), (1, .int 1), (2, .int 0)]) hx hb dX6_become_34 hl (k := 0) rfl (by decide) (by decide) rfl (fun ls hl => ?_)
                                      refine lv_goto (tgt := 21) hx hb dX6_become_37 (by decide) ?_
                                      refine lv_iload_n hx hb dX6_become_21 rfl (lv_at hl 0 rfl) ?_
                                      refine lv_bipush (v := 40) hx hb dX6_become_22 (by decide) ?_
                                      refine lv_icmp_ge (tgt := 40) hx hb dX6_become_24 (by decide) (fun c1749 => ?_) (fun c1749 => ?_)
                                      · exact absurd c1749 (by decide)
                                      · refine lv_aload_n hx hb dX6_become_27 rfl (lv_at hl 1 rfl) ?_
                                        refine va_get (D := D) (ci := 6) (v := .ref h1) (C := RX6) (T := TX6) (N := 3) hx hb hts hin6 hown hK hP 0 rfl rfl 0 (by decide) (hts (.fieldLink RX6 9 "MissedPoints$Sheet" "numbers" "[I") (by decide +kernel)) (fun _ h9 => h9) rfl dX6_become_28 ?_
                                        refine lv_iload_n hx hb dX6_become_31 rfl (lv_at hl 0 rfl) ?_
                                        refine lv_iconst (v := 0) hx hb dX6_become_32 (by decide) ?_
                                        refine lz_astc hx hb hK hP hD hS 1 0 rfl rfl (lz_vp (x := 18) (n := 40) (by decide) (by decide)) dX6_become_33 (fun H locs hP hD hS => ?_)
                                        refine lv_iinc (v := 19) (lv' := [(3, .int 19), (0, .ref h0), (1, .int 1), (2, .int 0)]) hx hb dX6_become_34 hl (k := 0) rfl (by decide) (by decide) rfl (fun ls hl => ?_)
                                        refine lv_goto (tgt := 21) hx hb dX6_become_37 (by decide) ?_
                                        refine lv_iload_n hx hb dX6_become_21 rfl (lv_at hl 0 rfl) ?_
                                        refine lv_bipush (v := 40) hx hb dX6_become_22 (by decide) ?_
                                        refine lv_icmp_ge (tgt := 40) hx hb dX6_become_24 (by decide) (fun c1750 => ?_) (fun c1750 => ?_)
                                        · exact absurd c1750 (by decide)
                                        · refine lv_aload_n hx hb dX6_become_27 rfl (lv_at hl 1 rfl) ?_
                                          refine va_get (D := D) (ci := 6) (v := .ref h1) (C := RX6) (T := TX6) (N := 3) hx hb hts hin6 hown hK hP 0 rfl rfl 0 (by decide) (hts (.fieldLink RX6 9 "MissedPoints$Sheet" "numbers" "[I") (by decide +kernel)) (fun _ h9 => h9) rfl dX6_become_28 ?_
                                          refine lv_iload_n hx hb dX6_become_31 rfl (lv_at hl 0 rfl) ?_
                                          refine lv_iconst (v := 0) hx hb dX6_become_32 (by decide) ?_
                                          refine lz_astc hx hb hK hP hD hS 1 0 rfl rfl (lz_vp (x := 19) (n := 40) (by decide) (by decide)) dX6_become_33 (fun H locs hP hD hS => ?_)
                                          refine lv_iinc (v := 20) (lv' := [(3, .int 20), (0, .ref h0), (1, .int 1), (2, .int 0)]) hx hb dX6_become_34 hl (k := 0) rfl (by decide) (by decide) rfl (fun ls hl => ?_)
                                          refine lv_goto (tgt := 21) hx hb dX6_become_37 (by decide) ?_
                                          refine lv_iload_n hx hb dX6_become_21 rfl (lv_at hl 0 rfl) ?_
                                          refine lv_bipush (v := 40) hx hb dX6_become_22 (by decide) ?_
                                          refine lv_icmp_ge (tgt := 40) hx hb dX6_become_24 (by decide) (fun c1751 => ?_) (fun c1751 => ?_)
                                          · exact absurd c1751 (by decide)
                                          · refine lv_aload_n hx hb dX6_become_27 rfl (lv_at hl 1 rfl) ?_
                                            refine va_get (D := D) (ci := 6) (v := .ref h1) (C := RX6) (T := TX6) (N := 3) hx hb hts hin6 hown hK hP 0 rfl rfl 0 (by decide) (hts (.fieldLink RX6 9 "MissedPoints$Sheet" "numbers" "[I") (by decide +kernel)) (fun _ h9 => h9) rfl dX6_become_28 ?_
                                            refine lv_iload_n hx hb dX6_become_31 rfl (lv_at hl 0 rfl) ?_
                                            refine lv_iconst (v := 0) hx hb dX6_become_32 (by decide) ?_
                                            refine lz_astc hx hb hK hP hD hS 1 0 rfl rfl (lz_vp (x := 20) (n := 40) (by decide) (by decide)) dX6_become_33 (fun H locs hP hD hS => ?_)
                                            refine lv_iinc (v := 21) (lv' := [(3, .int 21), (0, .ref h0), (1, .int 1), (2, .int 0)]) hx hb dX6_become_34 hl (k := 0) rfl (by decide) (by decide) rfl (fun ls hl => ?_)
                                            refine lv_goto (tgt := 21) hx hb dX6_become_37 (by decide) ?_
                                            refine lv_iload_n hx hb dX6_become_21 rfl (lv_at hl 0 rfl) ?_
                                            refine lv_bipush (v := 40) hx hb dX6_become_22 (by decide) ?_
                                            refine lv_icmp_ge (tgt := 40) hx hb dX6_become_24 (by decide) (fun c1752 => ?_) (fun c1752 => ?_)
                                            · exact absurd c1752 (by decide)
                                            · refine lv_aload_n hx hb dX6_become_27 rfl (lv_at hl 1 rfl) ?_
                                              refine va_get (D := D) (ci := 6) (v := .ref h1) (C := RX6) (T := TX6) (N := 3) hx hb hts hin6 hown hK hP 0 rfl rfl 0 (by decide) (hts (.fieldLink RX6 9 "MissedPoints$Sheet" "numbers" "[I") (by decide +kernel)) (fun _ h9 => h9) rfl dX6_become_28 ?_
                                              refine lv_iload_n hx hb dX6_become_31 rfl (lv_at hl 0 rfl) ?_
                                              refine lv_iconst (v := 0) hx hb dX6_become_32 (by decide) ?_
                                              refine lz_astc hx hb hK hP hD hS 1 0 rfl rfl (lz_vp (x := 21) (n := 40) (by decide) (by decide)) dX6_become_33 (fun H locs hP hD hS => ?_)
                                              refine lv_iinc (v := 22) (lv' := [(3, .int 22), (0, .ref h0), (1, .int 1), (2, .int 0)]) hx hb dX6_become_34 hl (k := 0) rfl (by decide) (by decide) rfl (fun ls hl => ?_)
                                              refine lv_goto (tgt := 21) hx hb dX6_become_37 (by decide) ?_
                                              refine lv_iload_n hx hb dX6_become_21 rfl (lv_at hl 0 rfl) ?_
                                              refine lv_bipush (v := 40) hx hb dX6_become_22 (by decide) ?_
                                              refine lv_icmp_ge (tgt := 40) hx hb dX6_become_24 (by decide) (fun c1753 => ?_) (fun c1753 => ?_)
                                              · exact absurd c1753 (by decide)
                                              · refine lv_aload_n hx hb dX6_become_27 rfl (lv_at hl 1 rfl) ?_
                                                refine va_get (D := D) (ci := 6) (v := .ref h1) (C := RX6) (T := TX6) (N := 3) hx hb hts hin6 hown hK hP 0 rfl rfl 0 (by decide) (hts (.fieldLink RX6 9 "MissedPoints$Sheet" "numbers" "[I") (by decide +kernel)) (fun _ h9 => h9) rfl dX6_become_28 ?_
                                                refine lv_iload_n hx hb dX6_become_31 rfl (lv_at hl 0 rfl) ?_
                                                refine lv_iconst (v := 0) hx hb dX6_become_32 (by decide) ?_
                                                refine lz_astc hx hb hK hP hD hS 1 0 rfl rfl (lz_vp (x := 22) (n := 40) (by decide) (by decide)) dX6_become_33 (fun H locs hP hD hS => ?_)
                                                refine lv_iinc (v := 23) (lv' := [(3, .int 23), (0, .ref h0), (1, .int 1), (2, .int 0)]) hx hb dX6_become_34 hl (k := 0) rfl (by decide) (by decide) rfl (fun ls hl => ?_)
                                                refine lv_goto (tgt := 21) hx hb dX6_become_37 (by decide) ?_
                                                refine lv_iload_n hx hb dX6_become_21 rfl (lv_at hl 0 rfl) ?_
                                                refine lv_bipush (v := 40) hx hb dX6_become_22 (by decide) ?_
                                                refine lv_icmp_ge (tgt := 40) hx hb dX6_become_24 (by decide) (fun c1754 => ?_) (fun c1754 => ?_)
                                                · exact absurd c1754 (by decide)
                                                · refine lv_aload_n hx hb dX6_become_27 rfl (lv_at hl 1 rfl) ?_
                                                  refine va_get (D := D) (ci := 6) (v := .ref h1) (C := RX6) (T := TX6) (N := 3) hx hb hts hin6 hown hK hP 0 rfl rfl 0 (by decide) (hts (.fieldLink RX6 9 "MissedPoints$Sheet" "numbers" "[I") (by decide +kernel)) (fun _ h9 => h9) rfl dX6_become_28 ?_
                                                  refine lv_iload_n hx hb dX6_become_31 rfl (lv_at hl 0 rfl) ?_
                                                  refine lv_iconst (v := 0) hx hb dX6_become_32 (by decide) ?_
                                                  refine lz_astc hx hb hK hP hD hS 1 0 rfl rfl (lz_vp (x := 23) (n := 40) (by decide) (by decide)) dX6_become_33 (fun H locs hP hD hS => ?_)
                                                  refine lv_iinc (v := 24) (lv' := [(3, .int 24), (0, .ref h0), (1, .int 1), (2, .int 0)]) hx hb dX6_become_34 hl (k := 0) rfl (by decide) (by decide) rfl (fun ls hl => ?_)
                                                  refine lv_goto (tgt := 21) hx hb dX6_become_37 (by decide) ?_
                                                  refine lv_iload_n hx hb dX6_become_21 rfl (lv_at hl 0 rfl) ?_
                                                  refine lv_bipush (v := 40) hx hb dX6_become_22 (by decide) ?_
                                                  refine lv_icmp_ge (tgt := 40) hx hb dX6_become_24 (by decide) (fun c1755 => ?_) (fun c1755 => ?_)
                                                  · exact absurd c1755 (by decide)
                                                  · refine lv_aload_n hx hb dX6_become_27 rfl (lv_at hl 1 rfl) ?_
                                                    refine va_get (D := D) (ci := 6) (v := .ref h1) (C := RX6) (T := TX6) (N := 3) hx hb hts hin6 hown hK hP 0 rfl rfl 0 (by decide) (hts (.fieldLink RX6 9 "MissedPoints$Sheet" "numbers" "[I") (by decide +kernel)) (fun _ h9 => h9) rfl dX6_become_28 ?_
                                                    refine lv_iload_n hx hb dX6_become_31 rfl (lv_at hl 0 rfl) ?_
                                                    refine lv_iconst (v := 0) hx hb dX6_become_32 (by decide) ?_
                                                    refine lz_astc hx hb hK hP hD hS 1 0 rfl rfl (lz_vp (x := 24) (n := 40) (by decide) (by decide)) dX6_become_33 (fun H locs hP hD hS => ?_)
                                                    refine lv_iinc (v := 25) (lv' := [(3, .int 25), (0, .ref h0), (1, .int 1), (2, .int 0)]) hx hb dX6_become_34 hl (k := 0) rfl (by decide) (by decide) rfl (fun ls hl => ?_)
                                                    refine lv_goto (tgt := 21) hx hb dX6_become_37 (by decide) ?_
                                                    refine lv_iload_n hx hb dX6_become_21 rfl (lv_at hl 0 rfl) ?_
                                                    refine lv_bipush (v := 40) hx hb dX6_become_22 (by decide) ?_
                                                    refine lv_icmp_ge (tgt := 40) hx hb dX6_become_24 (by decide) (fun c1756 => ?_) (fun c1756 => ?_)
                                                    · exact absurd c1756 (by decide)
                                                    · refine lv_aload_n hx hb dX6_become_27 rfl (lv_at hl 1 rfl) ?_
                                                      refine va_get (D := D) (ci := 6) (v := .ref h1) (C := RX6) (T := TX6) (N := 3) hx hb hts hin6 hown hK hP 0 rfl rfl 0 (by decide) (hts (.fieldLink RX6 9 "MissedPoints$Sheet" "numbers" "[I") (by decide +kernel)) (fun _ h9 => h9) rfl dX6_become_28 ?_
                                                      refine lv_iload_n hx hb dX6_become_31 rfl (lv_at hl 0 rfl) ?_
                                                      refine lv_iconst (v := 0) hx hb dX6_become_32 (by decide) ?_
                                                      refine lz_astc hx hb hK hP hD hS 1 0 rfl rfl (lz_vp (x := 25) (n := 40) (by decide) (by decide)) dX6_become_33 (fun H locs hP hD hS => ?_)
                                                      refine lv_iinc (v := 26) (lv' := [(3, .int 26), (0, .ref h0), (1, .int 1), (2, .int 0)]) hx hb dX6_become_34 hl (k := 0) rfl (by decide) (by decide) rfl (fun ls hl => ?_)
                                                      refine lv_goto (tgt := 21) hx hb dX6_become_37 (by decide) ?_
                                                      refine lv_iload_n hx hb dX6_become_21 rfl (lv_at hl 0 rfl) ?_
                                                      refine lv_bipush (v := 40) hx hb dX6_become_22 (by decide) ?_
                                                      refine lv_icmp_ge (tgt := 40) hx hb dX6_become_24 (by decide) (fun c1757 => ?_) (fun c1757 => ?_)
                                                      · exact absurd c1757 (by decide)
                                                      · refine lv_aload_n hx hb dX6_become_27 rfl (lv_at hl 1 rfl) ?_
                                                        refine va_get (D := D) (ci := 6) (v := .ref h1) (C := RX6) (T := TX6) (N := 3) hx hb hts hin6 hown hK hP 0 rfl rfl 0 (by decide) (hts (.fieldLink RX6 9 "MissedPoints$Sheet" "numbers" "[I") (by decide +kernel)) (fun _ h9 => h9) rfl dX6_become_28 ?_
                                                        refine lv_iload_n hx hb dX6_become_31 rfl (lv_at hl 0 rfl) ?_
                                                        refine lv_iconst (v := 0) hx hb dX6_become_32 (by decide) ?_
                                                        refine lz_astc hx hb hK hP hD hS 1 0 rfl rfl (lz_vp (x := 26) (n := 40) (by decide) (by decide)) dX6_become_33 (fun H locs hP hD hS => ?_)
                                                        refine lv_iinc (v := 27) (lv' := [(3, .int 27), (0, .ref h0), (1, .int 1), (2, .int 0)]) hx hb dX6_become_34 hl (k := 0) rfl (by decide) (by decide) rfl (fun ls hl => ?_)
                                                        refine lv_goto (tgt := 21) hx hb dX6_become_37 (by decide) ?_
                                                        refine lv_iload_n hx hb dX6_become_21 rfl (lv_at hl 0 rfl) ?_
                                                        refine lv_bipush (v := 40) hx hb dX6_become_22 (by decide) ?_
                                                        refine lv_icmp_ge (tgt := 40) hx hb dX6_become_24 (by decide) (fun c1758 => ?_) (fun c1758 => ?_)
                                                        · exact absurd c1758 (by decide)
                                                        · refine lv_aload_n hx hb dX6_become_27 rfl (lv_at hl 1 rfl) ?_
                                                          refine va_get (D := D) (ci := 6) (v := .ref h1) (C := RX6) (T := TX6) (N := 3) hx hb hts hin6 hown hK hP 0 rfl rfl 0 (by decide) (hts (.fieldLink RX6 9 "MissedPoints$Sheet" "numbers" "[I") (by decide +kernel)) (fun _ h9 => h9) rfl dX6_become_28 ?_
                                                          refine lv_iload_n hx hb dX6_become_31 rfl (lv_at hl 0 rfl) ?_
                                                          refine lv_iconst (v := 0) hx hb dX6_become_32 (by decide) ?_
                                                          refine lz_astc hx hb hK hP hD hS 1 0 rfl rfl (lz_vp (x := 27) (n := 40) (by decide) (by decide)) dX6_become_33 (fun H locs hP hD hS => ?_)
                                                          refine lv_iinc (v := 28) (lv' := [(3, .int 28), (0, .ref h0), (1, .int 1), (2, .int 0)]) hx hb dX6_become_34 hl (k := 0) rfl (by decide) (by decide) rfl (fun ls hl => ?_)
                                                          refine lv_goto (tgt := 21) hx hb dX6_become_37 (by decide) ?_
                                                          refine lv_iload_n hx hb dX6_become_21 rfl (lv_at hl 0 rfl) ?_
                                                          refine lv_bipush (v := 40) hx hb dX6_become_22 (by decide) ?_
                                                          refine lv_icmp_ge (tgt := 40) hx hb dX6_become_24 (by decide) (fun c1759 => ?_) (fun c1759 => ?_)
                                                          · exact absurd c1759 (by decide)
                                                          · refine lv_aload_n hx hb dX6_become_27 rfl (lv_at hl 1 rfl) ?_
                                                            refine va_get (D := D) (ci := 6) (v := .ref h1) (C := RX6) (T := TX6) (N := 3) hx hb hts hin6 hown hK hP 0 rfl rfl 0 (by decide) (hts (.fieldLink RX6 9 "MissedPoints$Sheet" "numbers" "[I") (by decide +kernel)) (fun _ h9 => h9) rfl dX6_become_28 ?_
                                                            refine lv_iload_n hx hb dX6_become_31 rfl (lv_at hl 0 rfl) ?_
                                                            refine lv_iconst (v := 0) hx hb dX6_become_32 (by decide) ?_
                                                            refine lz_astc hx hb hK hP hD hS 1 0 rfl rfl (lz_vp (x := 28) (n := 40) (by decide) (by decide)) dX6_become_33 (fun H locs hP hD hS => ?_)
                                                            refine lv_iinc (v := 29) (lv' := [(3, .int 29), (0, .ref h0), (1, .int 1), (2, .int 0)]) hx hb dX6_become_34 hl (k := 0) rfl (by decide) (by decide) rfl (fun ls hl => ?_)
                                                            refine lv_goto (tgt := 21) hx hb dX6_become_37 (by decide) ?_
                                                            refine lv_iload_n hx hb dX6_become_21 rfl (lv_at hl 0 rfl) ?_
                                                            refine lv_bipush (v := 40) hx hb dX6_become_22 (by decide) ?_
                                                            refine lv_icmp_ge (tgt := 40) hx hb dX6_become_24 (by decide) (fun c1760 => ?_) (fun c1760 => ?_)
                                                            · exact absurd c1760 (by decide)
                                                            · refine lv_aload_n hx hb dX6_become_27 rfl (lv_at hl 1 rfl) ?_
                                                              refine va_get (D := D) (ci := 6) (v := .ref h1) (C := RX6) (T := TX6) (N := 3) hx hb hts hin6 hown hK hP 0 rfl rfl 0 (by decide) (hts (.fieldLink RX6 9 "MissedPoints$Sheet" "numbers" "[I") (by decide +kernel)) (fun _ h9 => h9) rfl dX6_become_28 ?_
                                                              refine lv_iload_n hx hb dX6_become_31 rfl (lv_at hl 0 rfl) ?_
                                                              refine lv_iconst (v := 0) hx hb dX6_become_32 (by decide) ?_
                                                              refine lz_astc hx hb hK hP hD hS 1 0 rfl rfl (lz_vp (x := 29) (n := 40) (by decide) (by decide)) dX6_become_33 (fun H locs hP hD hS => ?_)
                                                              refine lv_iinc (v := 30) (lv' := [(3, .int 30), (0, .ref h0), (1, .int 1), (2, .int 0)]) hx hb dX6_become_34 hl (k := 0) rfl (by decide) (by decide) rfl (fun ls hl => ?_)
                                                              refine lv_goto (tgt := 21) hx hb dX6_become_37 (by decide) ?_
                                                              refine lv_iload_n hx hb dX6_become_21 rfl (lv_at hl 0 rfl) ?_
                                                              refine lv_bipush (v := 40) hx hb dX6_become_22 (by decide) ?_
                                                              refine lv_icmp_ge (tgt := 40) hx hb dX6_become_24 (by decide) (fun c1761 => ?_) (fun c1761 => ?_)
                                                              · exact absurd c1761 (by decide)
                                                              · refine lv_aload_n hx hb dX6_become_27 rfl (lv_at hl 1 rfl) ?_
                                                                refine va_get (D := D) (ci := 6) (v := .ref h1) (C := RX6) (T := TX6) (N := 3) hx hb hts hin6 hown hK hP 0 rfl rfl 0 (by decide) (hts (.fieldLink RX6 9 "MissedPoints$Sheet" "numbers" "[I") (by decide +kernel)) (fun _ h9 => h9) rfl dX6_become_28 ?_
                                                                refine lv_iload_n hx hb dX6_become_31 rfl (lv_at hl 0 rfl) ?_
                                                                refine lv_iconst (v := 0) hx hb dX6_become_32 (by decide) ?_
                                                                refine lz_astc hx hb hK hP hD hS 1 0 rfl rfl (lz_vp (x := 30) (n := 40) (by decide) (by decide)) dX6_become_33 (fun H locs hP hD hS => ?_)
                                                                refine lv_iinc (v := 31) (lv' := [(3, .int 31), (0, .ref h0), (1, .int 1), (2, .int 0)]) hx hb dX6_become_34 hl (k := 0) rfl (by decide) (by decide) rfl (fun ls hl => ?_)
                                                                refine lv_goto (tgt := 21) hx hb dX6_become_37 (by decide) ?_
                                                                refine lv_iload_n hx hb dX6_become_21 rfl (lv_at hl 0 rfl) ?_
                                                                refine lv_bipush (v := 40) hx hb dX6_become_22 (by decide) ?_
                                                                refine lv_icmp_ge (tgt := 40) hx hb dX6_become_24 (by decide) (fun c1762 => ?_) (fun c1762 => ?_)
                                                                · exact absurd c1762 (by decide)
                                                                · refine lv_aload_n hx hb dX6_become_27 rfl (lv_at hl 1 rfl) ?_
                                                                  refine va_get (D := D) (ci := 6) (v := .ref h1) (C := RX6) (T := TX6) (N := 3) hx hb hts hin6 hown hK hP 0 rfl rfl 0 (by decide) (hts (.fieldLink RX6 9 "MissedPoints$Sheet" "numbers" "[I") (by decide +kernel)) (fun _ h9 => h9) rfl dX6_become_28 ?_
                                                                  refine lv_iload_n hx hb dX6_become_31 rfl (lv_at hl 0 rfl) ?_
                                                                  refine lv_iconst (v := 0) hx hb dX6_become_32 (by decide) ?_
                                                                  refine lz_astc hx hb hK hP hD hS 1 0 rfl rfl (lz_vp (x := 31) (n := 40) (by decide) (by decide)) dX6_become_33 (fun H locs hP hD hS => ?_)
                                                                  refine lv_iinc (v := 32) (lv' := [(3, .int 32), (0, .ref h0), (1, .int 1), (2, .int 0)]) hx hb dX6_become_34 hl (k := 0) rfl (by decide) (by decide) rfl (fun ls hl => ?_)
                                                                  refine lv_goto (tgt := 21) hx hb dX6_become_37 (by decide) ?_
                                                                  refine lv_iload_n hx hb dX6_become_21 rfl (lv_at hl 0 rfl) ?_
                                                                  refine lv_bipush (v := 40) hx hb dX6_become_22 (by decide) ?_
                                                                  refine lv_icmp_ge (tgt := 40) hx hb dX6_become_24 (by decide) (fun c1763 => ?_) (fun c1763 => ?_)
                                                                  · exact absurd c1763 (by decide)
                                                                  · refine lv_aload_n hx hb dX6_become_27 rfl (lv_at hl 1 rfl) ?_
                                                                    refine va_get (D := D) (ci := 6) (v := .ref h1) (C := RX6) (T := TX6) (N := 3) hx hb hts hin6 hown hK hP 0 rfl rfl 0 (by decide) (hts (.fieldLink RX6 9 "MissedPoints$Sheet" "numbers" "[I") (by decide +kernel)) (fun _ h9 => h9) rfl dX6_become_28 ?_
                                                                    refine lv_iload_n hx hb dX6_become_31 rfl (lv_at hl 0 rfl) ?_
                                                                    refine lv_iconst (v := 0) hx hb dX6_become_32 (by decide) ?_
                                                                    refine lz_astc hx hb hK hP hD hS 1 0 rfl rfl (lz_vp (x := 32) (n := 40) (by decide) (by decide)) dX6_become_33 (fun H locs hP hD hS => ?_)
                                                                    refine lv_iinc (v := 33) (lv' := [(3, .int 33), (0, .ref h0), (1, .int 1), (2, .int 0)]) hx hb dX6_become_34 hl (k := 0) rfl (by decide) (by decide) rfl (fun ls hl => ?_)
                                                                    refine lv_goto (tgt := 21) hx hb dX6_become_37 (by decide) ?_
                                                                    refine lv_iload_n hx hb dX6_become_21 rfl (lv_at hl 0 rfl) ?_
                                                                    refine lv_bipush (v := 40) hx hb dX6_become_22 (by decide) ?_
                                                                    refine lv_icmp_ge (tgt := 40) hx hb dX6_become_24 (by decide) (fun c1764 => ?_) (fun c1764 => ?_)
                                                                    · exact absurd c1764 (by decide)
                                                                    · refine lv_aload_n hx hb dX6_become_27 rfl (lv_at hl 1 rfl) ?_
                                                                      refine va_get (D := D) (ci := 6) (v := .ref h1) (C := RX6) (T := TX6) (N := 3) hx hb hts hin6 hown hK hP 0 rfl rfl 0 (by decide) (hts (.fieldLink RX6 9 "MissedPoints$Sheet" "numbers" "[I") (by decide +kernel)) (fun _ h9 => h9) rfl dX6_become_28 ?_
                                                                      refine lv_iload_n hx hb dX6_become_31 rfl (lv_at hl 0 rfl) ?_
                                                                      refine lv_iconst (v := 0) hx hb dX6_become_32 (by decide) ?_
                                                                      refine lz_astc hx hb hK hP hD hS 1 0 rfl rfl (lz_vp (x := 33) (n := 40) (by decide) (by decide)) dX6_become_33 (fun H locs hP hD hS => ?_)
                                                                      refine lv_iinc (v := 34) (lv' := [(3, .int 34), (0, .ref h0), (1, .int 1), (2, .int 0)]) hx hb dX6_become_34 hl (k := 0) rfl (by decide) (by decide) rfl (fun ls hl => ?_)
                                                                      refine lv_goto (tgt := 21) hx hb dX6_become_37 (by decide) ?_
                                                                      refine lv_iload_n hx hb dX6_become_21 rfl (lv_at hl 0 rfl) ?_
                                                                      refine lv_bipush (v := 40) hx hb dX6_become_22 (by decide) ?_
                                                                      refine lv_icmp_ge (tgt := 40) hx hb dX6_become_24 (by decide) (fun c1765 => ?_) (fun c1765 => ?_)
                                                                      · exact absurd c1765 (by decide)
                                                                      · refine lv_aload_n hx hb dX6_become_27 rfl (lv_at hl 1 rfl) ?_
                                                                        refine va_get (D := D) (ci := 6) (v := .ref h1) (C := RX6) (T := TX6) (N := 3) hx hb hts hin6 hown hK hP 0 rfl rfl 0 (by decide) (hts (.fieldLink RX6 9 "MissedPoints$Sheet" "numbers" "[I") (by decide +kernel)) (fun _ h9 => h9) rfl dX6_become_28 ?_
                                                                        refine lv_iload_n hx hb dX6_become_31 rfl (lv_at hl 0 rfl) ?_
                                                                        refine lv_iconst (v := 0) hx hb dX6_become_32 (by decide) ?_
                                                                        refine lz_astc hx hb hK hP hD hS 1 0 rfl rfl (lz_vp (x := 34) (n := 40) (by decide) (by decide)) dX6_become_33 (fun H locs hP hD hS => ?_)
                                                                        refine lv_iinc (v := 35) (lv' := [(3, .int 35), (0, .ref h0), (1, .int 1), (2, .int 0)]) hx hb dX6_become_34 hl (k := 0) rfl (by decide) (by decide) rfl (fun ls hl => ?_)
                                                                        refine lv_goto (tgt := 21) hx hb dX6_become_37 (by decide) ?_
                                                                        refine lv_iload_n hx hb dX6_become_21 rfl (lv_at hl 0 rfl) ?_
                                                                        refine lv_bipush (v := 40) hx hb dX6_become_22 (by decide) ?_
                                                                        refine lv_icmp_ge (tgt := 40) hx hb dX6_become_24 (by decide) (fun c1766 => ?_) (fun c1766 => ?_)
                                                                        · exact absurd c1766 (by decide)
                                                                        · refine lv_aload_n hx hb dX6_become_27 rfl (lv_at hl 1 rfl) ?_
                                                                          refine va_get (D := D) (ci := 6) (v := .ref h1) (C := RX6) (T := TX6) (N := 3) hx hb hts hin6 hown hK hP 0 rfl rfl 0 (by decide) (hts (.fieldLink RX6 9 "MissedPoints$Sheet" "numbers" "[I") (by decide +kernel)) (fun _ h9 => h9) rfl dX6_become_28 ?_
                                                                          refine lv_iload_n hx hb dX6_become_31 rfl (lv_at hl 0 rfl) ?_
                                                                          refine lv_iconst (v := 0) hx hb dX6_become_32 (by decide) ?_
                                                                          refine lz_astc hx hb hK hP hD hS 1 0 rfl rfl (lz_vp (x := 35) (n := 40) (by decide) (by decide)) dX6_become_33 (fun H locs hP hD hS => ?_)
                                                                          refine lv_iinc (v := 36) (lv' := [(3, .int 36), (0, .ref h0), (1, .int 1), (2, .int 0)]) hx hb dX6_become_34 hl (k := 0) rfl (by decide) (by decide) rfl (fun ls hl => ?_)
                                                                          refine lv_goto (tgt := 21) hx hb dX6_become_37 (by decide) ?_
                                                                          refine lv_iload_n hx hb dX6_become_21 rfl (lv_at hl 0 rfl) ?_
                                                                          refine lv_bipush (v := 40) hx hb dX6_become_22 (by decide) ?_
                                                                          refine lv_icmp_ge (tgt := 40) hx hb dX6_become_24 (by decide) (fun c1767 => ?_) (fun c1767 => ?_)
                                                                          · exact absurd c1767 (by decide)
                                                                          · refine lv_aload_n hx hb dX6_become_27 rfl (lv_at hl 1 rfl) ?_
                                                                            refine va_get (D := D) (ci := 6) (v := .ref h1) (C := RX6) (T := TX6) (N := 3) hx hb hts hin6 hown hK hP 0 rfl rfl 0 (by decide) (hts (.fieldLink RX6 9 "MissedPoints$Sheet" "numbers" "[I") (by decide +kernel)) (fun _ h9 => h9) rfl dX6_become_28 ?_
                                                                            refine lv_iload_n hx hb dX6_become_31 rfl (lv_at hl 0 rfl) ?_
                                                                            refine lv_iconst (v := 0) hx hb dX6_become_32 (by decide) ?_
                                                                            refine lz_astc hx hb hK hP hD hS 1 0 rfl rfl (lz_vp (x := 36) (n := 40) (by decide) (by decide)) dX6_become_33 (fun H locs hP hD hS => ?_)
                                                                            refine lv_iinc (v := 37) (lv' := [(3, .int 37), (0, .ref h0), (1, .int 1), (2, .int 0)]) hx hb dX6_become_34 hl (k := 0) rfl (by decide) (by decide) rfl (fun ls hl => ?_)
                                                                            refine lv_goto (tgt := 21) hx hb dX6_become_37 (by decide) ?_
                                                                            refine lv_iload_n hx hb dX6_become_21 rfl (lv_at hl 0 rfl) ?_
                                                                            refine lv_bipush (v := 40) hx hb dX6_become_22 (by decide) ?_
                                                                            refine lv_icmp_ge (tgt := 40) hx hb dX6_become_24 (by decide) (fun c1768 => ?_) (fun c1768 => ?_)
                                                                            · exact absurd c1768 (by decide)
                                                                            · refine lv_aload_n hx hb dX6_become_27 rfl (lv_at hl 1 rfl) ?_
                                                                              refine va_get (D := D) (ci := 6) (v := .ref h1) (C := RX6) (T := TX6) (N := 3) hx hb hts hin6 hown hK hP 0 rfl rfl 0 (by decide) (hts (.fieldLink RX6 9 "MissedPoints$Sheet" "numbers" "[I") (by decide +kernel)) (fun _ h9 => h9) rfl dX6_become_28 ?_
                                                                              refine lv_iload_n hx hb dX6_become_31 rfl (lv_at hl 0 rfl) ?_
                                                                              refine lv_iconst (v := 0) hx hb dX6_become_32 (by decide) ?_
                                                                              refine lz_astc hx hb hK hP hD hS 1 0 rfl rfl (lz_vp (x := 37) (n := 40) (by decide) (by decide)) dX6_become_33 (fun H locs hP hD hS => ?_)
                                                                              refine lv_iinc (v := 38) (lv' := [(3, .int 38), (0, .ref h0), (1, .int 1), (2, .int 0)]) hx hb dX6_become_34 hl (k := 0) rfl (by decide) (by decide) rfl (fun ls hl => ?_)
                                                                              refine lv_goto (tgt := 21) hx hb dX6_become_37 (by decide) ?_
                                                                              refine lv_iload_n hx hb dX6_become_21 rfl (lv_at hl 0 rfl) ?_
                                                                              refine lv_bipush (v := 40) hx hb dX6_become_22 (by decide) ?_
                                                                              refine lv_icmp_ge (tgt := 40) hx hb dX6_become_24 (by decide) (fun c1769 => ?_) (fun c1769 => ?_)
                                                                              · exact absurd c1769 (by decide)
                                                                              · refine lv_aload_n hx hb dX6_become_27 rfl (lv_at hl 1 rfl) ?_
                                                                                refine va_get (D := D) (ci := 6) (v := .ref h1) (C := RX6) (T := TX6) (N := 3) hx hb hts hin6 hown hK hP 0 rfl rfl 0 (by decide) (hts (.fieldLink RX6 9 "MissedPoints$Sheet" "numbers" "[I") (by decide +kernel)) (fun _ h9 => h9) rfl dX6_become_28 ?_
                                                                                refine lv_iload_n hx hb dX6_become_31 rfl (lv_at hl 0 rfl) ?_
                                                                                refine lv_iconst (v := 0) hx hb dX6_become_32 (by decide) ?_
                                                                                refine lz_astc hx hb hK hP hD hS 1 0 rfl rfl (lz_vp (x := 38) (n := 40) (by decide) (by decide)) dX6_become_33 (fun H locs hP hD hS => ?_)
                                                                                refine lv_iinc (v := 39) (lv' := [(3, .int 39), (0, .ref h0), (1, .int 1), (2, .int 0)]) hx hb dX6_become_34 hl (k := 0) rfl (by decide) (by decide) rfl (fun ls hl => ?_)
                                                                                refine lv_goto (tgt := 21) hx hb dX6_become_37 (by decide) ?_
                                                                                refine lv_iload_n hx hb dX6_become_21 rfl (lv_at hl 0 rfl) ?_
                                                                                refine lv_bipush (v := 40) hx hb dX6_become_22 (by decide) ?_
                                                                                refine lv_icmp_ge (tgt := 40) hx hb dX6_become_24 (by decide) (fun c1770 => ?_) (fun c1770 => ?_)
                                                                                · exact absurd c1770 (by decide)
                                                                                · refine lv_aload_n hx hb dX6_become_27 rfl (lv_at hl 1 rfl) ?_
                                                                                  refine va_get (D := D) (ci := 6) (v := .ref h1) (C := RX6) (T := TX6) (N := 3) hx hb hts hin6 hown hK hP 0 rfl rfl 0 (by decide) (hts (.fieldLink RX6 9 "MissedPoints$Sheet" "numbers" "[I") (by decide +kernel)) (fun _ h9 => h9) rfl dX6_become_28 ?_
                                                                                  refine lv_iload_n hx hb dX6_become_31 rfl (lv_at hl 0 rfl) ?_
                                                                                  refine lv_iconst (v := 0) hx hb dX6_become_32 (by decide) ?_
                                                                                  refine lz_astc hx hb hK hP hD hS 1 0 rfl rfl (lz_vp (x := 39) (n := 40) (by decide) (by decide)) dX6_become_33 (fun H locs hP hD hS => ?_)
                                                                                  refine lv_iinc (v := 40) (lv' := [(3, .int 40), (0, .ref h0), (1, .int 1), (2, .int 0)]) hx hb dX6_become_34 hl (k := 0) rfl (by decide) (by decide) rfl (fun ls hl => ?_)
                                                                                  refine lv_goto (tgt := 21) hx hb dX6_become_37 (by decide) ?_
                                                                                  refine lv_iload_n hx hb dX6_become_21 rfl (lv_at hl 0 rfl) ?_
                                                                                  refine lv_bipush (v := 40) hx hb dX6_become_22 (by decide) ?_
                                                                                  refine lv_icmp_ge (tgt := 40) hx hb dX6_become_24 (by decide) (fun c1771 => ?_) (fun c1771 => ?_)
                                                                                  · have hP9 := hP.sub (ws' := [(h0, .inr (6, [.ref h1, .int 1, .int 0])), (h1, .inl (cI, 40, .inl (fun _ => 0)))]) [0, 1] rfl
                                                                                    have hD9 := hD.sub (ws' := [(h0, .inr (6, [.ref h1, .int 1, .int 0])), (h1, .inl (cI, 40, .inl (fun _ => 0)))]) [0, 1] (by decide) rfl
                                                                                    subst hAe
                                                                                    exact W.vret hx hb hr (fun t ht hW => ⟨⟨(), rfl, trivial, by rw [ht]; exact hP9, hD9⟩, hS.F ht⟩) hS.2.2 dX6_become_40
                                                                                  · exact absurd c1771 (by decide)
set_option maxHeartbeats 4000000 in
set_option maxRecDepth 100000 in
theorem c_X9_writeTo_1 (l : Launch) (D : va_G) (cI cS : ClassId) (sz : Nat) (h0 h1 h2 h3 h4 h5 h6 h7 h8 : Nat) : Met l yX9_writeTo wsX9_writeTo ({ frames := 2, cells := 0, slots := 0, locals := 80 }) (PQ D cI cS [(h0, .inr (9, [.ref h2, .ref h3, .ref h4, .ref h5, .ref h6, .int 0])), (h1, .inr (6, [.ref h7, .int (-1), .int 0])), (h2, .inr (2, [.ref h8, .int 0, .int 0])), (h7, .inl (cI, 40, .inl (fun _ => 0)))] sz [.ref h0, .ref h1, .int 1]) (QV D [(h0, .inr (9, [.ref h2, .ref h3, .ref h4, .ref h5, .ref h6, .int 0])), (h1, .inr (6, [.ref h7, .int (-1), .int 0])), (h2, .inr (2, [.ref h8, .int 0, .int 0])), (h7, .inl (cI, 40, .inl (fun _ => 0)))] [(h0, .inr (9, [.ref h2, .ref h3, .ref h4, .ref h5, .ref h6, .int 0])), (h2, .inr (2, [.ref h8, .int 0, .int 0])), (h1, .inr (6, [.ref h7, .int 1, .int 0])), (h7, .inl (cI, 40, .inl (fun _ => 0)))] sz) 0 0 (va_A [(h0, .inr (9, [.ref h2, .ref h3, .ref h4, .ref h5, .ref h6, .int 0])), (h1, .inr (6, [.ref h7, .int (-1), .int 0])), (h2, .inr (2, [.ref h8, .int 0, .int 0])), (h7, .inl (cI, 40, .inl (fun _ => 0)))] sz) := by
  refine Met.ofW (cc := cX9_writeTo) (maxL := 4) (ret := none) (by decide) rfl ?_
  intro p e s m args below meth c s₁ B hml hv
  obtain ⟨rfl, hsz, hP, hKK, hD0⟩ := hv
  have hx := B.exec
  have hb := B.bytes
  have hr := B.returns
  have hts := atoms_spec (ws := wsX9_writeTo) B.pre
  have hown : s.vm.findClass RX9 = some m.cls := findClass_of_methodNamed B.named
  have hlocks := B.notSynchronized
  have hK := hKK.1
  have hN := hKK.2
  have hin2 : ∀ w ∈ wsX20, w ∈ wsX9_writeTo := by decide +kernel
  have hin9 : ∀ w ∈ wsX90, w ∈ wsX9_writeTo := by decide +kernel
  subst hsz
  have hD := hD0.self (sz := s.heap.size)
  obtain ⟨A, hAe⟩ : ∃ A, A = va_A [(h0, .inr (9, [.ref h2, .ref h3, .ref h4, .ref h5, .ref h6, .int 0])), (h1, .inr (6, [.ref h7, .int (-1), .int 0])), (h2, .inr (2, [.ref h8, .int 0, .int 0])), (h7, .inl (cI, 40, .inl (fun _ => 0)))] s.heap.size := ⟨_, rfl⟩
  rw [← hAe] at hD
  have hA : ∀ q : Nat, s.heap.size ≤ q → A q := fun q h => by rw [hAe]; exact Or.inr h
  have hS : va_S A s.heap s.heap [] := va_S.rf
  have hl := lv_entry ([.ref h0, .ref h1, .int 1]) (n := 4) (Nat.le_of_ble_eq_true rfl)
  rw [lg_entry_eq]
  generalize (lg_sl ([.ref h0, .ref h1, .int 1]) ++ List.replicate (4 - (lg_sl ([.ref h0, .ref h1, .int 1])).length) Slot.unset).toArray = ls at hl ⊢
  have hl : lv_has ls 4 [(0, .ref h0), (1, .ref h1), (2, .int 1)] := hl
  refine lv_aload_n hx hb dX9_writeTo_0 rfl (lv_at hl 1 rfl) ?_
  refine lv_iload_n hx hb dX9_writeTo_1 rfl (lv_at hl 2 rfl) ?_
  refine lv_aload_n hx hb dX9_writeTo_2 rfl (lv_at hl 0 rfl) ?_
  refine va_get (D := D) (ci := 9) (v := .ref h2) (C := RX9) (T := TX9) (N := 6) hx hb hts hin9 hown hK hP 0 rfl rfl 0 (by decide) (hts (.fieldLink RX9 21 "MissedPoints$Told" "net" "LMissedPoints$Net;") (by decide +kernel)) (fun _ h9 => h9) rfl dX9_writeTo_3 ?_
  refine va_getN (D := D) (ci := 2) (v := .int 0) (C := RX2) (T := TX2) (N := 3) hx hb hts hin2 hown hK hP 2 rfl rfl 1 (by decide) (va_Nw.use rfl hN.2.2.2.2.2.2.2.2.2.2.2.2.2.2.2.1) (fun _ h9 => h9) rfl dX9_writeTo_6 ?_
  have hPc := hP.sub (ws' := [(h1, .inr (6, [.ref h7, .int (-1), .int 0])), (h7, .inl (cI, 40, .inl (fun _ => 0)))]) [1, 7] rfl
  have hDc := hD.sub (ws' := [(h1, .inr (6, [.ref h7, .int (-1), .int 0])), (h7, .inl (cI, 40, .inl (fun _ => 0)))]) [1, 7] (by decide) rfl
  refine lz_qv (wr := [(h0, .inr (9, [.ref h2, .ref h3, .ref h4, .ref h5, .ref h6, .int 0])), (h2, .inr (2, [.ref h8, .int 0, .int 0])), (h3, .inr (3, [.ref h2, .ref h9, .ref h10, .int 0])), (h4, .inl (cI, 12, .inl (upd (upd (upd (upd (upd (upd (upd (upd (upd (upd (upd (upd (fun _ => 0) 0 (-1)) 1 (-1)) 2 (-1)) 3 (-1)) 4 (-1)) 5 (-1)) 6 (-1)) 7 (-1)) 8 (-1)) 9 (-1)) 10 (-1)) 11 (-1)))), (h5, .inl (cI, 12, .inl (fun _ => 0))), (h6, .inl (cI, 12, .inl (fun _ => 0))), (h8, .inl (cI, 12, .inl (fun _ => 0))), (h9, .inr (1, [.ref h11, .int 1])), (h10, .inr (1, [.ref h12, .int 1])), (h11, .inl (cI, 4096, .inl (fun _ => 0))), (h12, .inl (cI, 0, .inl (fun _ => 0)))]) (w1 := [(h1, .inr (6, [.ref h7, .int 1, .int 0])), (h7, .inl (cI, 40, .inl (fun _ => 0)))]) (As := [.int 1, .int 0]) (rest := []) ⟨hx, hb, hml, hown, hts⟩ (c_X6_become_1 l D cI cS H.size h1 h7) hKK hP hD hS hA [1, 7] [0, 2, 3, 4, 5, 6, 8, 9, 10, 11, 12] (by decide) rfl rfl (by decide) (by decide) hPc hDc (ci := 6) rfl rfl (cwV 2 hts gX9_writeTo_X6_become rfl rfl rfl (by decide +kernel) ⟨Nat.le_of_ble_eq_true rfl, Nat.le_of_ble_eq_true rfl⟩) rfl hl.1 rfl (Nat.le_of_ble_eq_true rfl) dX9_writeTo_9 ⟨Nat.le_of_ble_eq_true rfl, Nat.le_of_ble_eq_true rfl⟩ (fun H locs hP hD hS => ?_)
  have hP : va_P D cls [(h0, .inr (9, [.ref h2, .ref h3, .ref h4, .ref h5, .ref h6, .int 0])), (h2, .inr (2, [.ref h8, .int 0, .int 0])), (h3, .inr (3, [.ref h2, .ref h9, .ref h10, .int 0])), (h4, .inl (cI, 12, .inl (upd (upd (upd (upd (upd (upd (upd (upd (upd (upd (upd (upd (fun _ => 0) 0 (-1)) 1 (-1)) 2 (-1)) 3 (-1)) 4 (-1)) 5 (-1)) 6 (-1)) 7 (-1)) 8 (-1)) 9 (-1)) 10 (-1)) 11 (-1)))), (h5, .inl (cI, 12, .inl (fun _ => 0))), (h6, .inl (cI, 12, .inl (fun _ => 0))), (h8, .inl (cI, 12, .inl (fun _ => 0))), (h9, .inr (1, [.ref h11, .int 1])), (h10, .inr (1, [.ref h12, .int 1])), (h11, .inl (cI, 4096, .inl (fun _ => 0))), (h12, .inl (cI, 0, .inl (fun _ => 0))), (h1, .inr (6, [.ref h7, .int 1, .int 0])), (h7, .inl (cI, 40, .inl (fun _ => 0)))] H := hP
  have hD : va_D A [(h0, .inr (9, [.ref h2, .ref h3, .ref h4, .ref h5, .ref h6, .int 0])), (h2, .inr (2, [.ref h8, .int 0, .int 0])), (h3, .inr (3, [.ref h2, .ref h9, .ref h10, .int 0])), (h4, .inl (cI, 12, .inl (upd (upd (upd (upd (upd (upd (upd (upd (upd (upd (upd (upd (fun _ => 0) 0 (-1)) 1 (-1)) 2 (-1)) 3 (-1)) 4 (-1)) 5 (-1)) 6 (-1)) 7 (-1)) 8 (-1)) 9 (-1)) 10 (-1)) 11 (-1)))), (h5, .inl (cI, 12, .inl (fun _ => 0))), (h6, .inl (cI, 12, .inl (fun _ => 0))), (h8, .inl (cI, 12, .inl (fun _ => 0))), (h9, .inr (1, [.ref h11, .int 1])), (h10, .inr (1, [.ref h12, .int 1])), (h11, .inl (cI, 4096, .inl (fun _ => 0))), (h12, .inl (cI, 0, .inl (fun _ => 0))), (h1, .inr (6, [.ref h7, .int 1, .int 0])), (h7, .inl (cI, 40, .inl (fun _ => 0)))] := hD
  refine lv_iconst (v := 0) hx hb dX9_writeTo_12 (by decide) ?_
  refine lv_istore_n (lv' := [(3, .int 0), (0, .ref h0), (1, .ref h1), (2, .int 1)]) hx hb dX9_writeTo_13 rfl hl (by decide) rfl (fun ls hl => ?_)
  refine lv_iload_n hx hb dX9_writeTo_14 rfl (lv_at hl 0 rfl) ?_
  refine lv_aload_n hx hb dX9_writeTo_15 rfl (lv_at hl 1 rfl) ?_
  refine va_get (D := D) (ci := 9) (v := .ref h2) (C := RX9) (T := TX9) (N := 6) hx hb hts hin9 hown hK hP 0 rfl rfl 0 (by decide) (hts (.fieldLink RX9 21 "MissedPoints$Told" "net" "LMissedPoints$Net;") (by decide +kernel)) (fun _ h9 => h9) rfl dX9_writeTo_16 ?_
  refine va_getN (D := D) (ci := 2) (v := .int 0) (C := RX2) (T := TX2) (N := 3) hx hb hts hin2 hown hK hP 1 rfl rfl 1 (by decide) (va_Nw.use rfl hN.2.2.2.2.2.2.2.2.2.2.2.2.2.2.2.1) (fun _ h9 => h9) rfl dX9_writeTo_19 ?_
  refine lv_icmp_ge (tgt := 42) hx hb dX9_writeTo_22 (by decide) (fun c1773 => ?_) (fun c1773 => ?_)
  · have hP9 := hP.sub (ws' := [(h0, .inr (9, [.ref h2, .ref h3, .ref h4, .ref h5, .ref h6, .int 0])), (h2, .inr (2, [.ref h8, .int 0, .int 0])), (h1, .inr (6, [.ref h7, .int 1, .int 0])), (h7, .inl (cI, 40, .inl (fun _ => 0)))]) [0, 1, 11, 12] rfl
    have hD9 := hD.sub (ws' := [(h0, .inr (9, [.ref h2, .ref h3, .ref h4, .ref h5, .ref h6, .int 0])), (h2, .inr (2, [.ref h8, .int 0, .int 0])), (h1, .inr (6, [.ref h7, .int 1, .int 0])), (h7, .inl (cI, 40, .inl (fun _ => 0)))]) [0, 1, 11, 12] (by decide) rfl
    subst hAe
    exact W.vret hx hb hr (fun t ht hW => ⟨⟨(), rfl, trivial, by rw [ht]; exact hP9, hD9⟩, hS.F ht⟩) hS.2.2 dX9_writeTo_42
  · exact absurd c1773 (by decide)
set_option maxHeartbeats 4000000 in
set_option maxRecDepth 100000 in
theorem c_X11_paint_0 (l : Launch) (D : va_G) (cI cS : ClassId) (sz : Nat) (h0 h1 h2 h3 h4 h5 h6 h7 h8 h9 h10 h11 h12 h13 h14 h15 h16 h17 h25 h26 h27 h28 h29 h30 h31 h41 h42 h43 h44 : Nat) (x0 x1 : Int32) : Met l yX11_paint wsX11_paint ({ frames := 3, cells := 0, slots := 0, locals := 120 }) (PQ D cI cS [(h0, .inr (11, [.ref h1, .ref h2, .ref h3, .ref h4, .ref h5, .ref h6, .ref h7, .int 0, .int 0, .ref h8, .ref h9, .ref h10, .ref h11, .ref h12, .ref h13, .ref h14])), (h1, .inr (2, [.ref h15, .int 0, .int 0])), (h2, .inr (3, [.ref h1, .ref h16, .ref h17, .int 0])), (h11, .inl (cS, 4, .inr (.inr (.inr (.inr (fun k => [h25, h26, h27, h28][k]?)))))), (h12, .inr (9, [.ref h1, .ref h2, .ref h29, .ref h30, .ref h31, .int 0])), (h25, .inr (6, [.ref h41, .int (-1), .int 0])), (h26, .inr (6, [.ref h42, .int (-1), .int 0])), (h27, .inr (6, [.ref h43, .int (-1), .int 0])), (h28, .inr (6, [.ref h44, .int (-1), .int 0])), (h29, .inl (cI, 12, .inl (fun _ => 0))), (h41, .inl (cI, 40, .inl (fun _ => 0))), (h42, .inl (cI, 40, .inl (fun _ => 0))), (h43, .inl (cI, 40, .inl (fun _ => 0))), (h44, .inl (cI, 40, .inl (fun _ => 0)))] sz [.ref h0, .int x0, .int x1]) (QI D [(h0, .inr (11, [.ref h1, .ref h2, .ref h3, .ref h4, .ref h5, .ref h6, .ref h7, .int 0, .int 0, .ref h8, .ref h9, .ref h10, .ref h11, .ref h12, .ref h13, .ref h14])), (h1, .inr (2, [.ref h15, .int 0, .int 0])), (h2, .inr (3, [.ref h1, .ref h16, .ref h17, .int 0])), (h11, .inl (cS, 4, .inr (.inr (.inr (.inr (fun k => [h25, h26, h27, h28][k]?)))))), (h12, .inr (9, [.ref h1, .ref h2, .ref h29, .ref h30, .ref h31, .int 0])), (h25, .inr (6, [.ref h41, .int (-1), .int 0])), (h26, .inr (6, [.ref h42, .int (-1), .int 0])), (h27, .inr (6, [.ref h43, .int (-1), .int 0])), (h28, .inr (6, [.ref h44, .int (-1), .int 0])), (h29, .inl (cI, 12, .inl (fun _ => 0))), (h41, .inl (cI, 40, .inl (fun _ => 0))), (h42, .inl (cI, 40, .inl (fun _ => 0))), (h43, .inl (cI, 40, .inl (fun _ => 0))), (h44, .inl (cI, 40, .inl (fun _ => 0)))] [] sz (fun r => r = if x0 < 0 then ((-2) : Int32) else (if (4 : Int32) ≤ x0 then ((-2) : Int32) else (if x1 = 0 then (0 : Int32) else (if x1 = 1 then (0 : Int32) else ((-2) : Int32)))))) 0 0 (va_A [(h0, .inr (11, [.ref h1, .ref h2, .ref h3, .ref h4, .ref h5, .ref h6, .ref h7, .int 0, .int 0, .ref h8, .ref h9, .ref h10, .ref h11, .ref h12, .ref h13, .ref h14])), (h1, .inr (2, [.ref h15, .int 0, .int 0])), (h2, .inr (3, [.ref h1, .ref h16, .ref h17, .int 0])), (h11, .inl (cS, 4, .inr (.inr (.inr (.inr (fun k => [h25, h26, h27, h28][k]?)))))), (h12, .inr (9, [.ref h1, .ref h2, .ref h29, .ref h30, .ref h31, .int 0])), (h25, .inr (6, [.ref h41, .int (-1), .int 0])), (h26, .inr (6, [.ref h42, .int (-1), .int 0])), (h27, .inr (6, [.ref h43, .int (-1), .int 0])), (h28, .inr (6, [.ref h44, .int (-1), .int 0])), (h29, .inl (cI, 12, .inl (fun _ => 0))), (h41, .inl (cI, 40, .inl (fun _ => 0))), (h42, .inl (cI, 40, .inl (fun _ => 0))), (h43, .inl (cI, 40, .inl (fun _ => 0))), (h44, .inl (cI, 40, .inl (fun _ => 0)))] sz) := by
  refine Met.ofW (cc := cX11_paint) (maxL := 3) (ret := (some .int)) (by decide) rfl ?_
  intro p e s m args below meth c s₁ B hml hv
  obtain ⟨rfl, hsz, hP, hKK, hD0⟩ := hv
  have hx := B.exec
  have hb := B.bytes
  have hr := B.returns
  have hts := atoms_spec (ws := wsX11_paint) B.pre
  have hown : s.vm.findClass RX11 = some m.cls := findClass_of_methodNamed B.named
  have hlocks := B.notSynchronized
  have hK := hKK.1
  have hN := hKK.2
  have hin2 : ∀ w ∈ wsX20, w ∈ wsX11_paint := by decide +kernel
  have hin11 : ∀ w ∈ wsX110, w ∈ wsX11_paint := by decide +kernel
  subst hsz
  have hD := hD0.self (sz := s.heap.size)
  obtain ⟨A, hAe⟩ : ∃ A, A = va_A [(h0, .inr (11, [.ref h1, .ref h2, .ref h3, .ref h4, .ref h5, .ref h6, .ref h7, .int 0, .int 0, .ref h8, .ref h9, .ref h10, .ref h11, .ref h12, .ref h13, .ref h14])), (h1, .inr (2, [.ref h15, .int 0, .int 0])), (h2, .inr (3, [.ref h1, .ref h16, .ref h17, .int 0])), (h11, .inl (cS, 4, .inr (.inr (.inr (.inr (fun k => [h25, h26, h27, h28][k]?)))))), (h12, .inr (9, [.ref h1, .ref h2, .ref h29, .ref h30, .ref h31, .int 0])), (h25, .inr (6, [.ref h41, .int (-1), .int 0])), (h26, .inr (6, [.ref h42, .int (-1), .int 0])), (h27, .inr (6, [.ref h43, .int (-1), .int 0])), (h28, .inr (6, [.ref h44, .int (-1), .int 0])), (h29, .inl (cI, 12, .inl (fun _ => 0))), (h41, .inl (cI, 40, .inl (fun _ => 0))), (h42, .inl (cI, 40, .inl (fun _ => 0))), (h43, .inl (cI, 40, .inl (fun _ => 0))), (h44, .inl (cI, 40, .inl (fun _ => 0)))] s.heap.size := ⟨_, rfl⟩
  rw [← hAe] at hD
  have hA : ∀ q : Nat, s.heap.size ≤ q → A q := fun q h => by rw [hAe]; exact Or.inr h
  have hS : va_S A s.heap s.heap [] := va_S.rf
  have hl := lv_entry ([.ref h0, .int x0, .int x1]) (n := 3) (Nat.le_of_ble_eq_true rfl)
  rw [lg_entry_eq]
  generalize (lg_sl ([.ref h0, .int x0, .int x1]) ++ List.replicate (3 - (lg_sl ([.ref h0, .int x0, .int x1])).length) Slot.unset).toArray = ls at hl ⊢
  have hl : lv_has ls 3 [(0, .ref h0), (1, .int x0), (2, .int x1)] := hl
  refine lv_iload_n hx hb dX11_paint_0 rfl (lv_at hl 1 rfl) ?_
  have hPc := hP.sub (ws' := []) [] rfl
  refine lz_ss (As := [.int x0]) (rest := []) ⟨hx, hb, hml, hown, hts⟩ (c_X11_isSheet_0 l D cI cS x0) hKK hPc (va_cwS 1 hts gX11_paint_X11_isSheet rfl rfl rfl (by decide +kernel) ⟨Nat.le_of_ble_eq_true rfl, Nat.le_of_ble_eq_true rfl⟩) rfl hl.1 rfl (Nat.le_of_ble_eq_true rfl) dX11_paint_1 ⟨Nat.le_of_ble_eq_true rfl, Nat.le_of_ble_eq_true rfl⟩ (fun r1649 hw => ?_)
  by_cases k1650 : x0 < 0
  · rw [if_pos k1650] at hw
    subst hw
    refine lv_if_eq (tgt := 14) hx hb dX11_paint_4 (by decide) (fun c1651 => ?_) (fun c1651 => ?_)
    · refine lv_bipush (v := (-2)) hx hb dX11_paint_14 (by decide) ?_
      have hP9 := hP.sub (ws' := []) [] rfl
      have hD9 := hD.sub (ws' := []) [] (by decide) rfl
      subst hAe
      exact W.iret (v := (-2)) hx hb hr (fun t ht hW => ⟨⟨_, (), rfl, by rw [if_pos k1650], by rw [ht]; exact hP9, hD9⟩, hS.F ht⟩) hS.2.2 dX11_paint_16
    · exact absurd c1651 (by decide)
  · rw [if_neg k1650] at hw
    by_cases k1652 : (4 : Int32) ≤ x0
    · rw [if_pos k1652] at hw
      subst hw
      refine lv_if_eq (tgt := 14) hx hb dX11_paint_4 (by decide) (fun c1653 => ?_) (fun c1653 => ?_)
      · refine lv_bipush (v := (-2)) hx hb dX11_paint_14 (by decide) ?_
        have hP9 := hP.sub (ws' := []) [] rfl
        have hD9 := hD.sub (ws' := []) [] (by decide) rfl
        subst hAe
        exact W.iret (v := (-2)) hx hb hr (fun t ht hW => ⟨⟨_, (), rfl, by rw [if_neg k1650, if_pos k1652], by rw [ht]; exact hP9, hD9⟩, hS.F ht⟩) hS.2.2 dX11_paint_16
      · exact absurd c1653 (by decide)
    · rw [if_neg k1652] at hw
      subst hw
      refine lv_if_eq (tgt := 14) hx hb dX11_paint_4 (by decide) (fun c1654 => ?_) (fun c1654 => ?_)
      · exact absurd c1654 (by decide)
      · refine lv_iload_n hx hb dX11_paint_7 rfl (lv_at hl 2 rfl) ?_
        have hPc := hP.sub (ws' := []) [] rfl
        refine lz_ss (As := [.int x1]) (rest := []) ⟨hx, hb, hml, hown, hts⟩ (c_X11_isSort_0 l D cI cS x1) hKK hPc (va_cwS 1 hts gX11_paint_X11_isSort rfl rfl rfl (by decide +kernel) ⟨Nat.le_of_ble_eq_true rfl, Nat.le_of_ble_eq_true rfl⟩) rfl hl.1 rfl (Nat.le_of_ble_eq_true rfl) dX11_paint_8 ⟨Nat.le_of_ble_eq_true rfl, Nat.le_of_ble_eq_true rfl⟩ (fun r1657 hw => ?_)
        by_cases k1658 : x1 = 0
        · rw [if_pos k1658] at hw
          subst k1658
          subst hw
          refine lv_if_ne (tgt := 17) hx hb dX11_paint_11 (by decide) (fun c1659 => ?_) (fun c1659 => ?_)
          · refine lv_aload_n hx hb dX11_paint_17 rfl (lv_at hl 0 rfl) ?_
            refine va_get (D := D) (ci := 11) (v := .ref h12) (C := RX11) (T := TX11) (N := 16) hx hb hts hin11 hown hK hP 0 rfl rfl 13 (by decide) (hts (.fieldLink RX11 82 "MissedPoints" "told" "LMissedPoints$Told;") (by decide +kernel)) (fun _ h9 => h9) rfl dX11_paint_18 ?_
            have hPc := hP.sub (ws' := [(h12, .inr (9, [.ref h1, .ref h2, .ref h29, .ref h30, .ref h31, .int 0])), (h1, .inr (2, [.ref h15, .int 0, .int 0])), (h2, .inr (3, [.ref h1, .ref h16, .ref h17, .int 0])), (h29, .inl (cI, 12, .inl (fun _ => 0)))]) [12, 1, 2, 29] rfl
            have hDc := hD.sub (ws' := [(h12, .inr (9, [.ref h1, .ref h2, .ref h29, .ref h30, .ref h31, .int 0])), (h1, .inr (2, [.ref h15, .int 0, .int 0])), (h2, .inr (3, [.ref h1, .ref h16, .ref h17, .int 0])), (h29, .inl (cI, 12, .inl (fun _ => 0)))]) [12, 1, 2, 29] (by decide) rfl
            refine lz_qv (wr := [(h0, .inr (11, [.ref h1, .ref h2, .ref h3, .ref h4, .ref h5, .ref h6, .ref h7, .int 0, .int 0, .ref h8, .ref h9, .ref h10, .ref h11, .ref h12, .ref h13, .ref h14])), (h3, .inr (4, [.ref h1, .ref h2])), (h4, .inr (10, [.ref h1, .ref h2, .ref h18, .int 0, .int 0, .int 0, .int 0, .int (-1)])), (h5, .inr (2, [.ref h19, .int 0, .int 0])), (h6, .inr (3, [.ref h5, .ref h20, .ref h21, .int 0])), (h7, .inr (2, [.ref h22, .int 0, .int 0])), (h8, .inr (0, [.int 1])), (h9, .inr (8, [.ref h23, .int 0])), (h10, .inr (5, [.ref h9, .ref h1, .ref h24, .int 0, .int 0, .int 0, .int 0, .int 0])), (h11, .inl (cS, 4, .inr (.inr (.inr (.inr (fun k => [h25, h26, h27, h28][k]?)))))), (h13, .inr (9, [.ref h1, .ref h2, .ref h32, .ref h33, .ref h34, .int 0])), (h14, .inr (7, [.ref h35, .ref h36])), (h15, .inl (cI, 12, .inl (fun _ => 0))), (h16, .inr (1, [.ref h37, .int 1])), (h17, .inr (1, [.ref h38, .int 1])), (h18, .inl (cI, 5, .inl (fun _ => 0))), (h19, .inl (cI, 12, .inl (fun _ => 0))), (h20, .inr (1, [.ref h39, .int 1])), (h21, .inr (1, [.ref h40, .int 1])), (h22, .inl (cI, 12, .inl (fun _ => 0))), (h23, .inl (cI, 120, .inl (fun _ => 0))), (h24, .inl (cI, 12, .inl (fun _ => 0))), (h25, .inr (6, [.ref h41, .int (-1), .int 0])), (h26, .inr (6, [.ref h42, .int (-1), .int 0])), (h27, .inr (6, [.ref h43, .int (-1), .int 0])), (h28, .inr (6, [.ref h44, .int (-1), .int 0])), (h30, .inl (cI, 12, .inl (fun _ => 0))), (h31, .inl (cI, 12, .inl (fun _ => 0))), (h32, .inl (cI, 12, .inl (fun _ => 0))), (h33, .inl (cI, 12, .inl (fun _ => 0))), (h34, .inl (cI, 12, .inl (fun _ => 0))), (h35, .inl (cI, 4, .inl (fun _ => -1))), (h36, .inl (cI, 4, .inl (fun _ => 0))), (h37, .inl (cI, 4096, .inl (fun _ => 0))), (h38, .inl (cI, 0, .inl (fun _ => 0))), (h39, .inl (cI, 4096, .inl (fun _ => 0))), (h40, .inl (cI, 0, .inl (fun _ => 0))), (h41, .inl (cI, 40, .inl (fun _ => 0))), (h42, .inl (cI, 40, .inl (fun _ => 0))), (h43, .inl (cI, 40, .inl (fun _ => 0))), (h44, .inl (cI, 40, .inl (fun _ => 0)))]) (w1 := [(h12, .inr (9, [.ref h1, .ref h2, .ref h29, .ref h30, .ref h31, .int 0])), (h2, .inr (3, [.ref h1, .ref h16, .ref h17, .int 0])), (h29, .inl (cI, 12, .inl (upd (upd (upd (upd (upd (upd (upd (upd (upd (upd (upd (upd (fun _ => 0) 0 (-1)) 1 (-1)) 2 (-1)) 3 (-1)) 4 (-1)) 5 (-1)) 6 (-1)) 7 (-1)) 8 (-1)) 9 (-1)) 10 (-1)) 11 (-1)))), (h1, .inr (2, [.ref h15, .int 0, .int 0]))]) (As := []) (rest := []) ⟨hx, hb, hml, hown, hts⟩ (c_X9_becomeFirst_0 l D cI cS H.size h12 h1 h2 h29 h30 h31 h15 h16 h17) hKK hP hD hS hA [12, 1, 2, 29] [0, 3, 4, 5, 6, 7, 8, 9, 10, 11, 13, 14, 15, 16, 17, 18, 19, 20, 21, 22, 23, 24, 25, 26, 27, 28, 30, 31, 32, 33, 34, 35, 36, 37, 38, 39, 40, 41, 42, 43, 44] (by decide) rfl rfl (by decide) (by decide) hPc hDc (ci := 9) rfl rfl (cwV 0 hts gX11_paint_X9_becomeFirst rfl rfl rfl (by decide +kernel) ⟨Nat.le_of_ble_eq_true rfl, Nat.le_of_ble_eq_true rfl⟩) rfl hl.1 rfl (Nat.le_of_ble_eq_true rfl) dX11_paint_21 ⟨Nat.le_of_ble_eq_true rfl, Nat.le_of_ble_eq_true rfl⟩ (fun H locs hP hD hS => ?_)
            have hP : va_P D cls [(h0, .inr (11, [.ref h1, .ref h2, .ref h3, .ref h4, .ref h5, .ref h6, .ref h7, .int 0, .int 0, .ref h8, .ref h9, .ref h10, .ref h11, .ref h12, .ref h13, .ref h14])), (h3, .inr (4, [.ref h1, .ref h2])), (h4, .inr (10, [.ref h1, .ref h2, .ref h18, .int 0, .int 0, .int 0, .int 0, .int (-1)])), (h5, .inr (2, [.ref h19, .int 0, .int 0])), (h6, .inr (3, [.ref h5, .ref h20, .ref h21, .int 0])), (h7, .inr (2, [.ref h22, .int 0, .int 0])), (h8, .inr (0, [.int 1])), (h9, .inr (8, [.ref h23, .int 0])), (h10, .inr (5, [.ref h9, .ref h1, .ref h24, .int 0, .int 0, .int 0, .int 0, .int 0])), (h11, .inl (cS, 4, .inr (.inr (.inr (.inr (fun k => [h25, h26, h27, h28][k]?)))))), (h13, .inr (9, [.ref h1, .ref h2, .ref h32, .ref h33, .ref h34, .int 0])), (h14, .inr (7, [.ref h35, .ref h36])), (h15, .inl (cI, 12, .inl (fun _ => 0))), (h16, .inr (1, [.ref h37, .int 1])), (h17, .inr (1, [.ref h38, .int 1])), (h18, .inl (cI, 5, .inl (fun _ => 0))), (h19, .inl (cI, 12, .inl (fun _ => 0))), (h20, .inr (1, [.ref h39, .int 1])), (h21, .inr (1, [.ref h40, .int 1])), (h22, .inl (cI, 12, .inl (fun _ => 0))), (h23, .inl (cI, 120, .inl (fun _ => 0))), (h24, .inl (cI, 12, .inl (fun _ => 0))), (h25, .inr (6, [.ref h41, .int (-1), .int 0])), (h26, .inr (6, [.ref h42, .int (-1), .int 0])), (h27, .inr (6, [.ref h43, .int (-1), .int 0])), (h28, .inr (6, [.ref h44, .int (-1), .int 0])), (h30, .inl (cI, 12, .inl (fun _ => 0))), (h31, .inl (cI, 12, .inl (fun _ => 0))), (h32, .inl (cI, 12, .inl (fun _ => 0))), (h33, .inl (cI, 12, .inl (fun _ => 0))), (h34, .inl (cI, 12, .inl (fun _ => 0))), (h35, .inl (cI, 4, .inl (fun _ => -1))), (h36, .inl (cI, 4, .inl (fun _ => 0))), (h37, .inl (cI, 4096, .inl (fun _ => 0))), (h38, .inl (cI, 0, .inl (fun _ => 0))), (h39, .inl (cI, 4096, .inl (fun _ => 0))), (h40, .inl (cI, 0, .inl (fun _ => 0))), (h41, .inl (cI, 40, .inl (fun _ => 0))), (h42, .inl (cI, 40, .inl (fun _ => 0))), (h43, .inl (cI, 40, .inl (fun _ => 0))), (h44, .inl (cI, 40, .inl (fun _ => 0))), (h12, .inr (9, [.ref h1, .ref h2, .ref h29, .ref h30, .ref h31, .int 0])), (h2, .inr (3, [.ref h1, .ref h16, .ref h17, .int 0])), (h29, .inl (cI, 12, .inl (upd (upd (upd (upd (upd (upd (upd (upd (upd (upd (upd (upd (fun _ => 0) 0 (-1)) 1 (-1)) 2 (-1)) 3 (-1)) 4 (-1)) 5 (-1)) 6 (-1)) 7 (-1)) 8 (-1)) 9 (-1)) 10 (-1)) 11 (-1)))), (h1, .inr (2, [.ref h15, .int 0, .int 0]))] H := hP
            have hD : va_D A [(h0, .inr (11, [.ref h1, .ref h2, .ref h3, .ref h4, .ref h5, .ref h6, .ref h7, .int 0, .int 0, .ref h8, .ref h9, .ref h10, .ref h11, .ref h12, .ref h13, .ref h14])), (h3, .inr (4, [.ref h1, .ref h2])), (h4, .inr (10, [.ref h1, .ref h2, .ref h18, .int 0, .int 0, .int 0, .int 0, .int (-1)])), (h5, .inr (2, [.ref h19, .int 0, .int 0])), (h6, .inr (3, [.ref h5, .ref h20, .ref h21, .int 0])), (h7, .inr (2, [.ref h22, .int 0, .int 0])), (h8, .inr (0, [.int 1])), (h9, .inr (8, [.ref h23, .int 0])), (h10, .inr (5, [.ref h9, .ref h1, .ref h24, .int 0, .int 0, .int 0, .int 0, .int 0])), (h11, .inl (cS, 4, .inr (.inr (.inr (.inr (fun k => [h25, h26, h27, h28][k]?)))))), (h13, .inr (9, [.ref h1, .ref h2, .ref h32, .ref h33, .ref h34, .int 0])), (h14, .inr (7, [.ref h35, .ref h36])), (h15, .inl (cI, 12, .inl (fun _ => 0))), (h16, .inr (1, [.ref h37, .int 1])), (h17, .inr (1, [.ref h38, .int 1])), (h18, .inl (cI, 5, .inl (fun _ => 0))), (h19, .inl (cI, 12, .inl (fun _ => 0))), (h20, .inr (1, [.ref h39, .int 1])), (h21, .inr (1, [.ref h40, .int 1])), (h22, .inl (cI, 12, .inl (fun _ => 0))), (h23, .inl (cI, 120, .inl (fun _ => 0))), (h24, .inl (cI, 12, .inl (fun _ => 0))), (h25, .inr (6, [.ref h41, .int (-1), .int 0])), (h26, .inr (6, [.ref h42, .int (-1), .int 0])), (h27, .inr (6, [.ref h43, .int (-1), .int 0])), (h28, .inr (6, [.ref h44, .int (-1), .int 0])), (h30, .inl (cI, 12, .inl (fun _ => 0))), (h31, .inl (cI, 12, .inl (fun _ => 0))), (h32, .inl (cI, 12, .inl (fun _ => 0))), (h33, .inl (cI, 12, .inl (fun _ => 0))), (h34, .inl (cI, 12, .inl (fun _ => 0))), (h35, .inl (cI, 4, .inl (fun _ => -1))), (h36, .inl (cI, 4, .inl (fun _ => 0))), (h37, .inl (cI, 4096, .inl (fun _ => 0))), (h38, .inl (cI, 0, .inl (fun _ => 0))), (h39, .inl (cI, 4096, .inl (fun _ => 0))), (h40, .inl (cI, 0, .inl (fun _ => 0))), (h41, .inl (cI, 40, .inl (fun _ => 0))), (h42, .inl (cI, 40, .inl (fun _ => 0))), (h43, .inl (cI, 40, .inl (fun _ => 0))), (h44, .inl (cI, 40, .inl (fun _ => 0))), (h12, .inr (9, [.ref h1, .ref h2, .ref h29, .ref h30, .ref h31, .int 0])), (h2, .inr (3, [.ref h1, .ref h16, .ref h17, .int 0])), (h29, .inl (cI, 12, .inl (upd (upd (upd (upd (upd (upd (upd (upd (upd (upd (upd (upd (fun _ => 0) 0 (-1)) 1 (-1)) 2 (-1)) 3 (-1)) 4 (-1)) 5 (-1)) 6 (-1)) 7 (-1)) 8 (-1)) 9 (-1)) 10 (-1)) 11 (-1)))), (h1, .inr (2, [.ref h15, .int 0, .int 0]))] := hD
            refine lv_aload_n hx hb dX11_paint_24 rfl (lv_at hl 0 rfl) ?_
            refine va_get (D := D) (ci := 11) (v := .ref h12) (C := RX11) (T := TX11) (N := 16) hx hb hts hin11 hown hK hP 0 rfl rfl 13 (by decide) (hts (.fieldLink RX11 82 "MissedPoints" "told" "LMissedPoints$Told;") (by decide +kernel)) (fun _ h9 => h9) rfl dX11_paint_25 ?_
            refine lv_aload_n hx hb dX11_paint_28 rfl (lv_at hl 0 rfl) ?_
            refine va_get (D := D) (ci := 11) (v := .ref h11) (C := RX11) (T := TX11) (N := 16) hx hb hts hin11 hown hK hP 0 rfl rfl 12 (by decide) (hts (.fieldLink RX11 75 "MissedPoints" "sheets" "[LMissedPoints$Sheet;") (by decide +kernel)) (fun _ h9 => h9) rfl dX11_paint_29 ?_
            refine lv_iload_n hx hb dX11_paint_32 rfl (lv_at hl 1 rfl) ?_
            by_cases k1677 : x0 = 0
            · subst k1677
              refine va_aldq hx hb hK hP 9 1 rfl rfl (lz_vp (x := 0) (n := 4) (by decide) (by decide)) dX11_paint_33 ?_
              refine lz_va (y := .ref h25) rfl ?_
              refine lv_iload_n hx hb dX11_paint_34 rfl (lv_at hl 2 rfl) ?_
              have hPc := hP.sub (ws' := [(h12, .inr (9, [.ref h1, .ref h2, .ref h29, .ref h30, .ref h31, .int 0])), (h25, .inr (6, [.ref h41, .int (-1), .int 0])), (h1, .inr (2, [.ref h15, .int 0, .int 0])), (h41, .inl (cI, 40, .inl (fun _ => 0)))]) [41, 22, 44, 37] rfl
              have hDc := hD.sub (ws' := [(h12, .inr (9, [.ref h1, .ref h2, .ref h29, .ref h30, .ref h31, .int 0])), (h25, .inr (6, [.ref h41, .int (-1), .int 0])), (h1, .inr (2, [.ref h15, .int 0, .int 0])), (h41, .inl (cI, 40, .inl (fun _ => 0)))]) [41, 22, 44, 37] (by decide) rfl
              refine lz_qv (wr := [(h0, .inr (11, [.ref h1, .ref h2, .ref h3, .ref h4, .ref h5, .ref h6, .ref h7, .int 0, .int 0, .ref h8, .ref h9, .ref h10, .ref h11, .ref h12, .ref h13, .ref h14])), (h3, .inr (4, [.ref h1, .ref h2])), (h4, .inr (10, [.ref h1, .ref h2, .ref h18, .int 0, .int 0, .int 0, .int 0, .int (-1)])), (h5, .inr (2, [.ref h19, .int 0, .int 0])), (h6, .inr (3, [.ref h5, .ref h20, .ref h21, .int 0])), (h7, .inr (2, [.ref h22, .int 0, .int 0])), (h8, .inr (0, [.int 1])), (h9, .inr (8, [.ref h23, .int 0])), (h10, .inr (5, [.ref h9, .ref h1, .ref h24, .int 0, .int 0, .int 0, .int 0, .int 0])), (h11, .inl (cS, 4, .inr (.inr (.inr (.inr (fun k => [h25, h26, h27, h28][k]?)))))), (h13, .inr (9, [.ref h1, .ref h2, .ref h32, .ref h33, .ref h34, .int 0])), (h14, .inr (7, [.ref h35, .ref h36])), (h15, .inl (cI, 12, .inl (fun _ => 0))), (h16, .inr (1, [.ref h37, .int 1])), (h17, .inr (1, [.ref h38, .int 1])), (h18, .inl (cI, 5, .inl (fun _ => 0))), (h19, .inl (cI, 12, .inl (fun _ => 0))), (h20, .inr (1, [.ref h39, .int 1])), (h21, .inr (1, [.ref h40, .int 1])), (h22, .inl (cI, 12, .inl (fun _ => 0))), (h23, .inl (cI, 120, .inl (fun _ => 0))), (h24, .inl (cI, 12, .inl (fun _ => 0))), (h26, .inr (6, [.ref h42, .int (-1), .int 0])), (h27, .inr (6, [.ref h43, .int (-1), .int 0])), (h28, .inr (6, [.ref h44, .int (-1), .int 0])), (h30, .inl (cI, 12, .inl (fun _ => 0))), (h31, .inl (cI, 12, .inl (fun _ => 0))), (h32, .inl (cI, 12, .inl (fun _ => 0))), (h33, .inl (cI, 12, .inl (fun _ => 0))), (h34, .inl (cI, 12, .inl (fun _ => 0))), (h35, .inl (cI, 4, .inl (fun _ => -1))), (h36, .inl (cI, 4, .inl (fun _ => 0))), (h37, .inl (cI, 4096, .inl (fun _ => 0))), (h38, .inl (cI, 0, .inl (fun _ => 0))), (h39, .inl (cI, 4096, .inl (fun _ => 0))), (h40, .inl (cI, 0, .inl (fun _ => 0))), (h42, .inl (cI, 40, .inl (fun _ => 0))), (h43, .inl (cI, 40, .inl (fun _ => 0))), (h44, .inl (cI, 40, .inl (fun _ => 0))), (h2, .inr (3, [.ref h1, .ref h16, .ref h17, .int 0])), (h29, .inl (cI, 12, .inl (upd (upd (upd (upd (upd (upd (upd (upd (upd (upd (upd (upd (fun _ => 0) 0 (-1)) 1 (-1)) 2 (-1)) 3 (-1)) 4 (-1)) 5 (-1)) 6 (-1)) 7 (-1)) 8 (-1)) 9 (-1)) 10 (-1)) 11 (-1))))]) (w1 := [(h12, .inr (9, [.ref h1, .ref h2, .ref h29, .ref h30, .ref h31, .int 0])), (h1, .inr (2, [.ref h15, .int 0, .int 0])), (h25, .inr (6, [.ref h41, .int 0, .int 0])), (h41, .inl (cI, 40, .inl (fun _ => 0)))]) (As := [.ref h25, .int 0]) (rest := []) ⟨hx, hb, hml, hown, hts⟩ (c_X9_writeTo_0 l D cI cS H.size h12 h25 h1 h2 h29 h30 h31 h41 h15) hKK hP hD hS hA [41, 22, 44, 37] [0, 1, 2, 3, 4, 5, 6, 7, 8, 9, 10, 11, 12, 13, 14, 15, 16, 17, 18, 19, 20, 21, 23, 24, 25, 26, 27, 28, 29, 30, 31, 32, 33, 34, 35, 36, 38, 39, 40, 42, 43] (by decide) rfl rfl (by decide) (by decide) hPc hDc (ci := 9) rfl rfl (cwV 2 hts gX11_paint_X9_writeTo rfl rfl rfl (by decide +kernel) ⟨Nat.le_of_ble_eq_true rfl, Nat.le_of_ble_eq_true rfl⟩) rfl hl.1 rfl (Nat.le_of_ble_eq_true rfl) dX11_paint_35 ⟨Nat.le_of_ble_eq_true rfl, Nat.le_of_ble_eq_true rfl⟩ (fun H locs hP hD hS => ?_)
              have hP : va_P D cls [(h0, .inr (11, [.ref h1, .ref h2, .ref h3, .ref h4, .ref h5, .ref h6, .ref h7, .int 0, .int 0, .ref h8, .ref h9, .ref h10, .ref h11, .ref h12, .ref h13, .ref h14])), (h3, .inr (4, [.ref h1, .ref h2])), (h4, .inr (10, [.ref h1, .ref h2, .ref h18, .int 0, .int 0, .int 0, .int 0, .int (-1)])), (h5, .inr (2, [.ref h19, .int 0, .int 0])), (h6, .inr (3, [.ref h5, .ref h20, .ref h21, .int 0])), (h7, .inr (2, [.ref h22, .int 0, .int 0])), (h8, .inr (0, [.int 1])), (h9, .inr (8, [.ref h23, .int 0])), (h10, .inr (5, [.ref h9, .ref h1, .ref h24, .int 0, .int 0, .int 0, .int 0, .int 0])), (h11, .inl (cS, 4, .inr (.inr (.inr (.inr (fun k => [h25, h26, h27, h28][k]?)))))), (h13, .inr (9, [.ref h1, .ref h2, .ref h32, .ref h33, .ref h34, .int 0])), (h14, .inr (7, [.ref h35, .ref h36])), (h15, .inl (cI, 12, .inl (fun _ => 0))), (h16, .inr (1, [.ref h37, .int 1])), (h17, .inr (1, [.ref h38, .int 1])), (h18, .inl (cI, 5, .inl (fun _ => 0))), (h19, .inl (cI, 12, .inl (fun _ => 0))), (h20, .inr (1, [.ref h39, .int 1])), (h21, .inr (1, [.ref h40, .int 1])), (h22, .inl (cI, 12, .inl (fun _ => 0))), (h23, .inl (cI, 120, .inl (fun _ => 0))), (h24, .inl (cI, 12, .inl (fun _ => 0))), (h26, .inr (6, [.ref h42, .int (-1), .int 0])), (h27, .inr (6, [.ref h43, .int (-1), .int 0])), (h28, .inr (6, [.ref h44, .int (-1), .int 0])), (h30, .inl (cI, 12, .inl (fun _ => 0))), (h31, .inl (cI, 12, .inl (fun _ => 0))), (h32, .inl (cI, 12, .inl (fun _ => 0))), (h33, .inl (cI, 12, .inl (fun _ => 0))), (h34, .inl (cI, 12, .inl (fun _ => 0))), (h35, .inl (cI, 4, .inl (fun _ => -1))), (h36, .inl (cI, 4, .inl (fun _ => 0))), (h37, .inl (cI, 4096, .inl (fun _ => 0))), (h38, .inl (cI, 0, .inl (fun _ => 0))), (h39, .inl (cI, 4096, .inl (fun _ => 0))), (h40, .inl (cI, 0, .inl (fun _ => 0))), (h42, .inl (cI, 40, .inl (fun _ => 0))), (h43, .inl (cI, 40, .inl (fun _ => 0))), (h44, .inl (cI, 40, .inl (fun _ => 0))), (h2, .inr (3, [.ref h1, .ref h16, .ref h17, .int 0])), (h29, .inl (cI, 12, .inl (upd (upd (upd (upd (upd (upd (upd (upd (upd (upd (upd (upd (fun _ => 0) 0 (-1)) 1 (-1)) 2 (-1)) 3 (-1)) 4 (-1)) 5 (-1)) 6 (-1)) 7 (-1)) 8 (-1)) 9 (-1)) 10 (-1)) 11 (-1)))), (h12, .inr (9, [.ref h1, .ref h2, .ref h29, .ref h30, .ref h31, .int 0])), (h1, .inr (2, [.ref h15, .int 0, .int 0])), (h25, .inr (6, [.ref h41, .int 0, .int 0])), (h41, .inl (cI, 40, .inl (fun _ => 0)))] H := hP
              have hD : va_D A [(h0, .inr (11, [.ref h1, .ref h2, .ref h3, .ref h4, .ref h5, .ref h6, .ref h7, .int 0, .int 0, .ref h8, .ref h9, .ref h10, .ref h11, .ref h12, .ref h13, .ref h14])), (h3, .inr (4, [.ref h1, .ref h2])), (h4, .inr (10, [.ref h1, .ref h2, .ref h18, .int 0, .int 0, .int 0, .int 0, .int (-1)])), (h5, .inr (2, [.ref h19, .int 0, .int 0])), (h6, .inr (3, [.ref h5, .ref h20, .ref h21, .int 0])), (h7, .inr (2, [.ref h22, .int 0, .int 0])), (h8, .inr (0, [.int 1])), (h9, .inr (8, [.ref h23, .int 0])), (h10, .inr (5, [.ref h9, .ref h1, .ref h24, .int 0, .int 0, .int 0, .int 0, .int 0])), (h11, .inl (cS, 4, .inr (.inr (.inr (.inr (fun k => [h25, h26, h27, h28][k]?)))))), (h13, .inr (9, [.ref h1, .ref h2, .ref h32, .ref h33, .ref h34, .int 0])), (h14, .inr (7, [.ref h35, .ref h36])), (h15, .inl (cI, 12, .inl (fun _ => 0))), (h16, .inr (1, [.ref h37, .int 1])), (h17, .inr (1, [.ref h38, .int 1])), (h18, .inl (cI, 5, .inl (fun _ => 0))), (h19, .inl (cI, 12, .inl (fun _ => 0))), (h20, .inr (1, [.ref h39, .int 1])), (h21, .inr (1, [.ref h40, .int 1])), (h22, .inl (cI, 12, .inl (fun _ => 0))), (h23, .inl (cI, 120, .inl (fun _ => 0))), (h24, .inl (cI, 12, .inl (fun _ => 0))), (h26, .inr (6, [.ref h42, .int (-1), .int 0])), (h27, .inr (6, [.ref h43, .int (-1), .int 0])), (h28, .inr (6, [.ref h44, .int (-1), .int 0])), (h30, .inl (cI, 12, .inl (fun _ => 0))), (h31, .inl (cI, 12, .inl (fun _ => 0))), (h32, .inl (cI, 12, .inl (fun _ => 0))), (h33, .inl (cI, 12, .inl (fun _ => 0))), (h34, .inl (cI, 12, .inl (fun _ => 0))), (h35, .inl (cI, 4, .inl (fun _ => -1))), (h36, .inl (cI, 4, .inl (fun _ => 0))), (h37, .inl (cI, 4096, .inl (fun _ => 0))), (h38, .inl (cI, 0, .inl (fun _ => 0))), (h39, .inl (cI, 4096, .inl (fun _ => 0))), (h40, .inl (cI, 0, .inl (fun _ => 0))), (h42, .inl (cI, 40, .inl (fun _ => 0))), (h43, .inl (cI, 40, .inl (fun _ => 0))), (h44, .inl (cI, 40, .inl (fun _ => 0))), (h2, .inr (3, [.ref h1, .ref h16, .ref h17, .int 0])), (h29, .inl (cI, 12, .inl (upd (upd (upd (upd (upd (upd (upd (upd (upd (upd (upd (upd (fun _ => 0) 0 (-1)) 1 (-1)) 2 (-1)) 3 (-1)) 4 (-1)) 5 (-1)) 6 (-1)) 7 (-1)) 8 (-1)) 9 (-1)) 10 (-1)) 11 (-1)))), (h12, .inr (9, [.ref h1, .ref h2, .ref h29, .ref h30, .ref h31, .int 0])), (h1, .inr (2, [.ref h15, .int 0, .int 0])), (h25, .inr (6, [.ref h41, .int 0, .int 0])), (h41, .inl (cI, 40, .inl (fun _ => 0)))] := hD
              refine lv_aload_n hx hb dX11_paint_38 rfl (lv_at hl 0 rfl) ?_
              refine va_get (D := D) (ci := 11) (v := .ref h1) (C := RX11) (T := TX11) (N := 16) hx hb hts hin11 hown hK hP 0 rfl rfl 0 (by decide) (hts (.fieldLink RX11 12 "MissedPoints" "net" "LMissedPoints$Net;") (by decide +kernel)) (fun _ h9 => h9) rfl dX11_paint_39 ?_
              refine va_getN (D := D) (ci := 2) (v := .int 0) (C := RX2) (T := TX2) (N := 3) hx hb hts hin2 hown hK hP 42 rfl rfl 1 (by decide) (va_Nw.use rfl hN.2.2.2.2.2.2.2.2.2.1) (fun _ h9 => h9) rfl dX11_paint_42 ?_
              have hP9 := hP.sub (ws' := []) [] rfl
              have hD9 := hD.sub (ws' := []) [] (by decide) rfl
              subst hAe
              exact W.iret (v := 0) hx hb hr (fun t ht hW => ⟨⟨_, (), rfl, by rw [if_neg k1650, if_neg k1652, if_pos rfl], by rw [ht]; exact hP9, hD9⟩, hS.F ht⟩) hS.2.2 dX11_paint_45
            · by_cases k1722 : x0 = 1
              · subst k1722
                refine va_aldq hx hb hK hP 9 1 rfl rfl (lz_vp (x := 1) (n := 4) (by decide) (by decide)) dX11_paint_33 ?_
                refine lz_va (y := .ref h26) rfl ?_
                refine lv_iload_n hx hb dX11_paint_34 rfl (lv_at hl 2 rfl) ?_
                have hPc := hP.sub (ws' := [(h12, .inr (9, [.ref h1, .ref h2, .ref h29, .ref h30, .ref h31, .int 0])), (h26, .inr (6, [.ref h42, .int (-1), .int 0])), (h1, .inr (2, [.ref h15, .int 0, .int 0])), (h42, .inl (cI, 40, .inl (fun _ => 0)))]) [41, 23, 44, 38] rfl
                have hDc := hD.sub (ws' := [(h12, .inr (9, [.ref h1, .ref h2, .ref h29, .ref h30, .ref h31, .int 0])), (h26, .inr (6, [.ref h42, .int (-1), .int 0])), (h1, .inr (2, [.ref h15, .int 0, .int 0])), (h42, .inl (cI, 40, .inl (fun _ => 0)))]) [41, 23, 44, 38] (by decide) rfl
                refine lz_qv (wr := [(h0, .inr (11, [.ref h1, .ref h2, .ref h3, .ref h4, .ref h5, .ref h6, .ref h7, .int 0, .int 0, .ref h8, .ref h9, .ref h10, .ref h11, .ref h12, .ref h13, .ref h14])), (h3, .inr (4, [.ref h1, .ref h2])), (h4, .inr (10, [.ref h1, .ref h2, .ref h18, .int 0, .int 0, .int 0, .int 0, .int (-1)])), (h5, .inr (2, [.ref h19, .int 0, .int 0])), (h6, .inr (3, [.ref h5, .ref h20, .ref h21, .int 0])), (h7, .inr (2, [.ref h22, .int 0, .int 0])), (h8, .inr (0, [.int 1])), (h9, .inr (8, [.ref h23, .int 0])), (h10, .inr (5, [.ref h9, .ref h1, .ref h24, .int 0, .int 0, .int 0, .int 0, .int 0])), (h11, .inl (cS, 4, .inr (.inr (.inr (.inr (fun k => [h25, h26, h27, h28][k]?)))))), (h13, .inr (9, [.ref h1, .ref h2, .ref h32, .ref h33, .ref h34, .int 0])), (h14, .inr (7, [.ref h35, .ref h36])), (h15, .inl (cI, 12, .inl (fun _ => 0))), (h16, .inr (1, [.ref h37, .int 1])), (h17, .inr (1, [.ref h38, .int 1])), (h18, .inl (cI, 5, .inl (fun _ => 0))), (h19, .inl (cI, 12, .inl (fun _ => 0))), (h20, .inr (1, [.ref h39, .int 1])), (h21, .inr (1, [.ref h40, .int 1])), (h22, .inl (cI, 12, .inl (fun _ => 0))), (h23, .inl (cI, 120, .inl (fun _ => 0))), (h24, .inl (cI, 12, .inl (fun _ => 0))), (h25, .inr (6, [.ref h41, .int (-1), .int 0])), (h27, .inr (6, [.ref h43, .int (-1), .int 0])), (h28, .inr (6, [.ref h44, .int (-1), .int 0])), (h30, .inl (cI, 12, .inl (fun _ => 0))), (h31, .inl (cI, 12, .inl (fun _ => 0))), (h32, .inl (cI, 12, .inl (fun _ => 0))), (h33, .inl (cI, 12, .inl (fun _ => 0))), (h34, .inl (cI, 12, .inl (fun _ => 0))), (h35, .inl (cI, 4, .inl (fun _ => -1))), (h36, .inl (cI, 4, .inl (fun _ => 0))), (h37, .inl (cI, 4096, .inl (fun _ => 0))), (h38, .inl (cI, 0, .inl (fun _ => 0))), (h39, .inl (cI, 4096, .inl (fun _ => 0))), (h40, .inl (cI, 0, .inl (fun _ => 0))), (h41, .inl (cI, 40, .inl (fun _ => 0))), (h43, .inl (cI, 40, .inl (fun _ => 0))), (h44, .inl (cI, 40, .inl (fun _ => 0))), (h2, .inr (3, [.ref h1, .ref h16, .ref h17, .int 0])), (h29, .inl (cI, 12, .inl (upd (upd (upd (upd (upd (upd (upd (upd (upd (upd (upd (upd (fun _ => 0) 0 (-1)) 1 (-1)) 2 (-1)) 3 (-1)) 4 (-1)) 5 (-1)) 6 (-1)) 7 (-1)) 8 (-1)) 9 (-1)) 10 (-1)) 11 (-1))))]) (w1 := [(h12, .inr (9, [.ref h1, .ref h2, .ref h29, .ref h30, .ref h31, .int 0])), (h1, .inr (2, [.ref h15, .int 0, .int 0])), (h26, .inr (6, [.ref h42, .int 0, .int 0])), (h42, .inl (cI, 40, .inl (fun _ => 0)))]) (As := [.ref h26, .int 0]) (rest := []) ⟨hx, hb, hml, hown, hts⟩ (c_X9_writeTo_0 l D cI cS H.size h12 h26 h1 h2 h29 h30 h31 h42 h15) hKK hP hD hS hA [41, 23, 44, 38] [0, 1, 2, 3, 4, 5, 6, 7, 8, 9, 10, 11, 12, 13, 14, 15, 16, 17, 18, 19, 20, 21, 22, 24, 25, 26, 27, 28, 29, 30, 31, 32, 33, 34, 35, 36, 37, 39, 40, 42, 43] (by decide) rfl rfl (by decide) (by decide) hPc hDc (ci := 9) rfl rfl (cwV 2 hts gX11_paint_X9_writeTo rfl rfl rfl (by decide +kernel) ⟨Nat.le_of_ble_eq_true rfl, Nat.le_of_ble_eq_true rfl⟩) rfl hl.1 rfl (Nat.le_of_ble_eq_true rfl) dX11_paint_35 ⟨Nat.le_of_ble_eq_true rfl, Nat.le_of_ble_eq_true rfl⟩ (fun H locs hP hD hS => ?_)
                have hP : va_P D cls [(h0, .inr (11, [.ref h1, .ref h2, .ref h3, .ref h4, .ref h5, .ref h6, .ref h7, .int 0, .int 0, .ref h8, .ref h9, .ref h10, .ref h11, .ref h12, .ref h13, .ref h14])), (h3, .inr (4, [.ref h1, .ref h2])), (h4, .inr (10, [.ref h1, .ref h2, .ref h18, .int 0, .int 0, .int 0, .int 0, .int (-1)])), (h5, .inr (2, [.ref h19, .int 0, .int 0])), (h6, .inr (3, [.ref h5, .ref h20, .ref h21, .int 0])), (h7, .inr (2, [.ref h22, .int 0, .int 0])), (h8, .inr (0, [.int 1])), (h9, .inr (8, [.ref h23, .int 0])), (h10, .inr (5, [.ref h9, .ref h1, .ref h24, .int 0, .int 0, .int 0, .int 0, .int 0])), (h11, .inl (cS, 4, .inr (.inr (.inr (.inr (fun k => [h25, h26, h27, h28][k]?)))))), (h13, .inr (9, [.ref h1, .ref h2, .ref h32, .ref h33, .ref h34, .int 0])), (h14, .inr (7, [.ref h35, .ref h36])), (h15, .inl (cI, 12, .inl (fun _ => 0))), (h16, .inr (1, [.ref h37, .int 1])), (h17, .inr (1, [.ref h38, .int 1])), (h18, .inl (cI, 5, .inl (fun _ => 0))), (h19, .inl (cI, 12, .inl (fun _ => 0))), (h20, .inr (1, [.ref h39, .int 1])), (h21, .inr (1, [.ref h40, .int 1])), (h22, .inl (cI, 12, .inl (fun _ => 0))), (h23, .inl (cI, 120, .inl (fun _ => 0))), (h24, .inl (cI, 12, .inl (fun _ => 0))), (h25, .inr (6, [.ref h41, .int (-1), .int 0])), (h27, .inr (6, [.ref h43, .int (-1), .int 0])), (h28, .inr (6, [.ref h44, .int (-1), .int 0])), (h30, .inl (cI, 12, .inl (fun _ => 0))), (h31, .inl (cI, 12, .inl (fun _ => 0))), (h32, .inl (cI, 12, .inl (fun _ => 0))), (h33, .inl (cI, 12, .inl (fun _ => 0))), (h34, .inl (cI, 12, .inl (fun _ => 0))), (h35, .inl (cI, 4, .inl (fun _ => -1))), (h36, .inl (cI, 4, .inl (fun _ => 0))), (h37, .inl (cI, 4096, .inl (fun _ => 0))), (h38, .inl (cI, 0, .inl (fun _ => 0))), (h39, .inl (cI, 4096, .inl (fun _ => 0))), (h40, .inl (cI, 0, .inl (fun _ => 0))), (h41, .inl (cI, 40, .inl (fun _ => 0))), (h43, .inl (cI, 40, .inl (fun _ => 0))), (h44, .inl (cI, 40, .inl (fun _ => 0))), (h2, .inr (3, [.ref h1, .ref h16, .ref h17, .int 0])), (h29, .inl (cI, 12, .inl (upd (upd (upd (upd (upd (upd (upd (upd (upd (upd (upd (upd (fun _ => 0) 0 (-1)) 1 (-1)) 2 (-1)) 3 (-1)) 4 (-1)) 5 (-1)) 6 (-1)) 7 (-1)) 8 (-1)) 9 (-1)) 10 (-1)) 11 (-1)))), (h12, .inr (9, [.ref h1, .ref h2, .ref h29, .ref h30, .ref h31, .int 0])), (h1, .inr (2, [.ref h15, .int 0, .int 0])), (h26, .inr (6, [.ref h42, .int 0, .int 0])), (h42, .inl (cI, 40, .inl (fun _ => 0)))] H := hP
                have hD : va_D A [(h0, .inr (11, [.ref h1, .ref h2, .ref h3, .ref h4, .ref h5, .ref h6, .ref h7, .int 0, .int 0, .ref h8, .ref h9, .ref h10, .ref h11, .ref h12, .ref h13, .ref h14])), (h3, .inr (4, [.ref h1, .ref h2])), (h4, .inr (10, [.ref h1, .ref h2, .ref h18, .int 0, .int 0, .int 0, .int 0, .int (-1)])), (h5, .inr (2, [.ref h19, .int 0, .int 0])), (h6, .inr (3, [.ref h5, .ref h20, .ref h21, .int 0])), (h7, .inr (2, [.ref h22, .int 0, .int 0])), (h8, .inr (0, [.int 1])), (h9, .inr (8, [.ref h23, .int 0])), (h10, .inr (5, [.ref h9, .ref h1, .ref h24, .int 0, .int 0, .int 0, .int 0, .int 0])), (h11, .inl (cS, 4, .inr (.inr (.inr (.inr (fun k => [h25, h26, h27, h28][k]?)))))), (h13, .inr (9, [.ref h1, .ref h2, .ref h32, .ref h33, .ref h34, .int 0])), (h14, .inr (7, [.ref h35, .ref h36])), (h15, .inl (cI, 12, .inl (fun _ => 0))), (h16, .inr (1, [.ref h37, .int 1])), (h17, .inr (1, [.ref h38, .int 1])), (h18, .inl (cI, 5, .inl (fun _ => 0))), (h19, .inl (cI, 12, .inl (fun _ => 0))), (h20, .inr (1, [.ref h39, .int 1])), (h21, .inr (1, [.ref h40, .int 1])), (h22, .inl (cI, 12, .inl (fun _ => 0))), (h23, .inl (cI, 120, .inl (fun _ => 0))), (h24, .inl (cI, 12, .inl (fun _ => 0))), (h25, .inr (6, [.ref h41, .int (-1), .int 0])), (h27, .inr (6, [.ref h43, .int (-1), .int 0])), (h28, .inr (6, [.ref h44, .int (-1), .int 0])), (h30, .inl (cI, 12, .inl (fun _ => 0))), (h31, .inl (cI, 12, .inl (fun _ => 0))), (h32, .inl (cI, 12, .inl (fun _ => 0))), (h33, .inl (cI, 12, .inl (fun _ => 0))), (h34, .inl (cI, 12, .inl (fun _ => 0))), (h35, .inl (cI, 4, .inl (fun _ => -1))), (h36, .inl (cI, 4, .inl (fun _ => 0))), (h37, .inl (cI, 4096, .inl (fun _ => 0))), (h38, .inl (cI, 0, .inl (fun _ => 0))), (h39, .inl (cI, 4096, .inl (fun _ => 0))), (h40, .inl (cI, 0, .inl (fun _ => 0))), (h41, .inl (cI, 40, .inl (fun _ => 0))), (h43, .inl (cI, 40, .inl (fun _ => 0))), (h44, .inl (cI, 40, .inl (fun _ => 0))), (h2, .inr (3, [.ref h1, .ref h16, .ref h17, .int 0])), (h29, .inl (cI, 12, .inl (upd (upd (upd (upd (upd (upd (upd (upd (upd (upd (upd (upd (fun _ => 0) 0 (-1)) 1 (-1)) 2 (-1)) 3 (-1)) 4 (-1)) 5 (-1)) 6 (-1)) 7 (-1)) 8 (-1)) 9 (-1)) 10 (-1)) 11 (-1)))), (h12, .inr (9, [.ref h1, .ref h2, .ref h29, .ref h30, .ref h31, .int 0])), (h1, .inr (2, [.ref h15, .int 0, .int 0])), (h26, .inr (6, [.ref h42, .int 0, .int 0])), (h42, .inl (cI, 40, .inl (fun _ => 0)))] := hD
                refine lv_aload_n hx hb dX11_paint_38 rfl (lv_at hl 0 rfl) ?_
                refine va_get (D := D) (ci := 11) (v := .ref h1) (C := RX11) (T := TX11) (N := 16) hx hb hts hin11 hown hK hP 0 rfl rfl 0 (by decide) (hts (.fieldLink RX11 12 "MissedPoints" "net" "LMissedPoints$Net;") (by decide +kernel)) (fun _ h9 => h9) rfl dX11_paint_39 ?_
                refine va_getN (D := D) (ci := 2) (v := .int 0) (C := RX2) (T := TX2) (N := 3) hx hb hts hin2 hown hK hP 42 rfl rfl 1 (by decide) (va_Nw.use rfl hN.2.2.2.2.2.2.2.2.2.1) (fun _ h9 => h9) rfl dX11_paint_42 ?_
                have hP9 := hP.sub (ws' := []) [] rfl
                have hD9 := hD.sub (ws' := []) [] (by decide) rfl
                subst hAe
                exact W.iret (v := 0) hx hb hr (fun t ht hW => ⟨⟨_, (), rfl, by rw [if_neg k1650, if_neg k1652, if_pos rfl], by rw [ht]; exact hP9, hD9⟩, hS.F ht⟩) hS.2.2 dX11_paint_45
              · by_cases k1724 : x0 = 2
                · subst k1724
                  refine va_aldq hx hb hK hP 9 1 rfl rfl (lz_vp (x := 2) (n := 4) (by decide) (by decide)) dX11_paint_33 ?_
                  refine lz_va (y := .ref h27) rfl ?_
                  refine lv_iload_n hx hb dX11_paint_34 rfl (lv_at hl 2 rfl) ?_
                  have hPc := hP.sub (ws' := [(h12, .inr (9, [.ref h1, .ref h2, .ref h29, .ref h30, .ref h31, .int 0])), (h27, .inr (6, [.ref h43, .int (-1), .int 0])), (h1, .inr (2, [.ref h15, .int 0, .int 0])), (h43, .inl (cI, 40, .inl (fun _ => 0)))]) [41, 24, 44, 39] rfl
                  have hDc := hD.sub (ws' := [(h12, .inr (9, [.ref h1, .ref h2, .ref h29, .ref h30, .ref h31, .int 0])), (h27, .inr (6, [.ref h43, .int (-1), .int 0])), (h1, .inr (2, [.ref h15, .int 0, .int 0])), (h43, .inl (cI, 40, .inl (fun _ => 0)))]) [41, 24, 44, 39] (by decide) rfl
                  refine lz_qv (wr := [(h0, .inr (11, [.ref h1, .ref h2, .ref h3, .ref h4, .ref h5, .ref h6, .ref h7, .int 0, .int 0, .ref h8, .ref h9, .ref h10, .ref h11, .ref h12, .ref h13, .ref h14])), (h3, .inr (4, [.ref h1, .ref h2])), (h4, .inr (10, [.ref h1, .ref h2, .ref h18, .int 0, .int 0, .int 0, .int 0, .int (-1)])), (h5, .inr (2, [.ref h19, .int 0, .int 0])), (h6, .inr (3, [.ref h5, .ref h20, .ref h21, .int 0])), (h7, .inr (2, [.ref h22, .int 0, .int 0])), (h8, .inr (0, [.int 1])), (h9, .inr (8, [.ref h23, .int 0])), (h10, .inr (5, [.ref h9, .ref h1, .ref h24, .int 0, .int 0, .int 0, .int 0, .int 0])), (h11, .inl (cS, 4, .inr (.inr (.inr (.inr (fun k => [h25, h26, h27, h28][k]?)))))), (h13, .inr (9, [.ref h1, .ref h2, .ref h32, .ref h33, .ref h34, .int 0])), (h14, .inr (7, [.ref h35, .ref h36])), (h15, .inl (cI, 12, .inl (fun _ => 0))), (h16, .inr (1, [.ref h37, .int 1])), (h17, .inr (1, [.ref h38, .int 1])), (h18, .inl (cI, 5, .inl (fun _ => 0))), (h19, .inl (cI, 12, .inl (fun _ => 0))), (h20, .inr (1, [.ref h39, .int 1])), (h21, .inr (1, [.ref h40, .int 1])), (h22, .inl (cI, 12, .inl (fun _ => 0))), (h23, .inl (cI, 120, .inl (fun _ => 0))), (h24, .inl (cI, 12, .inl (fun _ => 0))), (h25, .inr (6, [.ref h41, .int (-1), .int 0])), (h26, .inr (6, [.ref h42, .int (-1), .int 0])), (h28, .inr (6, [.ref h44, .int (-1), .int 0])), (h30, .inl (cI, 12, .inl (fun _ => 0))), (h31, .inl (cI, 12, .inl (fun _ => 0))), (h32, .inl (cI, 12, .inl (fun _ => 0))), (h33, .inl (cI, 12, .inl (fun _ => 0))), (h34, .inl (cI, 12, .inl (fun _ => 0))), (h35, .inl (cI, 4, .inl (fun _ => -1))), (h36, .inl (cI, 4, .inl (fun _ => 0))), (h37, .inl (cI, 4096, .inl (fun _ => 0))), (h38, .inl (cI, 0, .inl (fun _ => 0))), (h39, .inl (cI, 4096, .inl (fun _ => 0))), (h40, .inl (cI, 0, .inl (fun _ => 0))), (h41, .inl (cI, 40, .inl (fun _ => 0))), (h42, .inl (cI, 40, .inl (fun _ => 0))), (h44, .inl (cI, 40, .inl (fun _ => 0))), (h2, .inr (3, [.ref h1, .ref h16, .ref h17, .int 0])), (h29, .inl (cI, 12, .inl (upd (upd (upd (upd (upd (upd (upd (upd (upd (upd (upd (upd (fun _ => 0) 0 (-1)) 1 (-1)) 2 (-1)) 3 (-1)) 4 (-1)) 5 (-1)) 6 (-1)) 7 (-1)) 8 (-1)) 9 (-1)) 10 (-1)) 11 (-1))))]) (w1 := [(h12, .inr (9, [.ref h1, .ref h2, .ref h29, .ref h30, .ref h31, .int 0])), (h1, .inr (2, [.ref h15, .int 0, .int 0])), (h27, .inr (6, [.ref h43, .int 0, .int 0])), (h43, .inl (cI, 40, .inl (fun _ => 0)))]) (As := [.ref h27, .int 0]) (rest := []) ⟨hx, hb, hml, hown, hts⟩ (c_X9_writeTo_0 l D cI cS H.size h12 h27 h1 h2 h29 h30 h31 h43 h15) hKK hP hD hS hA [41, 24, 44, 39] [0, 1, 2, 3, 4, 5, 6, 7, 8, 9, 10, 11, 12, 13, 14, 15, 16, 17, 18, 19, 20, 21, 22, 23, 25, 26, 27, 28, 29, 30, 31, 32, 33, 34, 35, 36, 37, 38, 40, 42, 43] (by decide) rfl rfl (by decide) (by decide) hPc hDc (ci := 9) rfl rfl (cwV 2 hts gX11_paint_X9_writeTo rfl rfl rfl (by decide +kernel) ⟨Nat.le_of_ble_eq_true rfl, Nat.le_of_ble_eq_true rfl⟩) rfl hl.1 rfl (Nat.le_of_ble_eq_true rfl) dX11_paint_35 ⟨Nat.le_of_ble_eq_true rfl, Nat.le_of_ble_eq_true rfl⟩ (fun H locs hP hD hS => ?_)
                  have hP : va_P D cls [(h0, .inr (11, [.ref h1, .ref h2, .ref h3, .ref h4, .ref h5, .ref h6, .ref h7, .int 0, .int 0, .ref h8, .ref h9, .ref h10, .ref h11, .ref h12, .ref h13, .ref h14])), (h3, .inr (4, [.ref h1, .ref h2])), (h4, .inr (10, [.ref h1, .ref h2, .ref h18, .int 0, .int 0, .int 0, .int 0, .int (-1)])), (h5, .inr (2, [.ref h19, .int 0, .int 0])), (h6, .inr (3, [.ref h5, .ref h20, .ref h21, .int 0])), (h7, .inr (2, [.ref h22, .int 0, .int 0])), (h8, .inr (0, [.int 1])), (h9, .inr (8, [.ref h23, .int 0])), (h10, .inr (5, [.ref h9, .ref h1, .ref h24, .int 0, .int 0, .int 0, .int 0, .int 0])), (h11, .inl (cS, 4, .inr (.inr (.inr (.inr (fun k => [h25, h26, h27, h28][k]?)))))), (h13, .inr (9, [.ref h1, .ref h2, .ref h32, .ref h33, .ref h34, .int 0])), (h14, .inr (7, [.ref h35, .ref h36])), (h15, .inl (cI, 12, .inl (fun _ => 0))), (h16, .inr (1, [.ref h37, .int 1])), (h17, .inr (1, [.ref h38, .int 1])), (h18, .inl (cI, 5, .inl (fun _ => 0))), (h19, .inl (cI, 12, .inl (fun _ => 0))), (h20, .inr (1, [.ref h39, .int 1])), (h21, .inr (1, [.ref h40, .int 1])), (h22, .inl (cI, 12, .inl (fun _ => 0))), (h23, .inl (cI, 120, .inl (fun _ => 0))), (h24, .inl (cI, 12, .inl (fun _ => 0))), (h25, .inr (6, [.ref h41, .int (-1), .int 0])), (h26, .inr (6, [.ref h42, .int (-1), .int 0])), (h28, .inr (6, [.ref h44, .int (-1), .int 0])), (h30, .inl (cI, 12, .inl (fun _ => 0))), (h31, .inl (cI, 12, .inl (fun _ => 0))), (h32, .inl (cI, 12, .inl (fun _ => 0))), (h33, .inl (cI, 12, .inl (fun _ => 0))), (h34, .inl (cI, 12, .inl (fun _ => 0))), (h35, .inl (cI, 4, .inl (fun _ => -1))), (h36, .inl (cI, 4, .inl (fun _ => 0))), (h37, .inl (cI, 4096, .inl (fun _ => 0))), (h38, .inl (cI, 0, .inl (fun _ => 0))), (h39, .inl (cI, 4096, .inl (fun _ => 0))), (h40, .inl (cI, 0, .inl (fun _ => 0))), (h41, .inl (cI, 40, .inl (fun _ => 0))), (h42, .inl (cI, 40, .inl (fun _ => 0))), (h44, .inl (cI, 40, .inl (fun _ => 0))), (h2, .inr (3, [.ref h1, .ref h16, .ref h17, .int 0])), (h29, .inl (cI, 12, .inl (upd (upd (upd (upd (upd (upd (upd (upd (upd (upd (upd (upd (fun _ => 0) 0 (-1)) 1 (-1)) 2 (-1)) 3 (-1)) 4 (-1)) 5 (-1)) 6 (-1)) 7 (-1)) 8 (-1)) 9 (-1)) 10 (-1)) 11 (-1)))), (h12, .inr (9, [.ref h1, .ref h2, .ref h29, .ref h30, .ref h31, .int 0])), (h1, .inr (2, [.ref h15, .int 0, .int 0])), (h27, .inr (6, [.ref h43, .int 0, .int 0])), (h43, .inl (cI, 40, .inl (fun _ => 0)))] H := hP
                  have hD : va_D A [(h0, .inr (11, [.ref h1, .ref h2, .ref h3, .ref h4, .ref h5, .ref h6, .ref h7, .int 0, .int 0, .ref h8, .ref h9, .ref h10, .ref h11, .ref h12, .ref h13, .ref h14])), (h3, .inr (4, [.ref h1, .ref h2])), (h4, .inr (10, [.ref h1, .ref h2, .ref h18, .int 0, .int 0, .int 0, .int 0, .int (-1)])), (h5, .inr (2, [.ref h19, .int 0, .int 0])), (h6, .inr (3, [.ref h5, .ref h20, .ref h21, .int 0])), (h7, .inr (2, [.ref h22, .int 0, .int 0])), (h8, .inr (0, [.int 1])), (h9, .inr (8, [.ref h23, .int 0])), (h10, .inr (5, [.ref h9, .ref h1, .ref h24, .int 0, .int 0, .int 0, .int 0, .int 0])), (h11, .inl (cS, 4, .inr (.inr (.inr (.inr (fun k => [h25, h26, h27, h28][k]?)))))), (h13, .inr (9, [.ref h1, .ref h2, .ref h32, .ref h33, .ref h34, .int 0])), (h14, .inr (7, [.ref h35, .ref h36])), (h15, .inl (cI, 12, .inl (fun _ => 0))), (h16, .inr (1, [.ref h37, .int 1])), (h17, .inr (1, [.ref h38, .int 1])), (h18, .inl (cI, 5, .inl (fun _ => 0))), (h19, .inl (cI, 12, .inl (fun _ => 0))), (h20, .inr (1, [.ref h39, .int 1])), (h21, .inr (1, [.ref h40, .int 1])), (h22, .inl (cI, 12, .inl (fun _ => 0))), (h23, .inl (cI, 120, .inl (fun _ => 0))), (h24, .inl (cI, 12, .inl (fun _ => 0))), (h25, .inr (6, [.ref h41, .int (-1), .int 0])), (h26, .inr (6, [.ref h42, .int (-1), .int 0])), (h28, .inr (6, [.ref h44, .int (-1), .int 0])), (h30, .inl (cI, 12, .inl (fun _ => 0))), (h31, .inl (cI, 12, .inl (fun _ => 0))), (h32, .inl (cI, 12, .inl (fun _ => 0))), (h33, .inl (cI, 12, .inl (fun _ => 0))), (h34, .inl (cI, 12, .inl (fun _ => 0))), (h35, .inl (cI, 4, .inl (fun _ => -1))), (h36, .inl (cI, 4, .inl (fun _ => 0))), (h37, .inl (cI, 4096, .inl (fun _ => 0))), (h38, .inl (cI, 0, .inl (fun _ => 0))), (h39, .inl (cI, 4096, .inl (fun _ => 0))), (h40, .inl (cI, 0, .inl (fun _ => 0))), (h41, .inl (cI, 40, .inl (fun _ => 0))), (h42, .inl (cI, 40, .inl (fun _ => 0))), (h44, .inl (cI, 40, .inl (fun _ => 0))), (h2, .inr (3, [.ref h1, .ref h16, .ref h17, .int 0])), (h29, .inl (cI, 12, .inl (upd (upd (upd (upd (upd (upd (upd (upd (upd (upd (upd (upd (fun _ => 0) 0 (-1)) 1 (-1)) 2 (-1)) 3 (-1)) 4 (-1)) 5 (-1)) 6 (-1)) 7 (-1)) 8 (-1)) 9 (-1)) 10 (-1)) 11 (-1)))), (h12, .inr (9, [.ref h1, .ref h2, .ref h29, .ref h30, .ref h31, .int 0])), (h1, .inr (2, [.ref h15, .int 0, .int 0])), (h27, .inr (6, [.ref h43, .int 0, .int 0])), (h43, .inl (cI, 40, .inl (fun _ => 0)))] := hD
                  refine lv_aload_n hx hb dX11_paint_38 rfl (lv_at hl 0 rfl) ?_
                  refine va_get (D := D) (ci := 11) (v := .ref h1) (C := RX11) (T := TX11) (N := 16) hx hb hts hin11 hown hK hP 0 rfl rfl 0 (by decide) (hts (.fieldLink RX11 12 "MissedPoints" "net" "LMissedPoints$Net;") (by decide +kernel)) (fun _ h9 => h9) rfl dX11_paint_39 ?_
                  refine va_getN (D := D) (ci := 2) (v := .int 0) (C := RX2) (T := TX2) (N := 3) hx hb hts hin2 hown hK hP 42 rfl rfl 1 (by decide) (va_Nw.use rfl hN.2.2.2.2.2.2.2.2.2.1) (fun _ h9 => h9) rfl dX11_paint_42 ?_
                  have hP9 := hP.sub (ws' := []) [] rfl
                  have hD9 := hD.sub (ws' := []) [] (by decide) rfl
                  subst hAe
                  exact W.iret (v := 0) hx hb hr (fun t ht hW => ⟨⟨_, (), rfl, by rw [if_neg k1650, if_neg k1652, if_pos rfl], by rw [ht]; exact hP9, hD9⟩, hS.F ht⟩) hS.2.2 dX11_paint_45
                · obtain rfl : x0 = 3 := by have zf1 := mt (lz_lt x0 (0 : Int32)).mpr k1650; have zf2 := mt (lz_le (4 : Int32) x0).mpr k1652; have zf3 := mt (lz_eq x0 (0 : Int32)).mpr k1677; have zf4 := mt (lz_eq x0 (1 : Int32)).mpr k1722; have zf5 := mt (lz_eq x0 (2 : Int32)).mpr k1724; have zn0 : (0 : Int32).toInt = 0 := (by decide); have zn1 : (1 : Int32).toInt = 1 := (by decide); have zn2 : (2 : Int32).toInt = 2 := (by decide); have zn3 : (3 : Int32).toInt = 3 := (by decide); have zn4 : (4 : Int32).toInt = 4 := (by decide); rw [lz_eq]; omega
                  refine va_aldq hx hb hK hP 9 1 rfl rfl (lz_vp (x := 3) (n := 4) (by decide) (by decide)) dX11_paint_33 ?_
                  refine lz_va (y := .ref h28) rfl ?_
                  refine lv_iload_n hx hb dX11_paint_34 rfl (lv_at hl 2 rfl) ?_
                  have hPc := hP.sub (ws' := [(h12, .inr (9, [.ref h1, .ref h2, .ref h29, .ref h30, .ref h31, .int 0])), (h28, .inr (6, [.ref h44, .int (-1), .int 0])), (h1, .inr (2, [.ref h15, .int 0, .int 0])), (h44, .inl (cI, 40, .inl (fun _ => 0)))]) [41, 25, 44, 40] rfl
                  have hDc := hD.sub (ws' := [(h12, .inr (9, [.ref h1, .ref h2, .ref h29, .ref h30, .ref h31, .int 0])), (h28, .inr (6, [.ref h44, .int (-1), .int 0])), (h1, .inr (2, [.ref h15, .int 0, .int 0])), (h44, .inl (cI, 40, .inl (fun _ => 0)))]) [41, 25, 44, 40] (by decide) rfl
                  refine lz_qv (wr := [(h0, .inr (11, [.ref h1, .ref h2, .ref h3, .ref h4, .ref h5, .ref h6, .ref h7, .int 0, .int 0, .ref h8, .ref h9, .ref h10, .ref h11, .ref h12, .ref h13, .ref h14])), (h3, .inr (4, [.ref h1, .ref h2])), (h4, .inr (10, [.ref h1, .ref h2, .ref h18, .int 0, .int 0, .int 0, .int 0, .int (-1)])), (h5, .inr (2, [.ref h19, .int 0, .int 0])), (h6, .inr (3, [.ref h5, .ref h20, .ref h21, .int 0])), (h7, .inr (2, [.ref h22, .int 0, .int 0])), (h8, .inr (0, [.int 1])), (h9, .inr (8, [.ref h23, .int 0])), (h10, .inr (5, [.ref h9, .ref h1, .ref h24, .int 0, .int 0, .int 0, .int 0, .int 0])), (h11, .inl (cS, 4, .inr (.inr (.inr (.inr (fun k => [h25, h26, h27, h28][k]?)))))), (h13, .inr (9, [.ref h1, .ref h2, .ref h32, .ref h33, .ref h34, .int 0])), (h14, .inr (7, [.ref h35, .ref h36])), (h15, .inl (cI, 12, .inl (fun _ => 0))), (h16, .inr (1, [.ref h37, .int 1])), (h17, .inr (1, [.ref h38, .int 1])), (h18, .inl (cI, 5, .inl (fun _ => 0))), (h19, .inl (cI, 12, .inl (fun _ => 0))), (h20, .inr (1, [.ref h39, .int 1])), (h21, .inr (1, [.ref h40, .int 1])), (h22, .inl (cI, 12, .inl (fun _ => 0))), (h23, .inl (cI, 120, .inl (fun _ => 0))), (h24, .inl (cI, 12, .inl (fun _ => 0))), (h25, .inr (6, [.ref h41, .int (-1), .int 0])), (h26, .inr (6, [.ref h42, .int (-1), .int 0])), (h27, .inr (6, [.ref h43, .int (-1), .int 0])), (h30, .inl (cI, 12, .inl (fun _ => 0))), (h31, .inl (cI, 12, .inl (fun _ => 0))), (h32, .inl (cI, 12, .inl (fun _ => 0))), (h33, .inl (cI, 12, .inl (fun _ => 0))), (h34, .inl (cI, 12, .inl (fun _ => 0))), (h35, .inl (cI, 4, .inl (fun _ => -1))), (h36, .inl (cI, 4, .inl (fun _ => 0))), (h37, .inl (cI, 4096, .inl (fun _ => 0))), (h38, .inl (cI, 0, .inl (fun _ => 0))), (h39, .inl (cI, 4096, .inl (fun _ => 0))), (h40, .inl (cI, 0, .inl (fun _ => 0))), (h41, .inl (cI, 40, .inl (fun _ => 0))), (h42, .inl (cI, 40, .inl (fun _ => 0))), (h43, .inl (cI, 40, .inl (fun _ => 0))), (h2, .inr (3, [.ref h1, .ref h16, .ref h17, .int 0])), (h29, .inl (cI, 12, .inl (upd (upd (upd (upd (upd (upd (upd (upd (upd (upd (upd (upd (fun _ => 0) 0 (-1)) 1 (-1)) 2 (-1)) 3 (-1)) 4 (-1)) 5 (-1)) 6 (-1)) 7 (-1)) 8 (-1)) 9 (-1)) 10 (-1)) 11 (-1))))]) (w1 := [(h12, .inr (9, [.ref h1, .ref h2, .ref h29, .ref h30, .ref h31, .int 0])), (h1, .inr (2, [.ref h15, .int 0, .int 0])), (h28, .inr (6, [.ref h44, .int 0, .int 0])), (h44, .inl (cI, 40, .inl (fun _ => 0)))]) (As := [.ref h28, .int 0]) (rest := []) ⟨hx, hb, hml, hown, hts⟩ (c_X9_writeTo_0 l D cI cS H.size h12 h28 h1 h2 h29 h30 h31 h44 h15) hKK hP hD hS hA [41, 25, 44, 40] [0, 1, 2, 3, 4, 5, 6, 7, 8, 9, 10, 11, 12, 13, 14, 15, 16, 17, 18, 19, 20, 21, 22, 23, 24, 26, 27, 28, 29, 30, 31, 32, 33, 34, 35, 36, 37, 38, 39, 42, 43] (by decide) rfl rfl (by decide) (by decide) hPc hDc (ci := 9) rfl rfl (cwV 2 hts gX11_paint_X9_writeTo rfl rfl rfl (by decide +kernel) ⟨Nat.le_of_ble_eq_true rfl, Nat.le_of_ble_eq_true rfl⟩) rfl hl.1 rfl (Nat.le_of_ble_eq_true rfl) dX11_paint_35 ⟨Nat.le_of_ble_eq_true rfl, Nat.le_of_ble_eq_true rfl⟩ (fun H locs hP hD hS => ?_)
                  have hP : va_P D cls [(h0, .inr (11, [.ref h1, .ref h2, .ref h3, .ref h4, .ref h5, .ref h6, .ref h7, .int 0, .int 0, .ref h8, .ref h9, .ref h10, .ref h11, .ref h12, .ref h13, .ref h14])), (h3, .inr (4, [.ref h1, .ref h2])), (h4, .inr (10, [.ref h1, .ref h2, .ref h18, .int 0, .int 0, .int 0, .int 0, .int (-1)])), (h5, .inr (2, [.ref h19, .int 0, .int 0])), (h6, .inr (3, [.ref h5, .ref h20, .ref h21, .int 0])), (h7, .inr (2, [.ref h22, .int 0, .int 0])), (h8, .inr (0, [.int 1])), (h9, .inr (8, [.ref h23, .int 0])), (h10, .inr (5, [.ref h9, .ref h1, .ref h24, .int 0, .int 0, .int 0, .int 0, .int 0])), (h11, .inl (cS, 4, .inr (.inr (.inr (.inr (fun k => [h25, h26, h27, h28][k]?)))))), (h13, .inr (9, [.ref h1, .ref h2, .ref h32, .ref h33, .ref h34, .int 0])), (h14, .inr (7, [.ref h35, .ref h36])), (h15, .inl (cI, 12, .inl (fun _ => 0))), (h16, .inr (1, [.ref h37, .int 1])), (h17, .inr (1, [.ref h38, .int 1])), (h18, .inl (cI, 5, .inl (fun _ => 0))), (h19, .inl (cI, 12, .inl (fun _ => 0))), (h20, .inr (1, [.ref h39, .int 1])), (h21, .inr (1, [.ref h40, .int 1])), (h22, .inl (cI, 12, .inl (fun _ => 0))), (h23, .inl (cI, 120, .inl (fun _ => 0))), (h24, .inl (cI, 12, .inl (fun _ => 0))), (h25, .inr (6, [.ref h41, .int (-1), .int 0])), (h26, .inr (6, [.ref h42, .int (-1), .int 0])), (h27, .inr (6, [.ref h43, .int (-1), .int 0])), (h30, .inl (cI, 12, .inl (fun _ => 0))), (h31, .inl (cI, 12, .inl (fun _ => 0))), (h32, .inl (cI, 12, .inl (fun _ => 0))), (h33, .inl (cI, 12, .inl (fun _ => 0))), (h34, .inl (cI, 12, .inl (fun _ => 0))), (h35, .inl (cI, 4, .inl (fun _ => -1))), (h36, .inl (cI, 4, .inl (fun _ => 0))), (h37, .inl (cI, 4096, .inl (fun _ => 0))), (h38, .inl (cI, 0, .inl (fun _ => 0))), (h39, .inl (cI, 4096, .inl (fun _ => 0))), (h40, .inl (cI, 0, .inl (fun _ => 0))), (h41, .inl (cI, 40, .inl (fun _ => 0))), (h42, .inl (cI, 40, .inl (fun _ => 0))), (h43, .inl (cI, 40, .inl (fun _ => 0))), (h2, .inr (3, [.ref h1, .ref h16, .ref h17, .int 0])), (h29, .inl (cI, 12, .inl (upd (upd (upd (upd (upd (upd (upd (upd (upd (upd (upd (upd (fun _ => 0) 0 (-1)) 1 (-1)) 2 (-1)) 3 (-1)) 4 (-1)) 5 (-1)) 6 (-1)) 7 (-1)) 8 (-1)) 9 (-1)) 10 (-1)) 11 (-1)))), (h12, .inr (9, [.ref h1, .ref h2, .ref h29, .ref h30, .ref h31, .int 0])), (h1, .inr (2, [.ref h15, .int 0, .int 0])), (h28, .inr (6, [.ref h44, .int 0, .int 0])), (h44, .inl (cI, 40, .inl (fun _ => 0)))] H := hP
                  have hD : va_D A [(h0, .inr (11, [.ref h1, .ref h2, .ref h3, .ref h4, .ref h5, .ref h6, .ref h7, .int 0, .int 0, .ref h8, .ref h9, .ref h10, .ref h11, .ref h12, .ref h13, .ref h14])), (h3, .inr (4, [.ref h1, .ref h2])), (h4, .inr (10, [.ref h1, .ref h2, .ref h18, .int 0, .int 0, .int 0, .int 0, .int (-1)])), (h5, .inr (2, [.ref h19, .int 0, .int 0])), (h6, .inr (3, [.ref h5, .ref h20, .ref h21, .int 0])), (h7, .inr (2, [.ref h22, .int 0, .int 0])), (h8, .inr (0, [.int 1])), (h9, .inr (8, [.ref h23, .int 0])), (h10, .inr (5, [.ref h9, .ref h1, .ref h24, .int 0, .int 0, .int 0, .int 0, .int 0])), (h11, .inl (cS, 4, .inr (.inr (.inr (.inr (fun k => [h25, h26, h27, h28][k]?)))))), (h13, .inr (9, [.ref h1, .ref h2, .ref h32, .ref h33, .ref h34, .int 0])), (h14, .inr (7, [.ref h35, .ref h36])), (h15, .inl (cI, 12, .inl (fun _ => 0))), (h16, .inr (1, [.ref h37, .int 1])), (h17, .inr (1, [.ref h38, .int 1])), (h18, .inl (cI, 5, .inl (fun _ => 0))), (h19, .inl (cI, 12, .inl (fun _ => 0))), (h20, .inr (1, [.ref h39, .int 1])), (h21, .inr (1, [.ref h40, .int 1])), (h22, .inl (cI, 12, .inl (fun _ => 0))), (h23, .inl (cI, 120, .inl (fun _ => 0))), (h24, .inl (cI, 12, .inl (fun _ => 0))), (h25, .inr (6, [.ref h41, .int (-1), .int 0])), (h26, .inr (6, [.ref h42, .int (-1), .int 0])), (h27, .inr (6, [.ref h43, .int (-1), .int 0])), (h30, .inl (cI, 12, .inl (fun _ => 0))), (h31, .inl (cI, 12, .inl (fun _ => 0))), (h32, .inl (cI, 12, .inl (fun _ => 0))), (h33, .inl (cI, 12, .inl (fun _ => 0))), (h34, .inl (cI, 12, .inl (fun _ => 0))), (h35, .inl (cI, 4, .inl (fun _ => -1))), (h36, .inl (cI, 4, .inl (fun _ => 0))), (h37, .inl (cI, 4096, .inl (fun _ => 0))), (h38, .inl (cI, 0, .inl (fun _ => 0))), (h39, .inl (cI, 4096, .inl (fun _ => 0))), (h40, .inl (cI, 0, .inl (fun _ => 0))), (h41, .inl (cI, 40, .inl (fun _ => 0))), (h42, .inl (cI, 40, .inl (fun _ => 0))), (h43, .inl (cI, 40, .inl (fun _ => 0))), (h2, .inr (3, [.ref h1, .ref h16, .ref h17, .int 0])), (h29, .inl (cI, 12, .inl (upd (upd (upd (upd (upd (upd (upd (upd (upd (upd (upd (upd (fun _ => 0) 0 (-1)) 1 (-1)) 2 (-1)) 3 (-1)) 4 (-1)) 5 (-1)) 6 (-1)) 7 (-1)) 8 (-1)) 9 (-1)) 10 (-1)) 11 (-1)))), (h12, .inr (9, [.ref h1, .ref h2, .ref h29, .ref h30, .ref h31, .int 0])), (h1, .inr (2, [.ref h15, .int 0, .int 0])), (h28, .inr (6, [.ref h44, .int 0, .int 0])), (h44, .inl (cI, 40, .inl (fun _ => 0)))] := hD
                  refine lv_aload_n hx hb dX11_paint_38 rfl (lv_at hl 0 rfl) ?_
                  refine va_get (D := D) (ci := 11) (v := .ref h1) (C := RX11) (T := TX11) (N := 16) hx hb hts hin11 hown hK hP 0 rfl rfl 0 (by decide) (hts (.fieldLink RX11 12 "MissedPoints" "net" "LMissedPoints$Net;") (by decide +kernel)) (fun _ h9 => h9) rfl dX11_paint_39 ?_
                  refine va_getN (D := D) (ci := 2) (v := .int 0) (C := RX2) (T := TX2) (N := 3) hx hb hts hin2 hown hK hP 42 rfl rfl 1 (by decide) (va_Nw.use rfl hN.2.2.2.2.2.2.2.2.2.1) (fun _ h9 => h9) rfl dX11_paint_42 ?_
                  have hP9 := hP.sub (ws' := []) [] rfl
                  have hD9 := hD.sub (ws' := []) [] (by decide) rfl
                  subst hAe
                  exact W.iret (v := 0) hx hb hr (fun t ht hW => ⟨⟨_, (), rfl, by rw [if_neg k1650, if_neg k1652, if_pos rfl], by rw [ht]; exact hP9, hD9⟩, hS.F ht⟩) hS.2.2 dX11_paint_45
          · exact absurd c1659 (by decide)
        · rw [if_neg k1658] at hw
          by_cases k1727 : x1 = 1
          · rw [if_pos k1727] at hw
            subst k1727
            subst hw
            refine lv_if_ne (tgt := 17) hx hb dX11_paint_11 (by decide) (fun c1728 => ?_) (fun c1728 => ?_)
            · refine lv_aload_n hx hb dX11_paint_17 rfl (lv_at hl 0 rfl) ?_
              refine va_get (D := D) (ci := 11) (v := .ref h12) (C := RX11) (T := TX11) (N := 16) hx hb hts hin11 hown hK hP 0 rfl rfl 13 (by decide) (hts (.fieldLink RX11 82 "MissedPoints" "told" "LMissedPoints$Told;") (by decide +kernel)) (fun _ h9 => h9) rfl dX11_paint_18 ?_
              have hPc := hP.sub (ws' := [(h12, .inr (9, [.ref h1, .ref h2, .ref h29, .ref h30, .ref h31, .int 0])), (h1, .inr (2, [.ref h15, .int 0, .int 0])), (h2, .inr (3, [.ref h1, .ref h16, .ref h17, .int 0])), (h29, .inl (cI, 12, .inl (fun _ => 0)))]) [12, 1, 2, 29] rfl
              have hDc := hD.sub (ws' := [(h12, .inr (9, [.ref h1, .ref h2, .ref h29, .ref h30, .ref h31, .int 0])), (h1, .inr (2, [.ref h15, .int 0, .int 0])), (h2, .inr (3, [.ref h1, .ref h16, .ref h17, .int 0])), (h29, .inl (cI, 12, .inl (fun _ => 0)))]) [12, 1, 2, 29] (by decide) rfl
              refine lz_qv (wr := [(h0, .inr (11, [.ref h1, .ref h2, .ref h3, .ref h4, .ref h5, .ref h6, .ref h7, .int 0, .int 0, .ref h8, .ref h9, .ref h10, .ref h11, .ref h12, .ref h13, .ref h14])), (h3, .inr (4, [.ref h1, .ref h2])), (h4, .inr (10, [.ref h1, .ref h2, .ref h18, .int 0, .int 0, .int 0, .int 0, .int (-1)])), (h5, .inr (2, [.ref h19, .int 0, .int 0])), (h6, .inr (3, [.ref h5, .ref h20, .ref h21, .int 0])), (h7, .inr (2, [.ref h22, .int 0, .int 0])), (h8, .inr (0, [.int 1])), (h9, .inr (8, [.ref h23, .int 0])), (h10, .inr (5, [.ref h9, .ref h1, .ref h24, .int 0, .int 0, .int 0, .int 0, .int 0])), (h11, .inl (cS, 4, .inr (.inr (.inr (.inr (fun k => [h25, h26, h27, h28][k]?)))))), (h13, .inr (9, [.ref h1, .ref h2, .ref h32, .ref h33, .ref h34, .int 0])), (h14, .inr (7, [.ref h35, .ref h36])), (h15, .inl (cI, 12, .inl (fun _ => 0))), (h16, .inr (1, [.ref h37, .int 1])), (h17, .inr (1, [.ref h38, .int 1])), (h18, .inl (cI, 5, .inl (fun _ => 0))), (h19, .inl (cI, 12, .inl (fun _ => 0))), (h20, .inr (1, [.ref h39, .int 1])), (h21, .inr (1, [.ref h40, .int 1])), (h22, .inl (cI, 12, .inl (fun _ => 0))), (h23, .inl (cI, 120, .inl (fun _ => 0))), (h24, .inl (cI, 12, .inl (fun _ => 0))), (h25, .inr (6, [.ref h41, .int (-1), .int 0])), (h26, .inr (6, [.ref h42, .int (-1), .int 0])), (h27, .inr (6, [.ref h43, .int (-1), .int 0])), (h28, .inr (6, [.ref h44, .int (-1), .int 0])), (h30, .inl (cI, 12, .inl (fun _ => 0))), (h31, .inl (cI, 12, .inl (fun _ => 0))), (h32, .inl (cI, 12, .inl (fun _ => 0))), (h33, .inl (cI, 12, .inl (fun _ => 0))), (h34, .inl (cI, 12, .inl (fun _ => 0))), (h35, .inl (cI, 4, .inl (fun _ => -1))), (h36, .inl (cI, 4, .inl (fun _ => 0))), (h37, .inl (cI, 4096, .inl (fun _ => 0))), (h38, .inl (cI, 0, .inl (fun _ => 0))), (h39, .inl (cI, 4096, .inl (fun _ => 0))), (h40, .inl (cI, 0, .inl (fun _ => 0))), (h41, .inl (cI, 40, .inl (fun _ => 0))), (h42, .inl (cI, 40, .inl (fun _ => 0))), (h43, .inl (cI, 40, .inl (fun _ => 0))), (h44, .inl (cI, 40, .inl (fun _ => 0)))]) (w1 := [(h12, .inr (9, [.ref h1, .ref h2, .ref h29, .ref h30, .ref h31, .int 0])), (h2, .inr (3, [.ref h1, .ref h16, .ref h17, .int 0])), (h29, .inl (cI, 12, .inl (upd (upd (upd (upd (upd (upd (upd (upd (upd (upd (upd (upd (fun _ => 0) 0 (-1)) 1 (-1)) 2 (-1)) 3 (-1)) 4 (-1)) 5 (-1)) 6 (-1)) 7 (-1)) 8 (-1)) 9 (-1)) 10 (-1)) 11 (-1)))), (h1, .inr (2, [.ref h15, .int 0, .int 0]))]) (As := []) (rest := []) ⟨hx, hb, hml, hown, hts⟩ (c_X9_becomeFirst_0 l D cI cS H.size h12 h1 h2 h29 h30 h31 h15 h16 h17) hKK hP hD hS hA [12, 1, 2, 29] [0, 3, 4, 5, 6, 7, 8, 9, 10, 11, 13, 14, 15, 16, 17, 18, 19, 20, 21, 22, 23, 24, 25, 26, 27, 28, 30, 31, 32, 33, 34, 35, 36, 37, 38, 39, 40, 41, 42, 43, 44] (by decide) rfl rfl (by decide) (by decide) hPc hDc (ci := 9) rfl rfl (cwV 0 hts gX11_paint_X9_becomeFirst rfl rfl rfl (by decide +kernel) ⟨Nat.le_of_ble_eq_true rfl, Nat.le_of_ble_eq_true rfl⟩) rfl hl.1 rfl (Nat.le_of_ble_eq_true rfl) dX11_paint_21 ⟨Nat.le_of_ble_eq_true rfl, Nat.le_of_ble_eq_true rfl⟩ (fun H locs hP hD hS => ?_)
              have hP : va_P D cls [(h0, .inr (11, [.ref h1, .ref h2, .ref h3, .ref h4, .ref h5, .ref h6, .ref h7, .int 0, .int 0, .ref h8, .ref h9, .ref h10, .ref h11, .ref h12, .ref h13, .ref h14])), (h3, .inr (4, [.ref h1, .ref h2])), (h4, .inr (10, [.ref h1, .ref h2, .ref h18, .int 0, .int 0, .int 0, .int 0, .int (-1)])), (h5, .inr (2, [.ref h19, .int 0, .int 0])), (h6, .inr (3, [.ref h5, .ref h20, .ref h21, .int 0])), (h7, .inr (2, [.ref h22, .int 0, .int 0])), (h8, .inr (0, [.int 1])), (h9, .inr (8, [.ref h23, .int 0])), (h10, .inr (5, [.ref h9, .ref h1, .ref h24, .int 0, .int 0, .int 0, .int 0, .int 0])), (h11, .inl (cS, 4, .inr (.inr (.inr (.inr (fun k => [h25, h26, h27, h28][k]?)))))), (h13, .inr (9, [.ref h1, .ref h2, .ref h32, .ref h33, .ref h34, .int 0])), (h14, .inr (7, [.ref h35, .ref h36])), (h15, .inl (cI, 12, .inl (fun _ => 0))), (h16, .inr (1, [.ref h37, .int 1])), (h17, .inr (1, [.ref h38, .int 1])), (h18, .inl (cI, 5, .inl (fun _ => 0))), (h19, .inl (cI, 12, .inl (fun _ => 0))), (h20, .inr (1, [.ref h39, .int 1])), (h21, .inr (1, [.ref h40, .int 1])), (h22, .inl (cI, 12, .inl (fun _ => 0))), (h23, .inl (cI, 120, .inl (fun _ => 0))), (h24, .inl (cI, 12, .inl (fun _ => 0))), (h25, .inr (6, [.ref h41, .int (-1), .int 0])), (h26, .inr (6, [.ref h42, .int (-1), .int 0])), (h27, .inr (6, [.ref h43, .int (-1), .int 0])), (h28, .inr (6, [.ref h44, .int (-1), .int 0])), (h30, .inl (cI, 12, .inl (fun _ => 0))), (h31, .inl (cI, 12, .inl (fun _ => 0))), (h32, .inl (cI, 12, .inl (fun _ => 0))), (h33, .inl (cI, 12, .inl (fun _ => 0))), (h34, .inl (cI, 12, .inl (fun _ => 0))), (h35, .inl (cI, 4, .inl (fun _ => -1))), (h36, .inl (cI, 4, .inl (fun _ => 0))), (h37, .inl (cI, 4096, .inl (fun _ => 0))), (h38, .inl (cI, 0, .inl (fun _ => 0))), (h39, .inl (cI, 4096, .inl (fun _ => 0))), (h40, .inl (cI, 0, .inl (fun _ => 0))), (h41, .inl (cI, 40, .inl (fun _ => 0))), (h42, .inl (cI, 40, .inl (fun _ => 0))), (h43, .inl (cI, 40, .inl (fun _ => 0))), (h44, .inl (cI, 40, .inl (fun _ => 0))), (h12, .inr (9, [.ref h1, .ref h2, .ref h29, .ref h30, .ref h31, .int 0])), (h2, .inr (3, [.ref h1, .ref h16, .ref h17, .int 0])), (h29, .inl (cI, 12, .inl (upd (upd (upd (upd (upd (upd (upd (upd (upd (upd (upd (upd (fun _ => 0) 0 (-1)) 1 (-1)) 2 (-1)) 3 (-1)) 4 (-1)) 5 (-1)) 6 (-1)) 7 (-1)) 8 (-1)) 9 (-1)) 10 (-1)) 11 (-1)))), (h1, .inr (2, [.ref h15, .int 0, .int 0]))] H := hP
              have hD : va_D A [(h0, .inr (11, [.ref h1, .ref h2, .ref h3, .ref h4, .ref h5, .ref h6, .ref h7, .int 0, .int 0, .ref h8, .ref h9, .ref h10, .ref h11, .ref h12, .ref h13, .ref h14])), (h3, .inr (4, [.ref h1, .ref h2])), (h4, .inr (10, [.ref h1, .ref h2, .ref h18, .int 0, .int 0, .int 0, .int 0, .int (-1)])), (h5, .inr (2, [.ref h19, .int 0, .int 0])), (h6, .inr (3, [.ref h5, .ref h20, .ref h21, .int 0])), (h7, .inr (2, [.ref h22, .int 0, .int 0])), (h8, .inr (0, [.int 1])), (h9, .inr (8, [.ref h23, .int 0])), (h10, .inr (5, [.ref h9, .ref h1, .ref h24, .int 0, .int 0, .int 0, .int 0, .int 0])), (h11, .inl (cS, 4, .inr (.inr (.inr (.inr (fun k => [h25, h26, h27, h28][k]?)))))), (h13, .inr (9, [.ref h1, .ref h2, .ref h32, .ref h33, .ref h34, .int 0])), (h14, .inr (7, [.ref h35, .ref h36])), (h15, .inl (cI, 12, .inl (fun _ => 0))), (h16, .inr (1, [.ref h37, .int 1])), (h17, .inr (1, [.ref h38, .int 1])), (h18, .inl (cI, 5, .inl (fun _ => 0))), (h19, .inl (cI, 12, .inl (fun _ => 0))), (h20, .inr (1, [.ref h39, .int 1])), (h21, .inr (1, [.ref h40, .int 1])), (h22, .inl (cI, 12, .inl (fun _ => 0))), (h23, .inl (cI, 120, .inl (fun _ => 0))), (h24, .inl (cI, 12, .inl (fun _ => 0))), (h25, .inr (6, [.ref h41, .int (-1), .int 0])), (h26, .inr (6, [.ref h42, .int (-1), .int 0])), (h27, .inr (6, [.ref h43, .int (-1), .int 0])), (h28, .inr (6, [.ref h44, .int (-1), .int 0])), (h30, .inl (cI, 12, .inl (fun _ => 0))), (h31, .inl (cI, 12, .inl (fun _ => 0))), (h32, .inl (cI, 12, .inl (fun _ => 0))), (h33, .inl (cI, 12, .inl (fun _ => 0))), (h34, .inl (cI, 12, .inl (fun _ => 0))), (h35, .inl (cI, 4, .inl (fun _ => -1))), (h36, .inl (cI, 4, .inl (fun _ => 0))), (h37, .inl (cI, 4096, .inl (fun _ => 0))), (h38, .inl (cI, 0, .inl (fun _ => 0))), (h39, .inl (cI, 4096, .inl (fun _ => 0))), (h40, .inl (cI, 0, .inl (fun _ => 0))), (h41, .inl (cI, 40, .inl (fun _ => 0))), (h42, .inl (cI, 40, .inl (fun _ => 0))), (h43, .inl (cI, 40, .inl (fun _ => 0))), (h44, .inl (cI, 40, .inl (fun _ => 0))), (h12, .inr (9, [.ref h1, .ref h2, .ref h29, .ref h30, .ref h31, .int 0])), (h2, .inr (3, [.ref h1, .ref h16, .ref h17, .int 0])), (h29, .inl (cI, 12, .inl (upd (upd (upd (upd (upd (upd (upd (upd (upd (upd (upd (upd (fun _ => 0) 0 (-1)) 1 (-1)) 2 (-1)) 3 (-1)) 4 (-1)) 5 (-1)) 6 (-1)) 7 (-1)) 8 (-1)) 9 (-1)) 10 (-1)) 11 (-1)))), (h1, .inr (2, [.ref h15, .int 0, .int 0]))] := hD
              refine lv_aload_n hx hb dX11_paint_24 rfl (lv_at hl 0 rfl) ?_
              refine va_get (D := D) (ci := 11) (v := .ref h12) (C := RX11) (T := TX11) (N := 16) hx hb hts hin11 hown hK hP 0 rfl rfl 13 (by decide) (hts (.fieldLink RX11 82 "MissedPoints" "told" "LMissedPoints$Told;") (by decide +kernel)) (fun _ h9 => h9) rfl dX11_paint_25 ?_
              refine lv_aload_n hx hb dX11_paint_28 rfl (lv_at hl 0 rfl) ?_
              refine va_get (D := D) (ci := 11) (v := .ref h11) (C := RX11) (T := TX11) (N := 16) hx hb hts hin11 hown hK hP 0 rfl rfl 12 (by decide) (hts (.fieldLink RX11 75 "MissedPoints" "sheets" "[LMissedPoints$Sheet;") (by decide +kernel)) (fun _ h9 => h9) rfl dX11_paint_29 ?_
              refine lv_iload_n hx hb dX11_paint_32 rfl (lv_at hl 1 rfl) ?_
              by_cases k1730 : x0 = 0
              · subst k1730
                refine va_aldq hx hb hK hP 9 1 rfl rfl (lz_vp (x := 0) (n := 4) (by decide) (by decide)) dX11_paint_33 ?_
                refine lz_va (y := .ref h25) rfl ?_
                refine lv_iload_n hx hb dX11_paint_34 rfl (lv_at hl 2 rfl) ?_
                have hPc := hP.sub (ws' := [(h12, .inr (9, [.ref h1, .ref h2, .ref h29, .ref h30, .ref h31, .int 0])), (h25, .inr (6, [.ref h41, .int (-1), .int 0])), (h1, .inr (2, [.ref h15, .int 0, .int 0])), (h41, .inl (cI, 40, .inl (fun _ => 0)))]) [41, 22, 44, 37] rfl
                have hDc := hD.sub (ws' := [(h12, .inr (9, [.ref h1, .ref h2, .ref h29, .ref h30, .ref h31, .int 0])), (h25, .inr (6, [.ref h41, .int (-1), .int 0])), (h1, .inr (2, [.ref h15, .int 0, .int 0])), (h41, .inl (cI, 40, .inl (fun _ => 0)))]) [41, 22, 44, 37] (by decide) rfl
                refine lz_qv (wr := [(h0, .inr (11, [.ref h1, .ref h2, .ref h3, .ref h4, .ref h5, .ref h6, .ref h7, .int 0, .int 0, .ref h8, .ref h9, .ref h10, .ref h11, .ref h12, .ref h13, .ref h14])), (h3, .inr (4, [.ref h1, .ref h2])), (h4, .inr (10, [.ref h1, .ref h2, .ref h18, .int 0, .int 0, .int 0, .int 0, .int (-1)])), (h5, .inr (2, [.ref h19, .int 0, .int 0])), (h6, .inr (3, [.ref h5, .ref h20, .ref h21, .int 0])), (h7, .inr (2, [.ref h22, .int 0, .int 0])), (h8, .inr (0, [.int 1])), (h9, .inr (8, [.ref h23, .int 0])), (h10, .inr (5, [.ref h9, .ref h1, .ref h24, .int 0, .int 0, .int 0, .int 0, .int 0])), (h11, .inl (cS, 4, .inr (.inr (.inr (.inr (fun k => [h25, h26, h27, h28][k]?)))))), (h13, .inr (9, [.ref h1, .ref h2, .ref h32, .ref h33, .ref h34, .int 0])), (h14, .inr (7, [.ref h35, .ref h36])), (h15, .inl (cI, 12, .inl (fun _ => 0))), (h16, .inr (1, [.ref h37, .int 1])), (h17, .inr (1, [.ref h38, .int 1])), (h18, .inl (cI, 5, .inl (fun _ => 0))), (h19, .inl (cI, 12, .inl (fun _ => 0))), (h20, .inr (1, [.ref h39, .int 1])), (h21, .inr (1, [.ref h40, .int 1])), (h22, .inl (cI, 12, .inl (fun _ => 0))), (h23, .inl (cI, 120, .inl (fun _ => 0))), (h24, .inl (cI, 12, .inl (fun _ => 0))), (h26, .inr (6, [.ref h42, .int (-1), .int 0])), (h27, .inr (6, [.ref h43, .int (-1), .int 0])), (h28, .inr (6, [.ref h44, .int (-1), .int 0])), (h30, .inl (cI, 12, .inl (fun _ => 0))), (h31, .inl (cI, 12, .inl (fun _ => 0))), (h32, .inl (cI, 12, .inl (fun _ => 0))), (h33, .inl (cI, 12, .inl (fun _ => 0))), (h34, .inl (cI, 12, .inl (fun _ => 0))), (h35, .inl (cI, 4, .inl (fun _ => -1))), (h36, .inl (cI, 4, .inl (fun _ => 0))), (h37, .inl (cI, 4096, .inl (fun _ => 0))), (h38, .inl (cI, 0, .inl (fun _ => 0))), (h39, .inl (cI, 4096, .inl (fun _ => 0))), (h40, .inl (cI, 0, .inl (fun _ => 0))), (h42, .inl (cI, 40, .inl (fun _ => 0))), (h43, .inl (cI, 40, .inl (fun _ => 0))), (h44, .inl (cI, 40, .inl (fun _ => 0))), (h2, .inr (3, [.ref h1, .ref h16, .ref h17, .int 0])), (h29, .inl (cI, 12, .inl (upd (upd (upd (upd (upd (upd (upd (upd (upd (upd (upd (upd (fun _ => 0) 0 (-1)) 1 (-1)) 2 (-1)) 3 (-1)) 4 (-1)) 5 (-1)) 6 (-1)) 7 (-1)) 8 (-1)) 9 (-1)) 10 (-1)) 11 (-1))))]) (w1 := [(h12, .inr (9, [.ref h1, .ref h2, .ref h29, .ref h30, .ref h31, .int 0])), (h1, .inr (2, [.ref h15, .int 0, .int 0])), (h25, .inr (6, [.ref h41, .int 1, .int 0])), (h41, .inl (cI, 40, .inl (fun _ => 0)))]) (As := [.ref h25, .int 1]) (rest := []) ⟨hx, hb, hml, hown, hts⟩ (c_X9_writeTo_1 l D cI cS H.size h12 h25 h1 h2 h29 h30 h31 h41 h15) hKK hP hD hS hA [41, 22, 44, 37] [0, 1, 2, 3, 4, 5, 6, 7, 8, 9, 10, 11, 12, 13, 14, 15, 16, 17, 18, 19, 20, 21, 23, 24, 25, 26, 27, 28, 29, 30, 31, 32, 33, 34, 35, 36, 38, 39, 40, 42, 43] (by decide) rfl rfl (by decide) (by decide) hPc hDc (ci := 9) rfl rfl (cwV 2 hts gX11_paint_X9_writeTo rfl rfl rfl (by decide +kernel) ⟨Nat.le_of_ble_eq_true rfl, Nat.le_of_ble_eq_true rfl⟩) rfl hl.1 rfl (Nat.le_of_ble_eq_true rfl) dX11_paint_35 ⟨Nat.le_of_ble_eq_true rfl, Nat.le_of_ble_eq_true rfl⟩ (fun H locs hP hD hS => ?_)
                have hP : va_P D cls [(h0, .inr (11, [.ref h1, .ref h2, .ref h3, .ref h4, .ref h5, .ref h6, .ref h7, .int 0, .int 0, .ref h8, .ref h9, .ref h10, .ref h11, .ref h12, .ref h13, .ref h14])), (h3, .inr (4, [.ref h1, .ref h2])), (h4, .inr (10, [.ref h1, .ref h2, .ref h18, .int 0, .int 0, .int 0, .int 0, .int (-1)])), (h5, .inr (2, [.ref h19, .int 0, .int 0])), (h6, .inr (3, [.ref h5, .ref h20, .ref h21, .int 0])), (h7, .inr (2, [.ref h22, .int 0, .int 0])), (h8, .inr (0, [.int 1])), (h9, .inr (8, [.ref h23, .int 0])), (h10, .inr (5, [.ref h9, .ref h1, .ref h24, .int 0, .int 0, .int 0, .int 0, .int 0])), (h11, .inl (cS, 4, .inr (.inr (.inr (.inr (fun k => [h25, h26, h27, h28][k]?)))))), (h13, .inr (9, [.ref h1, .ref h2, .ref h32, .ref h33, .ref h34, .int 0])), (h14, .inr (7, [.ref h35, .ref h36])), (h15, .inl (cI, 12, .inl (fun _ => 0))), (h16, .inr (1, [.ref h37, .int 1])), (h17, .inr (1, [.ref h38, .int 1])), (h18, .inl (cI, 5, .inl (fun _ => 0))), (h19, .inl (cI, 12, .inl (fun _ => 0))), (h20, .inr (1, [.ref h39, .int 1])), (h21, .inr (1, [.ref h40, .int 1])), (h22, .inl (cI, 12, .inl (fun _ => 0))), (h23, .inl (cI, 120, .inl (fun _ => 0))), (h24, .inl (cI, 12, .inl (fun _ => 0))), (h26, .inr (6, [.ref h42, .int (-1), .int 0])), (h27, .inr (6, [.ref h43, .int (-1), .int 0])), (h28, .inr (6, [.ref h44, .int (-1), .int 0])), (h30, .inl (cI, 12, .inl (fun _ => 0))), (h31, .inl (cI, 12, .inl (fun _ => 0))), (h32, .inl (cI, 12, .inl (fun _ => 0))), (h33, .inl (cI, 12, .inl (fun _ => 0))), (h34, .inl (cI, 12, .inl (fun _ => 0))), (h35, .inl (cI, 4, .inl (fun _ => -1))), (h36, .inl (cI, 4, .inl (fun _ => 0))), (h37, .inl (cI, 4096, .inl (fun _ => 0))), (h38, .inl (cI, 0, .inl (fun _ => 0))), (h39, .inl (cI, 4096, .inl (fun _ => 0))), (h40, .inl (cI, 0, .inl (fun _ => 0))), (h42, .inl (cI, 40, .inl (fun _ => 0))), (h43, .inl (cI, 40, .inl (fun _ => 0))), (h44, .inl (cI, 40, .inl (fun _ => 0))), (h2, .inr (3, [.ref h1, .ref h16, .ref h17, .int 0])), (h29, .inl (cI, 12, .inl (upd (upd (upd (upd (upd (upd (upd (upd (upd (upd (upd (upd (fun _ => 0) 0 (-1)) 1 (-1)) 2 (-1)) 3 (-1)) 4 (-1)) 5 (-1)) 6 (-1)) 7 (-1)) 8 (-1)) 9 (-1)) 10 (-1)) 11 (-1)))), (h12, .inr (9, [.ref h1, .ref h2, .ref h29, .ref h30, .ref h31, .int 0])), (h1, .inr (2, [.ref h15, .int 0, .int 0])), (h25, .inr (6, [.ref h41, .int 1, .int 0])), (h41, .inl (cI, 40, .inl (fun _ => 0)))] H := hP
                have hD : va_D A [(h0, .inr (11, [.ref h1, .ref h2, .ref h3, .ref h4, .ref h5, .ref h6, .ref h7, .int 0, .int 0, .ref h8, .ref h9, .ref h10, .ref h11, .ref h12, .ref h13, .ref h14])), (h3, .inr (4, [.ref h1, .ref h2])), (h4, .inr (10, [.ref h1, .ref h2, .ref h18, .int 0, .int 0, .int 0, .int 0, .int (-1)])), (h5, .inr (2, [.ref h19, .int 0, .int 0])), (h6, .inr (3, [.ref h5, .ref h20, .ref h21, .int 0])), (h7, .inr (2, [.ref h22, .int 0, .int 0])), (h8, .inr (0, [.int 1])), (h9, .inr (8, [.ref h23, .int 0])), (h10, .inr (5, [.ref h9, .ref h1, .ref h24, .int 0, .int 0, .int 0, .int 0, .int 0])), (h11, .inl (cS, 4, .inr (.inr (.inr (.inr (fun k => [h25, h26, h27, h28][k]?)))))), (h13, .inr (9, [.ref h1, .ref h2, .ref h32, .ref h33, .ref h34, .int 0])), (h14, .inr (7, [.ref h35, .ref h36])), (h15, .inl (cI, 12, .inl (fun _ => 0))), (h16, .inr (1, [.ref h37, .int 1])), (h17, .inr (1, [.ref h38, .int 1])), (h18, .inl (cI, 5, .inl (fun _ => 0))), (h19, .inl (cI, 12, .inl (fun _ => 0))), (h20, .inr (1, [.ref h39, .int 1])), (h21, .inr (1, [.ref h40, .int 1])), (h22, .inl (cI, 12, .inl (fun _ => 0))), (h23, .inl (cI, 120, .inl (fun _ => 0))), (h24, .inl (cI, 12, .inl (fun _ => 0))), (h26, .inr (6, [.ref h42, .int (-1), .int 0])), (h27, .inr (6, [.ref h43, .int (-1), .int 0])), (h28, .inr (6, [.ref h44, .int (-1), .int 0])), (h30, .inl (cI, 12, .inl (fun _ => 0))), (h31, .inl (cI, 12, .inl (fun _ => 0))), (h32, .inl (cI, 12, .inl (fun _ => 0))), (h33, .inl (cI, 12, .inl (fun _ => 0))), (h34, .inl (cI, 12, .inl (fun _ => 0))), (h35, .inl (cI, 4, .inl (fun _ => -1))), (h36, .inl (cI, 4, .inl (fun _ => 0))), (h37, .inl (cI, 4096, .inl (fun _ => 0))), (h38, .inl (cI, 0, .inl (fun _ => 0))), (h39, .inl (cI, 4096, .inl (fun _ => 0))), (h40, .inl (cI, 0, .inl (fun _ => 0))), (h42, .inl (cI, 40, .inl (fun _ => 0))), (h43, .inl (cI, 40, .inl (fun _ => 0))), (h44, .inl (cI, 40, .inl (fun _ => 0))), (h2, .inr (3, [.ref h1, .ref h16, .ref h17, .int 0])), (h29, .inl (cI, 12, .inl (upd (upd (upd (upd (upd (upd (upd (upd (upd (upd (upd (upd (fun _ => 0) 0 (-1)) 1 (-1)) 2 (-1)) 3 (-1)) 4 (-1)) 5 (-1)) 6 (-1)) 7 (-1)) 8 (-1)) 9 (-1)) 10 (-1)) 11 (-1)))), (h12, .inr (9, [.ref h1, .ref h2, .ref h29, .ref h30, .ref h31, .int 0])), (h1, .inr (2, [.ref h15, .int 0, .int 0])), (h25, .inr (6, [.ref h41, .int 1, .int 0])), (h41, .inl (cI, 40, .inl (fun _ => 0)))] := hD
                refine lv_aload_n hx hb dX11_paint_38 rfl (lv_at hl 0 rfl) ?_
                refine va_get (D := D) (ci := 11) (v := .ref h1) (C := RX11) (T := TX11) (N := 16) hx hb hts hin11 hown hK hP 0 rfl rfl 0 (by decide) (hts (.fieldLink RX11 12 "MissedPoints" "net" "LMissedPoints$Net;") (by decide +kernel)) (fun _ h9 => h9) rfl dX11_paint_39 ?_
                refine va_getN (D := D) (ci := 2) (v := .int 0) (C := RX2) (T := TX2) (N := 3) hx hb hts hin2 hown hK hP 42 rfl rfl 1 (by decide) (va_Nw.use rfl hN.2.2.2.2.2.2.2.2.2.1) (fun _ h9 => h9) rfl dX11_paint_42 ?_
                have hP9 := hP.sub (ws' := []) [] rfl
                have hD9 := hD.sub (ws' := []) [] (by decide) rfl
                subst hAe
                exact W.iret (v := 0) hx hb hr (fun t ht hW => ⟨⟨_, (), rfl, by rw [if_neg k1650, if_neg k1652, if_neg k1658, if_pos rfl], by rw [ht]; exact hP9, hD9⟩, hS.F ht⟩) hS.2.2 dX11_paint_45
              · by_cases k1775 : x0 = 1
                · subst k1775
                  refine va_aldq hx hb hK hP 9 1 rfl rfl (lz_vp (x := 1) (n := 4) (by decide) (by decide)) dX11_paint_33 ?_
                  refine lz_va (y := .ref h26) rfl ?_
                  refine lv_iload_n hx hb dX11_paint_34 rfl (lv_at hl 2 rfl) ?_
                  have hPc := hP.sub (ws' := [(h12, .inr (9, [.ref h1, .ref h2, .ref h29, .ref h30, .ref h31, .int 0])), (h26, .inr (6, [.ref h42, .int (-1), .int 0])), (h1, .inr (2, [.ref h15, .int 0, .int 0])), (h42, .inl (cI, 40, .inl (fun _ => 0)))]) [41, 23, 44, 38] rfl
                  have hDc := hD.sub (ws' := [(h12, .inr (9, [.ref h1, .ref h2, .ref h29, .ref h30, .ref h31, .int 0])), (h26, .inr (6, [.ref h42, .int (-1), .int 0])), (h1, .inr (2, [.ref h15, .int 0, .int 0])), (h42, .inl (cI, 40, .inl (fun _ => 0)))]) [41, 23, 44, 38] (by decide) rfl
                  refine lz_qv (wr := [(h0, .inr (11, [.ref h1, .ref h2, .ref h3, .ref h4, .ref h5, .ref h6, .ref h7, .int 0, .int 0, .ref h8, .ref h9, .ref h10, .ref h11, .ref h12, .ref h13, .ref h14])), (h3, .inr (4, [.ref h1, .ref h2])), (h4, .inr (10, [.ref h1, .ref h2, .ref h18, .int 0, .int 0, .int 0, .int 0, .int (-1)])), (h5, .inr (2, [.ref h19, .int 0, .int 0])), (h6, .inr (3, [.ref h5, .ref h20, .ref h21, .int 0])), (h7, .inr (2, [.ref h22, .int 0, .int 0])), (h8, .inr (0, [.int 1])), (h9, .inr (8, [.ref h23, .int 0])), (h10, .inr (5, [.ref h9, .ref h1, .ref h24, .int 0, .int 0, .int 0, .int 0, .int 0])), (h11, .inl (cS, 4, .inr (.inr (.inr (.inr (fun k => [h25, h26, h27, h28][k]?)))))), (h13, .inr (9, [.ref h1, .ref h2, .ref h32, .ref h33, .ref h34, .int 0])), (h14, .inr (7, [.ref h35, .ref h36])), (h15, .inl (cI, 12, .inl (fun _ => 0))), (h16, .inr (1, [.ref h37, .int 1])), (h17, .inr (1, [.ref h38, .int 1])), (h18, .inl (cI, 5, .inl (fun _ => 0))), (h19, .inl (cI, 12, .inl (fun _ => 0))), (h20, .inr (1, [.ref h39, .int 1])), (h21, .inr (1, [.ref h40, .int 1])), (h22, .inl (cI, 12, .inl (fun _ => 0))), (h23, .inl (cI, 120, .inl (fun _ => 0))), (h24, .inl (cI, 12, .inl (fun _ => 0))), (h25, .inr (6, [.ref h41, .int (-1), .int 0])), (h27, .inr (6, [.ref h43, .int (-1), .int 0])), (h28, .inr (6, [.ref h44, .int (-1), .int 0])), (h30, .inl (cI, 12, .inl (fun _ => 0))), (h31, .inl (cI, 12, .inl (fun _ => 0))), (h32, .inl (cI, 12, .inl (fun _ => 0))), (h33, .inl (cI, 12, .inl (fun _ => 0))), (h34, .inl (cI, 12, .inl (fun _ => 0))), (h35, .inl (cI, 4, .inl (fun _ => -1))), (h36, .inl (cI, 4, .inl (fun _ => 0))), (h37, .inl (cI, 4096, .inl (fun _ => 0))), (h38, .inl (cI, 0, .inl (fun _ => 0))), (h39, .inl (cI, 4096, .inl (fun _ => 0))), (h40, .inl (cI, 0, .inl (fun _ => 0))), (h41, .inl (cI, 40, .inl (fun _ => 0))), (h43, .inl (cI, 40, .inl (fun _ => 0))), (h44, .inl (cI, 40, .inl (fun _ => 0))), (h2, .inr (3, [.ref h1, .ref h16, .ref h17, .int 0])), (h29, .inl (cI, 12, .inl (upd (upd (upd (upd (upd (upd (upd (upd (upd (upd (upd (upd (fun _ => 0) 0 (-1)) 1 (-1)) 2 (-1)) 3 (-1)) 4 (-1)) 5 (-1)) 6 (-1)) 7 (-1)) 8 (-1)) 9 (-1)) 10 (-1)) 11 (-1))))]) (w1 := [(h12, .inr (9, [.ref h1, .ref h2, .ref h29, .ref h30, .ref h31, .int 0])), (h1, .inr (2, [.ref h15, .int 0, .int 0])), (h26, .inr (6, [.ref h42, .int 1, .int 0])), (h42, .inl (cI, 40, .inl (fun _ => 0)))]) (As := [.ref h26, .int 1]) (rest := []) ⟨hx, hb, hml, hown, hts⟩ (c_X9_writeTo_1 l D cI cS H.size h12 h26 h1 h2 h29 h30 h31 h42 h15) hKK hP hD hS hA [41, 23, 44, 38] [0, 1, 2, 3, 4, 5, 6, 7, 8, 9, 10, 11, 12, 13, 14, 15, 16, 17, 18, 19, 20, 21, 22, 24, 25, 26, 27, 28, 29, 30, 31, 32, 33, 34, 35, 36, 37, 39, 40, 42, 43] (by decide) rfl rfl (by decide) (by decide) hPc hDc (ci := 9) rfl rfl (cwV 2 hts gX11_paint_X9_writeTo rfl rfl rfl (by decide +kernel) ⟨Nat.le_of_ble_eq_true rfl, Nat.le_of_ble_eq_true rfl⟩) rfl hl.1 rfl (Nat.le_of_ble_eq_true rfl) dX11_paint_35 ⟨Nat.le_of_ble_eq_true rfl, Nat.le_of_ble_eq_true rfl⟩ (fun H locs hP hD hS => ?_)
                  have hP : va_P D cls [(h0, .inr (11, [.ref h1, .ref h2, .ref h3, .ref h4, .ref h5, .ref h6, .ref h7, .int 0, .int 0, .ref h8, .ref h9, .ref h10, .ref h11, .ref h12, .ref h13, .ref h14])), (h3, .inr (4, [.ref h1, .ref h2])), (h4, .inr (10, [.ref h1, .ref h2, .ref h18, .int 0, .int 0, .int 0, .int 0, .int (-1)])), (h5, .inr (2, [.ref h19, .int 0, .int 0])), (h6, .inr (3, [.ref h5, .ref h20, .ref h21, .int 0])), (h7, .inr (2, [.ref h22, .int 0, .int 0])), (h8, .inr (0, [.int 1])), (h9, .inr (8, [.ref h23, .int 0])), (h10, .inr (5, [.ref h9, .ref h1, .ref h24, .int 0, .int 0, .int 0, .int 0, .int 0])), (h11, .inl (cS, 4, .inr (.inr (.inr (.inr (fun k => [h25, h26, h27, h28][k]?)))))), (h13, .inr (9, [.ref h1, .ref h2, .ref h32, .ref h33, .ref h34, .int 0])), (h14, .inr (7, [.ref h35, .ref h36])), (h15, .inl (cI, 12, .inl (fun _ => 0))), (h16, .inr (1, [.ref h37, .int 1])), (h17, .inr (1, [.ref h38, .int 1])), (h18, .inl (cI, 5, .inl (fun _ => 0))), (h19, .inl (cI, 12, .inl (fun _ => 0))), (h20, .inr (1, [.ref h39, .int 1])), (h21, .inr (1, [.ref h40, .int 1])), (h22, .inl (cI, 12, .inl (fun _ => 0))), (h23, .inl (cI, 120, .inl (fun _ => 0))), (h24, .inl (cI, 12, .inl (fun _ => 0))), (h25, .inr (6, [.ref h41, .int (-1), .int 0])), (h27, .inr (6, [.ref h43, .int (-1), .int 0])), (h28, .inr (6, [.ref h44, .int (-1), .int 0])), (h30, .inl (cI, 12, .inl (fun _ => 0))), (h31, .inl (cI, 12, .inl (fun _ => 0))), (h32, .inl (cI, 12, .inl (fun _ => 0))), (h33, .inl (cI, 12, .inl (fun _ => 0))), (h34, .inl (cI, 12, .inl (fun _ => 0))), (h35, .inl (cI, 4, .inl (fun _ => -1))), (h36, .inl (cI, 4, .inl (fun _ => 0))), (h37, .inl (cI, 4096, .inl (fun _ => 0))), (h38, .inl (cI, 0, .inl (fun _ => 0))), (h39, .inl (cI, 4096, .inl (fun _ => 0))), (h40, .inl (cI, 0, .inl (fun _ => 0))), (h41, .inl (cI, 40, .inl (fun _ => 0))), (h43, .inl (cI, 40, .inl (fun _ => 0))), (h44, .inl (cI, 40, .inl (fun _ => 0))), (h2, .inr (3, [.ref h1, .ref h16, .ref h17, .int 0])), (h29, .inl (cI, 12, .inl (upd (upd (upd (upd (upd (upd (upd (upd (upd (upd (upd (upd (fun _ => 0) 0 (-1)) 1 (-1)) 2 (-1)) 3 (-1)) 4 (-1)) 5 (-1)) 6 (-1)) 7 (-1)) 8 (-1)) 9 (-1)) 10 (-1)) 11 (-1)))), (h12, .inr (9, [.ref h1, .ref h2, .ref h29, .ref h30, .ref h31, .int 0])), (h1, .inr (2, [.ref h15, .int 0, .int 0])), (h26, .inr (6, [.ref h42, .int 1, .int 0])), (h42, .inl (cI, 40, .inl (fun _ => 0)))] H := hP
                  have hD : va_D A [(h0, .inr (11, [.ref h1, .ref h2, .ref h3, .ref h4, .ref h5, .ref h6, .ref h7, .int 0, .int 0, .ref h8, .ref h9, .ref h10, .ref h11, .ref h12, .ref h13, .ref h14])), (h3, .inr (4, [.ref h1, .ref h2])), (h4, .inr (10, [.ref h1, .ref h2, .ref h18, .int 0, .int 0, .int 0, .int 0, .int (-1)])), (h5, .inr (2, [.ref h19, .int 0, .int 0])), (h6, .inr (3, [.ref h5, .ref h20, .ref h21, .int 0])), (h7, .inr (2, [.ref h22, .int 0, .int 0])), (h8, .inr (0, [.int 1])), (h9, .inr (8, [.ref h23, .int 0])), (h10, .inr (5, [.ref h9, .ref h1, .ref h24, .int 0, .int 0, .int 0, .int 0, .int 0])), (h11, .inl (cS, 4, .inr (.inr (.inr (.inr (fun k => [h25, h26, h27, h28][k]?)))))), (h13, .inr (9, [.ref h1, .ref h2, .ref h32, .ref h33, .ref h34, .int 0])), (h14, .inr (7, [.ref h35, .ref h36])), (h15, .inl (cI, 12, .inl (fun _ => 0))), (h16, .inr (1, [.ref h37, .int 1])), (h17, .inr (1, [.ref h38, .int 1])), (h18, .inl (cI, 5, .inl (fun _ => 0))), (h19, .inl (cI, 12, .inl (fun _ => 0))), (h20, .inr (1, [.ref h39, .int 1])), (h21, .inr (1, [.ref h40, .int 1])), (h22, .inl (cI, 12, .inl (fun _ => 0))), (h23, .inl (cI, 120, .inl (fun _ => 0))), (h24, .inl (cI, 12, .inl (fun _ => 0))), (h25, .inr (6, [.ref h41, .int (-1), .int 0])), (h27, .inr (6, [.ref h43, .int (-1), .int 0])), (h28, .inr (6, [.ref h44, .int (-1), .int 0])), (h30, .inl (cI, 12, .inl (fun _ => 0))), (h31, .inl (cI, 12, .inl (fun _ => 0))), (h32, .inl (cI, 12, .inl (fun _ => 0))), (h33, .inl (cI, 12, .inl (fun _ => 0))), (h34, .inl (cI, 12, .inl (fun _ => 0))), (h35, .inl (cI, 4, .inl (fun _ => -1))), (h36, .inl (cI, 4, .inl (fun _ => 0))), (h37, .inl (cI, 4096, .inl (fun _ => 0))), (h38, .inl (cI, 0, .inl (fun _ => 0))), (h39, .inl (cI, 4096, .inl (fun _ => 0))), (h40, .inl (cI, 0, .inl (fun _ => 0))), (h41, .inl (cI, 40, .inl (fun _ => 0))), (h43, .inl (cI, 40, .inl (fun _ => 0))), (h44, .inl (cI, 40, .inl (fun _ => 0))), (h2, .inr (3, [.ref h1, .ref h16, .ref h17, .int 0])), (h29, .inl (cI, 12, .inl (upd (upd (upd (upd (upd (upd (upd (upd (upd (upd (upd (upd (fun _ => 0) 0 (-1)) 1 (-1)) 2 (-1)) 3 (-1)) 4 (-1)) 5 (-1)) 6 (-1)) 7 (-1)) 8 (-1)) 9 (-1)) 10 (-1)) 11 (-1)))), (h12, .inr (9, [.ref h1, .ref h2, .ref h29, .ref h30, .ref h31, .int 0])), (h1, .inr (2, [.ref h15, .int 0, .int 0])), (h26, .inr (6, [.ref h42, .int 1, .int 0])), (h42, .inl (cI, 40, .inl (fun _ => 0)))] := hD
                  refine lv_aload_n hx hb dX11_paint_38 rfl (lv_at hl 0 rfl) ?_
                  refine va_get (D := D) (ci := 11) (v := .ref h1) (C := RX11) (T := TX11) (N := 16) hx hb hts hin11 hown hK hP 0 rfl rfl 0 (by decide) (hts (.fieldLink RX11 12 "MissedPoints" "net" "LMissedPoints$Net;") (by decide +kernel)) (fun _ h9 => h9) rfl dX11_paint_39 ?_
                  refine va_getN (D := D) (ci := 2) (v := .int 0) (C := RX2) (T := TX2) (N := 3) hx hb hts hin2 hown hK hP 42 rfl rfl 1 (by decide) (va_Nw.use rfl hN.2.2.2.2.2.2.2.2.2.1) (fun _ h9 => h9) rfl dX11_paint_42 ?_
                  have hP9 := hP.sub (ws' := []) [] rfl
                  have hD9 := hD.sub (ws' := []) [] (by decide) rfl
                  subst hAe
                  exact W.iret (v := 0) hx hb hr (fun t ht hW => ⟨⟨_, (), rfl, by rw [if_neg k1650, if_neg k1652, if_neg k1658, if_pos rfl], by rw [ht]; exact hP9, hD9⟩, hS.F ht⟩) hS.2.2 dX11_paint_45
                · by_cases k1777 : x0 = 2
                  · subst k1777
                    refine va_aldq hx hb hK hP 9 1 rfl rfl (lz_vp (x := 2) (n := 4) (by decide) (by decide)) dX11_paint_33 ?_
                    refine lz_va (y := .ref h27) rfl ?_
                    refine lv_iload_n hx hb dX11_paint_34 rfl (lv_at hl 2 rfl) ?_
                    have hPc := hP.sub (ws' := [(h12, .inr (9, [.ref h1, .ref h2, .ref h29, .ref h30, .ref h31, .int 0])), (h27, .inr (6, [.ref h43, .int (-1), .int 0])), (h1, .inr (2, [.ref h15, .int 0, .int 0])), (h43, .inl (cI, 40, .inl (fun _ => 0)))]) [41, 24, 44, 39] rfl
                    have hDc := hD.sub (ws' := [(h12, .inr (9, [.ref h1, .ref h2, .ref h29, .ref h30, .ref h31, .int 0])), (h27, .inr (6, [.ref h43, .int (-1), .int 0])), (h1, .inr (2, [.ref h15, .int 0, .int 0])), (h43, .inl (cI, 40, .inl (fun _ => 0)))]) [41, 24, 44, 39] (by decide) rfl
                    refine lz_qv (wr := [(h0, .inr (11, [.ref h1, .ref h2, .ref h3, .ref h4, .ref h5, .ref h6, .ref h7, .int 0, .int 0, .ref h8, .ref h9, .ref h10, .ref h11, .ref h12, .ref h13, .ref h14])), (h3, .inr (4, [.ref h1, .ref h2])), (h4, .inr (10, [.ref h1, .ref h2, .ref h18, .int 0, .int 0, .int 0, .int 0, .int (-1)])), (h5, .inr (2, [.ref h19, .int 0, .int 0])), (h6, .inr (3, [.ref h5, .ref h20, .ref h21, .int 0])), (h7, .inr (2, [.ref h22, .int 0, .int 0])), (h8, .inr (0, [.int 1])), (h9, .inr (8, [.ref h23, .int 0])), (h10, .inr (5, [.ref h9, .ref h1, .ref h24, .int 0, .int 0, .int 0, .int 0, .int 0])), (h11, .inl (cS, 4, .inr (.inr (.inr (.inr (fun k => [h25, h26, h27, h28][k]?)))))), (h13, .inr (9, [.ref h1, .ref h2, .ref h32, .ref h33, .ref h34, .int 0])), (h14, .inr (7, [.ref h35, .ref h36])), (h15, .inl (cI, 12, .inl (fun _ => 0))), (h16, .inr (1, [.ref h37, .int 1])), (h17, .inr (1, [.ref h38, .int 1])), (h18, .inl (cI, 5, .inl (fun _ => 0))), (h19, .inl (cI, 12, .inl (fun _ => 0))), (h20, .inr (1, [.ref h39, .int 1])), (h21, .inr (1, [.ref h40, .int 1])), (h22, .inl (cI, 12, .inl (fun _ => 0))), (h23, .inl (cI, 120, .inl (fun _ => 0))), (h24, .inl (cI, 12, .inl (fun _ => 0))), (h25, .inr (6, [.ref h41, .int (-1), .int 0])), (h26, .inr (6, [.ref h42, .int (-1), .int 0])), (h28, .inr (6, [.ref h44, .int (-1), .int 0])), (h30, .inl (cI, 12, .inl (fun _ => 0))), (h31, .inl (cI, 12, .inl (fun _ => 0))), (h32, .inl (cI, 12, .inl (fun _ => 0))), (h33, .inl (cI, 12, .inl (fun _ => 0))), (h34, .inl (cI, 12, .inl (fun _ => 0))), (h35, .inl (cI, 4, .inl (fun _ => -1))), (h36, .inl (cI, 4, .inl (fun _ => 0))), (h37, .inl (cI, 4096, .inl (fun _ => 0))), (h38, .inl (cI, 0, .inl (fun _ => 0))), (h39, .inl (cI, 4096, .inl (fun _ => 0))), (h40, .inl (cI, 0, .inl (fun _ => 0))), (h41, .inl (cI, 40, .inl (fun _ => 0))), (h42, .inl (cI, 40, .inl (fun _ => 0))), (h44, .inl (cI, 40, .inl (fun _ => 0))), (h2, .inr (3, [.ref h1, .ref h16, .ref h17, .int 0])), (h29, .inl (cI, 12, .inl (upd (upd (upd (upd (upd (upd (upd (upd (upd (upd (upd (upd (fun _ => 0) 0 (-1)) 1 (-1)) 2 (-1)) 3 (-1)) 4 (-1)) 5 (-1)) 6 (-1)) 7 (-1)) 8 (-1)) 9 (-1)) 10 (-1)) 11 (-1))))]) (w1 := [(h12, .inr (9, [.ref h1, .ref h2, .ref h29, .ref h30, .ref h31, .int 0])), (h1, .inr (2, [.ref h15, .int 0, .int 0])), (h27, .inr (6, [.ref h43, .int 1, .int 0])), (h43, .inl (cI, 40, .inl (fun _ => 0)))]) (As := [.ref h27, .int 1]) (rest := []) ⟨hx, hb, hml, hown, hts⟩ (c_X9_writeTo_1 l D cI cS H.size h12 h27 h1 h2 h29 h30 h31 h43 h15) hKK hP hD hS hA [41, 24, 44, 39] [0, 1, 2, 3, 4, 5, 6, 7, 8, 9, 10, 11, 12, 13, 14, 15, 16, 17, 18, 19, 20, 21, 22, 23, 25, 26, 27, 28, 29, 30, 31, 32, 33, 34, 35, 36, 37, 38, 40, 42, 43] (by decide) rfl rfl (by decide) (by decide) hPc hDc (ci := 9) rfl rfl (cwV 2 hts gX11_paint_X9_writeTo rfl rfl rfl (by decide +kernel) ⟨Nat.le_of_ble_eq_true rfl, Nat.le_of_ble_eq_true rfl⟩) rfl hl.1 rfl (Nat.le_of_ble_eq_true rfl) dX11_paint_35 ⟨Nat.le_of_ble_eq_true rfl, Nat.le_of_ble_eq_true rfl⟩ (fun H locs hP hD hS => ?_)
                    have hP : va_P D cls [(h0, .inr (11, [.ref h1, .ref h2, .ref h3, .ref h4, .ref h5, .ref h6, .ref h7, .int 0, .int 0, .ref h8, .ref h9, .ref h10, .ref h11, .ref h12, .ref h13, .ref h14])), (h3, .inr (4, [.ref h1, .ref h2])), (h4, .inr (10, [.ref h1, .ref h2, .ref h18, .int 0, .int 0, .int 0, .int 0, .int (-1)])), (h5, .inr (2, [.ref h19, .int 0, .int 0])), (h6, .inr (3, [.ref h5, .ref h20, .ref h21, .int 0])), (h7, .inr (2, [.ref h22, .int 0, .int 0])), (h8, .inr (0, [.int 1])), (h9, .inr (8, [.ref h23, .int 0])), (h10, .inr (5, [.ref h9, .ref h1, .ref h24, .int 0, .int 0, .int 0, .int 0, .int 0])), (h11, .inl (cS, 4, .inr (.inr (.inr (.inr (fun k => [h25, h26, h27, h28][k]?)))))), (h13, .inr (9, [.ref h1, .ref h2, .ref h32, .ref h33, .ref h34, .int 0])), (h14, .inr (7, [.ref h35, .ref h36])), (h15, .inl (cI, 12, .inl (fun _ => 0))), (h16, .inr (1, [.ref h37, .int 1])), (h17, .inr (1, [.ref h38, .int 1])), (h18, .inl (cI, 5, .inl (fun _ => 0))), (h19, .inl (cI, 12, .inl (fun _ => 0))), (h20, .inr (1, [.ref h39, .int 1])), (h21, .inr (1, [.ref h40, .int 1])), (h22, .inl (cI, 12, .inl (fun _ => 0))), (h23, .inl (cI, 120, .inl (fun _ => 0))), (h24, .inl (cI, 12, .inl (fun _ => 0))), (h25, .inr (6, [.ref h41, .int (-1), .int 0])), (h26, .inr (6, [.ref h42, .int (-1), .int 0])), (h28, .inr (6, [.ref h44, .int (-1), .int 0])), (h30, .inl (cI, 12, .inl (fun _ => 0))), (h31, .inl (cI, 12, .inl (fun _ => 0))), (h32, .inl (cI, 12, .inl (fun _ => 0))), (h33, .inl (cI, 12, .inl (fun _ => 0))), (h34, .inl (cI, 12, .inl (fun _ => 0))), (h35, .inl (cI, 4, .inl (fun _ => -1))), (h36, .inl (cI, 4, .inl (fun _ => 0))), (h37, .inl (cI, 4096, .inl (fun _ => 0))), (h38, .inl (cI, 0, .inl (fun _ => 0))), (h39, .inl (cI, 4096, .inl (fun _ => 0))), (h40, .inl (cI, 0, .inl (fun _ => 0))), (h41, .inl (cI, 40, .inl (fun _ => 0))), (h42, .inl (cI, 40, .inl (fun _ => 0))), (h44, .inl (cI, 40, .inl (fun _ => 0))), (h2, .inr (3, [.ref h1, .ref h16, .ref h17, .int 0])), (h29, .inl (cI, 12, .inl (upd (upd (upd (upd (upd (upd (upd (upd (upd (upd (upd (upd (fun _ => 0) 0 (-1)) 1 (-1)) 2 (-1)) 3 (-1)) 4 (-1)) 5 (-1)) 6 (-1)) 7 (-1)) 8 (-1)) 9 (-1)) 10 (-1)) 11 (-1)))), (h12, .inr (9, [.ref h1, .ref h2, .ref h29, .ref h30, .ref h31, .int 0])), (h1, .inr (2, [.ref h15, .int 0, .int 0])), (h27, .inr (6, [.ref h43, .int 1, .int 0])), (h43, .inl (cI, 40, .inl (fun _ => 0)))] H := hP
                    have hD : va_D A [(h0, .inr (11, [.ref h1, .ref h2, .ref h3, .ref h4, .ref h5, .ref h6, .ref h7, .int 0, .int 0, .ref h8, .ref h9, .ref h10, .ref h11, .ref h12, .ref h13, .ref h14])), (h3, .inr (4, [.ref h1, .ref h2])), (h4, .inr (10, [.ref h1, .ref h2, .ref h18, .int 0, .int 0, .int 0, .int 0, .int (-1)])), (h5, .inr (2, [.ref h19, .int 0, .int 0])), (h6, .inr (3, [.ref h5, .ref h20, .ref h21, .int 0])), (h7, .inr (2, [.ref h22, .int 0, .int 0])), (h8, .inr (0, [.int 1])), (h9, .inr (8, [.ref h23, .int 0])), (h10, .inr (5, [.ref h9, .ref h1, .ref h24, .int 0, .int 0, .int 0, .int 0, .int 0])), (h11, .inl (cS, 4, .inr (.inr (.inr (.inr (fun k => [h25, h26, h27, h28][k]?)))))), (h13, .inr (9, [.ref h1, .ref h2, .ref h32, .ref h33, .ref h34, .int 0])), (h14, .inr (7, [.ref h35, .ref h36])), (h15, .inl (cI, 12, .inl (fun _ => 0))), (h16, .inr (1, [.ref h37, .int 1])), (h17, .inr (1, [.ref h38, .int 1])), (h18, .inl (cI, 5, .inl (fun _ => 0))), (h19, .inl (cI, 12, .inl (fun _ => 0))), (h20, .inr (1, [.ref h39, .int 1])), (h21, .inr (1, [.ref h40, .int 1])), (h22, .inl (cI, 12, .inl (fun _ => 0))), (h23, .inl (cI, 120, .inl (fun _ => 0))), (h24, .inl (cI, 12, .inl (fun _ => 0))), (h25, .inr (6, [.ref h41, .int (-1), .int 0])), (h26, .inr (6, [.ref h42, .int (-1), .int 0])), (h28, .inr (6, [.ref h44, .int (-1), .int 0])), (h30, .inl (cI, 12, .inl (fun _ => 0))), (h31, .inl (cI, 12, .inl (fun _ => 0))), (h32, .inl (cI, 12, .inl (fun _ => 0))), (h33, .inl (cI, 12, .inl (fun _ => 0))), (h34, .inl (cI, 12, .inl (fun _ => 0))), (h35, .inl (cI, 4, .inl (fun _ => -1))), (h36, .inl (cI, 4, .inl (fun _ => 0))), (h37, .inl (cI, 4096, .inl (fun _ => 0))), (h38, .inl (cI, 0, .inl (fun _ => 0))), (h39, .inl (cI, 4096, .inl (fun _ => 0))), (h40, .inl (cI, 0, .inl (fun _ => 0))), (h41, .inl (cI, 40, .inl (fun _ => 0))), (h42, .inl (cI, 40, .inl (fun _ => 0))), (h44, .inl (cI, 40, .inl (fun _ => 0))), (h2, .inr (3, [.ref h1, .ref h16, .ref h17, .int 0])), (h29, .inl (cI, 12, .inl (upd (upd (upd (upd (upd (upd (upd (upd (upd (upd (upd (upd (fun _ => 0) 0 (-1)) 1 (-1)) 2 (-1)) 3 (-1)) 4 (-1)) 5 (-1)) 6 (-1)) 7 (-1)) 8 (-1)) 9 (-1)) 10 (-1)) 11 (-1)))), (h12, .inr (9, [.ref h1, .ref h2, .ref h29, .ref h30, .ref h31, .int 0])), (h1, .inr (2, [.ref h15, .int 0, .int 0])), (h27, .inr (6, [.ref h43, .int 1, .int 0])), (h43, .inl (cI, 40, .inl (fun _ => 0)))] := hD
                    refine lv_aload_n hx hb dX11_paint_38 rfl (lv_at hl 0 rfl) ?_
                    refine va_get (D := D) (ci := 11) (v := .ref h1) (C := RX11) (T := TX11) (N := 16) hx hb hts hin11 hown hK hP 0 rfl rfl 0 (by decide) (hts (.fieldLink RX11 12 "MissedPoints" "net" "LMissedPoints$Net;") (by decide +kernel)) (fun _ h9 => h9) rfl dX11_paint_39 ?_
                    refine va_getN (D := D) (ci := 2) (v := .int 0) (C := RX2) (T := TX2) (N := 3) hx hb hts hin2 hown hK hP 42 rfl rfl 1 (by decide) (va_Nw.use rfl hN.2.2.2.2.2.2.2.2.2.1) (fun _ h9 => h9) rfl dX11_paint_42 ?_
                    have hP9 := hP.sub (ws' := []) [] rfl
                    have hD9 := hD.sub (ws' := []) [] (by decide) rfl
                    subst hAe
                    exact W.iret (v := 0) hx hb hr (fun t ht hW => ⟨⟨_, (), rfl, by rw [if_neg k1650, if_neg k1652, if_neg k1658, if_pos rfl], by rw [ht]; exact hP9, hD9⟩, hS.F ht⟩) hS.2.2 dX11_paint_45
                  · obtain rfl : x0 = 3 := by have zf1 := mt (lz_lt x0 (0 : Int32)).mpr k1650; have zf2 := mt (lz_le (4 : Int32) x0).mpr k1652; have zf3 := mt (lz_eq (1 : Int32) (0 : Int32)).mpr k1658; have zf4 := mt (lz_eq x0 (0 : Int32)).mpr k1730; have zf5 := mt (lz_eq x0 (1 : Int32)).mpr k1775; have zf6 := mt (lz_eq x0 (2 : Int32)).mpr k1777; have zn0 : (0 : Int32).toInt = 0 := (by decide); have zn1 : (1 : Int32).toInt = 1 := (by decide); have zn2 : (2 : Int32).toInt = 2 := (by decide); have zn3 : (3 : Int32).toInt = 3 := (by decide); have zn4 : (4 : Int32).toInt = 4 := (by decide); rw [lz_eq]; omega
                    refine va_aldq hx hb hK hP 9 1 rfl rfl (lz_vp (x := 3) (n := 4) (by decide) (by decide)) dX11_paint_33 ?_
                    refine lz_va (y := .ref h28) rfl ?_
                    refine lv_iload_n hx hb dX11_paint_34 rfl (lv_at hl 2 rfl) ?_
                    have hPc := hP.sub (ws' := [(h12, .inr (9, [.ref h1, .ref h2, .ref h29, .ref h30, .ref h31, .int 0])), (h28, .inr (6, [.ref h44, .int (-1), .int 0])), (h1, .inr (2, [.ref h15, .int 0, .int 0])), (h44, .inl (cI, 40, .inl (fun _ => 0)))]) [41, 25, 44, 40] rfl
                    have hDc := hD.sub (ws' := [(h12, .inr (9, [.ref h1, .ref h2, .ref h29, .ref h30, .ref h31, .int 0])), (h28, .inr (6, [.ref h44, .int (-1), .int 0])), (h1, .inr (2, [.ref h15, .int 0, .int 0])), (h44, .inl (cI, 40, .inl (fun _ => 0)))]) [41, 25, 44, 40] (by decide) rfl
                    refine lz_qv (wr := [(h0, .inr (11, [.ref h1, .ref h2, .ref h3, .ref h4, .ref h5, .ref h6, .ref h7, .int 0, .int 0, .ref h8, .ref h9, .ref h10, .ref h11, .ref h12, .ref h13, .ref h14])), (h3, .inr (4, [.ref h1, .ref h2])), (h4, .inr (10, [.ref h1, .ref h2, .ref h18, .int 0, .int 0, .int 0, .int 0, .int (-1)])), (h5, .inr (2, [.ref h19, .int 0, .int 0])), (h6, .inr (3, [.ref h5, .ref h20, .ref h21, .int 0])), (h7, .inr (2, [.ref h22, .int 0, .int 0])), (h8, .inr (0, [.int 1])), (h9, .inr (8, [.ref h23, .int 0])), (h10, .inr (5, [.ref h9, .ref h1, .ref h24, .int 0, .int 0, .int 0, .int 0, .int 0])), (h11, .inl (cS, 4, .inr (.inr (.inr (.inr (fun k => [h25, h26, h27, h28][k]?)))))), (h13, .inr (9, [.ref h1, .ref h2, .ref h32, .ref h33, .ref h34, .int 0])), (h14, .inr (7, [.ref h35, .ref h36])), (h15, .inl (cI, 12, .inl (fun _ => 0))), (h16, .inr (1, [.ref h37, .int 1])), (h17, .inr (1, [.ref h38, .int 1])), (h18, .inl (cI, 5, .inl (fun _ => 0))), (h19, .inl (cI, 12, .inl (fun _ => 0))), (h20, .inr (1, [.ref h39, .int 1])), (h21, .inr (1, [.ref h40, .int 1])), (h22, .inl (cI, 12, .inl (fun _ => 0))), (h23, .inl (cI, 120, .inl (fun _ => 0))), (h24, .inl (cI, 12, .inl (fun _ => 0))), (h25, .inr (6, [.ref h41, .int (-1), .int 0])), (h26, .inr (6, [.ref h42, .int (-1), .int 0])), (h27, .inr (6, [.ref h43, .int (-1), .int 0])), (h30, .inl (cI, 12, .inl (fun _ => 0))), (h31, .inl (cI, 12, .inl (fun _ => 0))), (h32, .inl (cI, 12, .inl (fun _ => 0))), (h33, .inl (cI, 12, .inl (fun _ => 0))), (h34, .inl (cI, 12, .inl (fun _ => 0))), (h35, .inl (cI, 4, .inl (fun _ => -1))), (h36, .inl (cI, 4, .inl (fun _ => 0))), (h37, .inl (cI, 4096, .inl (fun _ => 0))), (h38, .inl (cI, 0, .inl (fun _ => 0))), (h39, .inl (cI, 4096, .inl (fun _ => 0))), (h40, .inl (cI, 0, .inl (fun _ => 0))), (h41, .inl (cI, 40, .inl (fun _ => 0))), (h42, .inl (cI, 40, .inl (fun _ => 0))), (h43, .inl (cI, 40, .inl (fun _ => 0))), (h2, .inr (3, [.ref h1, .ref h16, .ref h17, .int 0])), (h29, .inl (cI, 12, .inl (upd (upd (upd (upd (upd (upd (upd (upd (upd (upd (upd (upd (fun _ => 0) 0 (-1)) 1 (-1)) 2 (-1)) 3 (-1)) 4 (-1)) 5 (-1)) 6 (-1)) 7 (-1)) 8 (-1)) 9 (-1)) 10 (-1)) 11 (-1))))]) (w1 := [(h12, .inr (9, [.ref h1, .ref h2, .ref h29, .ref h30, .ref h31, .int 0])), (h1, .inr (2, [.ref h15, .int 0, .int 0])), (h28, .inr (6, [.ref h44, .int 1, .int 0])), (h44, .inl (cI, 40, .inl (fun _ => 0)))]) (As := [.ref h28, .int 1]) (rest := []) ⟨hx, hb, hml, hown, hts⟩ (c_X9_writeTo_1 l D cI cS H.size h12 h28 h1 h2 h29 h30 h31 h44 h15) hKK hP hD hS hA [41, 25, 44, 40] [0, 1, 2, 3, 4, 5, 6, 7, 8, 9, 10, 11, 12, 13, 14, 15, 16, 17, 18, 19, 20, 21, 22, 23, 24, 26, 27, 28, 29, 30, 31, 32, 33, 34, 35, 36, 37, 38, 39, 42, 43] (by decide) rfl rfl (by decide) (by decide) hPc hDc (ci := 9) rfl rfl (cwV 2 hts gX11_paint_X9_writeTo rfl rfl rfl (by decide +kernel) ⟨Nat.le_of_ble_eq_true rfl, Nat.le_of_ble_eq_true rfl⟩) rfl hl.1 rfl (Nat.le_of_ble_eq_true rfl) dX11_paint_35 ⟨Nat.le_of_ble_eq_true rfl, Nat.le_of_ble_eq_true rfl⟩ (fun H locs hP hD hS => ?_)
                    have hP : va_P D cls [(h0, .inr (11, [.ref h1, .ref h2, .ref h3, .ref h4, .ref h5, .ref h6, .ref h7, .int 0, .int 0, .ref h8, .ref h9, .ref h10, .ref h11, .ref h12, .ref h13, .ref h14])), (h3, .inr (4, [.ref h1, .ref h2])), (h4, .inr (10, [.ref h1, .ref h2, .ref h18, .int 0, .int 0, .int 0, .int 0, .int (-1)])), (h5, .inr (2, [.ref h19, .int 0, .int 0])), (h6, .inr (3, [.ref h5, .ref h20, .ref h21, .int 0])), (h7, .inr (2, [.ref h22, .int 0, .int 0])), (h8, .inr (0, [.int 1])), (h9, .inr (8, [.ref h23, .int 0])), (h10, .inr (5, [.ref h9, .ref h1, .ref h24, .int 0, .int 0, .int 0, .int 0, .int 0])), (h11, .inl (cS, 4, .inr (.inr (.inr (.inr (fun k => [h25, h26, h27, h28][k]?)))))), (h13, .inr (9, [.ref h1, .ref h2, .ref h32, .ref h33, .ref h34, .int 0])), (h14, .inr (7, [.ref h35, .ref h36])), (h15, .inl (cI, 12, .inl (fun _ => 0))), (h16, .inr (1, [.ref h37, .int 1])), (h17, .inr (1, [.ref h38, .int 1])), (h18, .inl (cI, 5, .inl (fun _ => 0))), (h19, .inl (cI, 12, .inl (fun _ => 0))), (h20, .inr (1, [.ref h39, .int 1])), (h21, .inr (1, [.ref h40, .int 1])), (h22, .inl (cI, 12, .inl (fun _ => 0))), (h23, .inl (cI, 120, .inl (fun _ => 0))), (h24, .inl (cI, 12, .inl (fun _ => 0))), (h25, .inr (6, [.ref h41, .int (-1), .int 0])), (h26, .inr (6, [.ref h42, .int (-1), .int 0])), (h27, .inr (6, [.ref h43, .int (-1), .int 0])), (h30, .inl (cI, 12, .inl (fun _ => 0))), (h31, .inl (cI, 12, .inl (fun _ => 0))), (h32, .inl (cI, 12, .inl (fun _ => 0))), (h33, .inl (cI, 12, .inl (fun _ => 0))), (h34, .inl (cI, 12, .inl (fun _ => 0))), (h35, .inl (cI, 4, .inl (fun _ => -1))), (h36, .inl (cI, 4, .inl (fun _ => 0))), (h37, .inl (cI, 4096, .inl (fun _ => 0))), (h38, .inl (cI, 0, .inl (fun _ => 0))), (h39, .inl (cI, 4096, .inl (fun _ => 0))), (h40, .inl (cI, 0, .inl (fun _ => 0))), (h41, .inl (cI, 40, .inl (fun _ => 0))), (h42, .inl (cI, 40, .inl (fun _ => 0))), (h43, .inl (cI, 40, .inl (fun _ => 0))), (h2, .inr (3, [.ref h1, .ref h16, .ref h17, .int 0])), (h29, .inl (cI, 12, .inl (upd (upd (upd (upd (upd (upd (upd (upd (upd (upd (upd (upd (fun _ => 0) 0 (-1)) 1 (-1)) 2 (-1)) 3 (-1)) 4 (-1)) 5 (-1)) 6 (-1)) 7 (-1)) 8 (-1)) 9 (-1)) 10 (-1)) 11 (-1)))), (h12, .inr (9, [.ref h1, .ref h2, .ref h29, .ref h30, .ref h31, .int 0])), (h1, .inr (2, [.ref h15, .int 0, .int 0])), (h28, .inr (6, [.ref h44, .int 1, .int 0])), (h44, .inl (cI, 40, .inl (fun _ => 0)))] H := hP
                    have hD : va_D A [(h0, .inr (11, [.ref h1, .ref h2, .ref h3, .ref h4, .ref h5, .ref h6, .ref h7, .int 0, .int 0, .ref h8, .ref h9, .ref h10, .ref h11, .ref h12, .ref h13, .ref h14])), (h3, .inr (4, [.ref h1, .ref h2])), (h4, .inr (10, [.ref h1, .ref h2, .ref h18, .int 0, .int 0, .int 0, .int 0, .int (-1)])), (h5, .inr (2, [.ref h19, .int 0, .int 0])), (h6, .inr (3, [.ref h5, .ref h20, .ref h21, .int 0])), (h7, .inr (2, [.ref h22, .int 0, .int 0])), (h8, .inr (0, [.int 1])), (h9, .inr (8, [.ref h23, .int 0])), (h10, .inr (5, [.ref h9, .ref h1, .ref h24, .int 0, .int 0, .int 0, .int 0, .int 0])), (h11, .inl (cS, 4, .inr (.inr (.inr (.inr (fun k => [h25, h26, h27, h28][k]?)))))), (h13, .inr (9, [.ref h1, .ref h2, .ref h32, .ref h33, .ref h34, .int 0])), (h14, .inr (7, [.ref h35, .ref h36])), (h15, .inl (cI, 12, .inl (fun _ => 0))), (h16, .inr (1, [.ref h37, .int 1])), (h17, .inr (1, [.ref h38, .int 1])), (h18, .inl (cI, 5, .inl (fun _ => 0))), (h19, .inl (cI, 12, .inl (fun _ => 0))), (h20, .inr (1, [.ref h39, .int 1])), (h21, .inr (1, [.ref h40, .int 1])), (h22, .inl (cI, 12, .inl (fun _ => 0))), (h23, .inl (cI, 120, .inl (fun _ => 0))), (h24, .inl (cI, 12, .inl (fun _ => 0))), (h25, .inr (6, [.ref h41, .int (-1), .int 0])), (h26, .inr (6, [.ref h42, .int (-1), .int 0])), (h27, .inr (6, [.ref h43, .int (-1), .int 0])), (h30, .inl (cI, 12, .inl (fun _ => 0))), (h31, .inl (cI, 12, .inl (fun _ => 0))), (h32, .inl (cI, 12, .inl (fun _ => 0))), (h33, .inl (cI, 12, .inl (fun _ => 0))), (h34, .inl (cI, 12, .inl (fun _ => 0))), (h35, .inl (cI, 4, .inl (fun _ => -1))), (h36, .inl (cI, 4, .inl (fun _ => 0))), (h37, .inl (cI, 4096, .inl (fun _ => 0))), (h38, .inl (cI, 0, .inl (fun _ => 0))), (h39, .inl (cI, 4096, .inl (fun _ => 0))), (h40, .inl (cI, 0, .inl (fun _ => 0))), (h41, .inl (cI, 40, .inl (fun _ => 0))), (h42, .inl (cI, 40, .inl (fun _ => 0))), (h43, .inl (cI, 40, .inl (fun _ => 0))), (h2, .inr (3, [.ref h1, .ref h16, .ref h17, .int 0])), (h29, .inl (cI, 12, .inl (upd (upd (upd (upd (upd (upd (upd (upd (upd (upd (upd (upd (fun _ => 0) 0 (-1)) 1 (-1)) 2 (-1)) 3 (-1)) 4 (-1)) 5 (-1)) 6 (-1)) 7 (-1)) 8 (-1)) 9 (-1)) 10 (-1)) 11 (-1)))), (h12, .inr (9, [.ref h1, .ref h2, .ref h29, .ref h30, .ref h31, .int 0])), (h1, .inr (2, [.ref h15, .int 0, .int 0])), (h28, .inr (6, [.ref h44, .int 1, .int 0])), (h44, .inl (cI, 40, .inl (fun _ => 0)))] := hD
                    refine lv_aload_n hx hb dX11_paint_38 rfl (lv_at hl 0 rfl) ?_
                    refine va_get (D := D) (ci := 11) (v := .ref h1) (C := RX11) (T := TX11) (N := 16) hx hb hts hin11 hown hK hP 0 rfl rfl 0 (by decide) (hts (.fieldLink RX11 12 "MissedPoints" "net" "LMissedPoints$Net;") (by decide +kernel)) (fun _ h9 => h9) rfl dX11_paint_39 ?_
                    refine va_getN (D := D) (ci := 2) (v := .int 0) (C := RX2) (T := TX2) (N := 3) hx hb hts hin2 hown hK hP 42 rfl rfl 1 (by decide) (va_Nw.use rfl hN.2.2.2.2.2.2.2.2.2.1) (fun _ h9 => h9) rfl dX11_paint_42 ?_
                    have hP9 := hP.sub (ws' := []) [] rfl
                    have hD9 := hD.sub (ws' := []) [] (by decide) rfl
                    subst hAe
                    exact W.iret (v := 0) hx hb hr (fun t ht hW => ⟨⟨_, (), rfl, by rw [if_neg k1650, if_neg k1652, if_neg k1658, if_pos rfl], by rw [ht]; exact hP9, hD9⟩, hS.F ht⟩) hS.2.2 dX11_paint_45
            · exact absurd c1728 (by decide)
          · rw [if_neg k1727] at hw
            subst hw
            refine lv_if_ne (tgt := 17) hx hb dX11_paint_11 (by decide) (fun c1780 => ?_) (fun c1780 => ?_)
            · exact absurd c1780 (by decide)
            · refine lv_bipush (v := (-2)) hx hb dX11_paint_14 (by decide) ?_
              have hP9 := hP.sub (ws' := []) [] rfl
              have hD9 := hD.sub (ws' := []) [] (by decide) rfl
              subst hAe
              exact W.iret (v := (-2)) hx hb hr (fun t ht hW => ⟨⟨_, (), rfl, by rw [if_neg k1650, if_neg k1652, if_neg k1658, if_neg k1727], by rw [ht]; exact hP9, hD9⟩, hS.F ht⟩) hS.2.2 dX11_paint_16
set_option maxHeartbeats 4000000 in
set_option maxRecDepth 100000 in
theorem c_X8_append_0 (l : Launch) (D : va_G) (cI cS : ClassId) (sz : Nat) (h0 h1 : Nat) (x0 : Int32) : Met l yX8_append wsX8_append ({ frames := 0, cells := 0, slots := 0, locals := 0 }) (PQ D cI cS [(h0, .inr (8, [.ref h1, .int 0])), (h1, .inl (cI, 120, .inl (fun _ => 0)))] sz [.ref h0, .int x0]) (QV D [(h0, .inr (8, [.ref h1, .int 0])), (h1, .inl (cI, 120, .inl (fun _ => 0)))] [(h0, .inr (8, [.ref h1, .int 1])), (h1, .inl (cI, 120, .inl (upd (fun _ => 0) 0 x0)))] sz) 0 0 (va_A [(h0, .inr (8, [.ref h1, .int 0])), (h1, .inl (cI, 120, .inl (fun _ => 0)))] sz) := by
  refine Met.ofW (cc := cX8_append) (maxL := 2) (ret := none) (by decide) rfl ?_
  intro p e s m args below meth c s₁ B hml hv
  obtain ⟨rfl, hsz, hP, hKK, hD0⟩ := hv
  have hx := B.exec
  have hb := B.bytes
  have hr := B.returns
  have hts := atoms_spec (ws := wsX8_append) B.pre
  have hown : s.vm.findClass RX8 = some m.cls := findClass_of_methodNamed B.named
  have hlocks := B.notSynchronized
  have hK := hKK.1
  have hN := hKK.2
  have hin8 : ∀ w ∈ wsX80, w ∈ wsX8_append := by decide +kernel
  subst hsz
  have hD := hD0.self (sz := s.heap.size)
  obtain ⟨A, hAe⟩ : ∃ A, A = va_A [(h0, .inr (8, [.ref h1, .int 0])), (h1, .inl (cI, 120, .inl (fun _ => 0)))] s.heap.size := ⟨_, rfl⟩
  rw [← hAe] at hD
  have hA : ∀ q : Nat, s.heap.size ≤ q → A q := fun q h => by rw [hAe]; exact Or.inr h
  have hS : va_S A s.heap s.heap [] := va_S.rf
  have hl := lv_entry ([.ref h0, .int x0]) (n := 2) (Nat.le_of_ble_eq_true rfl)
  rw [lg_entry_eq]
  generalize (lg_sl ([.ref h0, .int x0]) ++ List.replicate (2 - (lg_sl ([.ref h0, .int x0])).length) Slot.unset).toArray = ls at hl ⊢
  have hl : lv_has ls 2 [(0, .ref h0), (1, .int x0)] := hl
  refine lv_aload_n hx hb dX8_append_0 rfl (lv_at hl 0 rfl) ?_
  refine va_get (D := D) (ci := 8) (v := .int 0) (C := RX8) (T := TX8) (N := 2) hx hb hts hin8 hown hK hP 0 rfl rfl 1 (by decide) (hts (.fieldLink RX8 15 "MissedPoints$Tape" "size" "I") (by decide +kernel)) (fun _ h9 => h9) rfl dX8_append_1 ?_
  refine lv_bipush (v := 120) hx hb dX8_append_4 (by decide) ?_
  refine lv_icmp_ge (tgt := 29) hx hb dX8_append_6 (by decide) (fun c1786 => ?_) (fun c1786 => ?_)
  · exact absurd c1786 (by decide)
  · refine lv_aload_n hx hb dX8_append_9 rfl (lv_at hl 0 rfl) ?_
    refine va_get (D := D) (ci := 8) (v := .ref h1) (C := RX8) (T := TX8) (N := 2) hx hb hts hin8 hown hK hP 0 rfl rfl 0 (by decide) (hts (.fieldLink RX8 9 "MissedPoints$Tape" "bytes" "[I") (by decide +kernel)) (fun _ h9 => h9) rfl dX8_append_10 ?_
    refine lv_aload_n hx hb dX8_append_13 rfl (lv_at hl 0 rfl) ?_
    refine va_get (D := D) (ci := 8) (v := .int 0) (C := RX8) (T := TX8) (N := 2) hx hb hts hin8 hown hK hP 0 rfl rfl 1 (by decide) (hts (.fieldLink RX8 15 "MissedPoints$Tape" "size" "I") (by decide +kernel)) (fun _ h9 => h9) rfl dX8_append_14 ?_
    refine lv_iload_n hx hb dX8_append_17 rfl (lv_at hl 1 rfl) ?_
    refine va_iast hx hb hK hP hD hS 1 0 rfl rfl (lz_vp (x := 0) (n := 120) (by decide) (by decide)) dX8_append_18 (fun H locs hP hD hS => ?_)
    have hP : va_P D cls [(h0, .inr (8, [.ref h1, .int 0])), (h1, .inl (cI, 120, .inl (upd (fun _ => 0) 0 x0)))] H := hP
    have hD : va_D A [(h0, .inr (8, [.ref h1, .int 0])), (h1, .inl (cI, 120, .inl (upd (fun _ => 0) 0 x0)))] := hD
    refine lv_aload_n hx hb dX8_append_19 rfl (lv_at hl 0 rfl) ?_
    refine lv_dup hx hb dX8_append_20 rfl ?_
    refine va_get (D := D) (ci := 8) (v := .int 0) (C := RX8) (T := TX8) (N := 2) hx hb hts hin8 hown hK hP 0 rfl rfl 1 (by decide) (hts (.fieldLink RX8 15 "MissedPoints$Tape" "size" "I") (by decide +kernel)) (fun _ h9 => h9) rfl dX8_append_21 ?_
    refine lv_iconst (v := 1) hx hb dX8_append_24 (by decide) ?_
    refine lv_iadd hx hb dX8_append_25 ?_
    refine lz_top (y := 1) (by decide) ?_
    refine va_put (D := D) (ci := 8) (v := .int 1) (ty := .int) (C := RX8) (T := TX8) (N := 2) hx hb hts hin8 tyX8 tyX8_ok nmX8 hown hK hP hD hS 0 rfl rfl 1 (by decide) (hts (.fieldLink RX8 15 "MissedPoints$Tape" "size" "I") (by decide +kernel)) (fun _ h9 => h9) rfl (by decide +kernel) rfl rfl (Nat.le_of_ble_eq_true rfl) dX8_append_26 (fun H locs hP hD hS => ?_)
    have hP : va_P D cls [(h0, .inr (8, [.ref h1, .int 1])), (h1, .inl (cI, 120, .inl (upd (fun _ => 0) 0 x0)))] H := hP
    have hD : va_D A [(h0, .inr (8, [.ref h1, .int 1])), (h1, .inl (cI, 120, .inl (upd (fun _ => 0) 0 x0)))] := hD
    have hP9 := hP.sub (ws' := [(h0, .inr (8, [.ref h1, .int 1])), (h1, .inl (cI, 120, .inl (upd (fun _ => 0) 0 x0)))]) [0, 1] rfl
    have hD9 := hD.sub (ws' := [(h0, .inr (8, [.ref h1, .int 1])), (h1, .inl (cI, 120, .inl (upd (fun _ => 0) 0 x0)))]) [0, 1] (by decide) rfl
    subst hAe
    exact W.vret hx hb hr (fun t ht hW => ⟨⟨(), rfl, trivial, by rw [ht]; exact hP9, hD9⟩, hS.F ht⟩) hS.2.2 dX8_append_29
set_option maxHeartbeats 4000000 in
set_option maxRecDepth 100000 in
theorem c_X8_append_1 (l : Launch) (D : va_G) (cI cS : ClassId) (sz : Nat) (h0 h1 : Nat) (f0 : Nat → Int32) (x0 : Int32) : Met l yX8_append wsX8_append ({ frames := 0, cells := 0, slots := 0, locals := 0 }) (PQ D cI cS [(h0, .inr (8, [.ref h1, .int 1])), (h1, .inl (cI, 120, .inl f0))] sz [.ref h0, .int x0]) (QV D [(h0, .inr (8, [.ref h1, .int 1])), (h1, .inl (cI, 120, .inl f0))] [(h0, .inr (8, [.ref h1, .int 2])), (h1, .inl (cI, 120, .inl (upd f0 1 x0)))] sz) 0 0 (va_A [(h0, .inr (8, [.ref h1, .int 1])), (h1, .inl (cI, 120, .inl f0))] sz) := by
  refine Met.ofW (cc := cX8_append) (maxL := 2) (ret := none) (by decide) rfl ?_
  intro p e s m args below meth c s₁ B hml hv
  obtain ⟨rfl, hsz, hP, hKK, hD0⟩ := hv
  have hx := B.exec
  have hb := B.bytes
  have hr := B.returns
  have hts := atoms_spec (ws := wsX8_append) B.pre
  have hown : s.vm.findClass RX8 = some m.cls := findClass_of_methodNamed B.named
  have hlocks := B.notSynchronized
  have hK := hKK.1
  have hN := hKK.2
  have hin8 : ∀ w ∈ wsX80, w ∈ wsX8_append := by decide +kernel
  subst hsz
  have hD := hD0.self (sz := s.heap.size)
  obtain ⟨A, hAe⟩ : ∃ A, A = va_A [(h0, .inr (8, [.ref h1, .int 1])), (h1, .inl (cI, 120, .inl f0))] s.heap.size := ⟨_, rfl⟩
  rw [← hAe] at hD
  have hA : ∀ q : Nat, s.heap.size ≤ q → A q := fun q h => by rw [hAe]; exact Or.inr h
  have hS : va_S A s.heap s.heap [] := va_S.rf
  have hl := lv_entry ([.ref h0, .int x0]) (n := 2) (Nat.le_of_ble_eq_true rfl)
  rw [lg_entry_eq]
  generalize (lg_sl ([.ref h0, .int x0]) ++ List.replicate (2 - (lg_sl ([.ref h0, .int x0])).length) Slot.unset).toArray = ls at hl ⊢
  have hl : lv_has ls 2 [(0, .ref h0), (1, .int x0)] := hl
  refine lv_aload_n hx hb dX8_append_0 rfl (lv_at hl 0 rfl) ?_
  refine va_get (D := D) (ci := 8) (v := .int 1) (C := RX8) (T := TX8) (N := 2) hx hb hts hin8 hown hK hP 0 rfl rfl 1 (by decide) (hts (.fieldLink RX8 15 "MissedPoints$Tape" "size" "I") (by decide +kernel)) (fun _ h9 => h9) rfl dX8_append_1 ?_
  refine lv_bipush (v := 120) hx hb dX8_append_4 (by decide) ?_
  refine lv_icmp_ge (tgt := 29) hx hb dX8_append_6 (by decide) (fun c1793 => ?_) (fun c1793 => ?_)
  · exact absurd c1793 (by decide)
  · refine lv_aload_n hx hb dX8_append_9 rfl (lv_at hl 0 rfl) ?_
    refine va_get (D := D) (ci := 8) (v := .ref h1) (C := RX8) (T := TX8) (N := 2) hx hb hts hin8 hown hK hP 0 rfl rfl 0 (by decide) (hts (.fieldLink RX8 9 "MissedPoints$Tape" "bytes" "[I") (by decide +kernel)) (fun _ h9 => h9) rfl dX8_append_10 ?_
    refine lv_aload_n hx hb dX8_append_13 rfl (lv_at hl 0 rfl) ?_
    refine va_get (D := D) (ci := 8) (v := .int 1) (C := RX8) (T := TX8) (N := 2) hx hb hts hin8 hown hK hP 0 rfl rfl 1 (by decide) (hts (.fieldLink RX8 15 "MissedPoints$Tape" "size" "I") (by decide +kernel)) (fun _ h9 => h9) rfl dX8_append_14 ?_
    refine lv_iload_n hx hb dX8_append_17 rfl (lv_at hl 1 rfl) ?_
    refine va_iast hx hb hK hP hD hS 1 0 rfl rfl (lz_vp (x := 1) (n := 120) (by decide) (by decide)) dX8_append_18 (fun H locs hP hD hS => ?_)
    have hP : va_P D cls [(h0, .inr (8, [.ref h1, .int 1])), (h1, .inl (cI, 120, .inl (upd f0 1 x0)))] H := hP
    have hD : va_D A [(h0, .inr (8, [.ref h1, .int 1])), (h1, .inl (cI, 120, .inl (upd f0 1 x0)))] := hD
    refine lv_aload_n hx hb dX8_append_19 rfl (lv_at hl 0 rfl) ?_
    refine lv_dup hx hb dX8_append_20 rfl ?_
    refine va_get (D := D) (ci := 8) (v := .int 1) (C := RX8) (T := TX8) (N := 2) hx hb hts hin8 hown hK hP 0 rfl rfl 1 (by decide) (hts (.fieldLink RX8 15 "MissedPoints$Tape" "size" "I") (by decide +kernel)) (fun _ h9 => h9) rfl dX8_append_21 ?_
    refine lv_iconst (v := 1) hx hb dX8_append_24 (by decide) ?_
    refine lv_iadd hx hb dX8_append_25 ?_
    refine lz_top (y := 2) (by decide) ?_
    refine va_put (D := D) (ci := 8) (v := .int 2) (ty := .int) (C := RX8) (T := TX8) (N := 2) hx hb hts hin8 tyX8 tyX8_ok nmX8 hown hK hP hD hS 0 rfl rfl 1 (by decide) (hts (.fieldLink RX8 15 "MissedPoints$Tape" "size" "I") (by decide +kernel)) (fun _ h9 => h9) rfl (by decide +kernel) rfl rfl (Nat.le_of_ble_eq_true rfl) dX8_append_26 (fun H locs hP hD hS => ?_)
    have hP : va_P D cls [(h0, .inr (8, [.ref h1, .int 2])), (h1, .inl (cI, 120, .inl (upd f0 1 x0)))] H := hP
    have hD : va_D A [(h0, .inr (8, [.ref h1, .int 2])), (h1, .inl (cI, 120, .inl (upd f0 1 x0)))] := hD
    have hP9 := hP.sub (ws' := [(h0, .inr (8, [.ref h1, .int 2])), (h1, .inl (cI, 120, .inl (upd f0 1 x0)))]) [0, 1] rfl
    have hD9 := hD.sub (ws' := [(h0, .inr (8, [.ref h1, .int 2])), (h1, .inl (cI, 120, .inl (upd f0 1 x0)))]) [0, 1] (by decide) rfl
    subst hAe
    exact W.vret hx hb hr (fun t ht hW => ⟨⟨(), rfl, trivial, by rw [ht]; exact hP9, hD9⟩, hS.F ht⟩) hS.2.2 dX8_append_29
set_option maxHeartbeats 4000000 in
set_option maxRecDepth 100000 in
theorem c_X8_append_2 (l : Launch) (D : va_G) (cI cS : ClassId) (sz : Nat) (h0 h1 : Nat) (f0 : Nat → Int32) (x0 : Int32) : Met l yX8_append wsX8_append ({ frames := 0, cells := 0, slots := 0, locals := 0 }) (PQ D cI cS [(h0, .inr (8, [.ref h1, .int 2])), (h1, .inl (cI, 120, .inl f0))] sz [.ref h0, .int x0]) (QV D [(h0, .inr (8, [.ref h1, .int 2])), (h1, .inl (cI, 120, .inl f0))] [(h0, .inr (8, [.ref h1, .int 3])), (h1, .inl (cI, 120, .inl (upd f0 2 x0)))] sz) 0 0 (va_A [(h0, .inr (8, [.ref h1, .int 2])), (h1, .inl (cI, 120, .inl f0))] sz) := by
  refine Met.ofW (cc := cX8_append) (maxL := 2) (ret := none) (by decide) rfl ?_
  intro p e s m args below meth c s₁ B hml hv
  obtain ⟨rfl, hsz, hP, hKK, hD0⟩ := hv
  have hx := B.exec
  have hb := B.bytes
  have hr := B.returns
  have hts := atoms_spec (ws := wsX8_append) B.pre
  have hown : s.vm.findClass RX8 = some m.cls := findClass_of_methodNamed B.named
  have hlocks := B.notSynchronized
  have hK := hKK.1
  have hN := hKK.2
  have hin8 : ∀ w ∈ wsX80, w ∈ wsX8_append := by decide +kernel
  subst hsz
  have hD := hD0.self (sz := s.heap.size)
  obtain ⟨A, hAe⟩ : ∃ A, A = va_A [(h0, .inr (8, [.ref h1, .int 2])), (h1, .inl (cI, 120, .inl f0))] s.heap.size := ⟨_, rfl⟩
  rw [← hAe] at hD
  have hA : ∀ q : Nat, s.heap.size ≤ q → A q := fun q h => by rw [hAe]; exact Or.inr h
  have hS : va_S A s.heap s.heap [] := va_S.rf
  have hl := lv_entry ([.ref h0, .int x0]) (n := 2) (Nat.le_of_ble_eq_true rfl)
  rw [lg_entry_eq]
  generalize (lg_sl ([.ref h0, .int x0]) ++ List.replicate (2 - (lg_sl ([.ref h0, .int x0])).length) Slot.unset).toArray = ls at hl ⊢
  have hl : lv_has ls 2 [(0, .ref h0), (1, .int x0)] := hl
  refine lv_aload_n hx hb dX8_append_0 rfl (lv_at hl 0 rfl) ?_
  refine va_get (D := D) (ci := 8) (v := .int 2) (C := RX8) (T := TX8) (N := 2) hx hb hts hin8 hown hK hP 0 rfl rfl 1 (by decide) (hts (.fieldLink RX8 15 "MissedPoints$Tape" "size" "I") (by decide +kernel)) (fun _ h9 => h9) rfl dX8_append_1 ?_
  refine lv_bipush (v := 120) hx hb dX8_append_4 (by decide) ?_
  refine lv_icmp_ge (tgt := 29) hx hb dX8_append_6 (by decide) (fun c1802 => ?_) (fun c1802 => ?_)
  · exact absurd c1802 (by decide)
  · refine lv_aload_n hx hb dX8_append_9 rfl (lv_at hl 0 rfl) ?_
    refine va_get (D := D) (ci := 8) (v := .ref h1) (C := RX8) (T := TX8) (N := 2) hx hb hts hin8 hown hK hP 0 rfl rfl 0 (by decide) (hts (.fieldLink RX8 9 "MissedPoints$Tape" "bytes" "[I") (by decide +kernel)) (fun _ h9 => h9) rfl dX8_append_10 ?_
    refine lv_aload_n hx hb dX8_append_13 rfl (lv_at hl 0 rfl) ?_
    refine va_get (D := D) (ci := 8) (v := .int 2) (C := RX8) (T := TX8) (N := 2) hx hb hts hin8 hown hK hP 0 rfl rfl 1 (by decide) (hts (.fieldLink RX8 15 "MissedPoints$Tape" "size" "I") (by decide +kernel)) (fun _ h9 => h9) rfl dX8_append_14 ?_
    refine lv_iload_n hx hb dX8_append_17 rfl (lv_at hl 1 rfl) ?_
    refine va_iast hx hb hK hP hD hS 1 0 rfl rfl (lz_vp (x := 2) (n := 120) (by decide) (by decide)) dX8_append_18 (fun H locs hP hD hS => ?_)
    have hP : va_P D cls [(h0, .inr (8, [.ref h1, .int 2])), (h1, .inl (cI, 120, .inl (upd f0 2 x0)))] H := hP
    have hD : va_D A [(h0, .inr (8, [.ref h1, .int 2])), (h1, .inl (cI, 120, .inl (upd f0 2 x0)))] := hD
    refine lv_aload_n hx hb dX8_append_19 rfl (lv_at hl 0 rfl) ?_
    refine lv_dup hx hb dX8_append_20 rfl ?_
    refine va_get (D := D) (ci := 8) (v := .int 2) (C := RX8) (T := TX8) (N := 2) hx hb hts hin8 hown hK hP 0 rfl rfl 1 (by decide) (hts (.fieldLink RX8 15 "MissedPoints$Tape" "size" "I") (by decide +kernel)) (fun _ h9 => h9) rfl dX8_append_21 ?_
    refine lv_iconst (v := 1) hx hb dX8_append_24 (by decide) ?_
    refine lv_iadd hx hb dX8_append_25 ?_
    refine lz_top (y := 3) (by decide) ?_
    refine va_put (D := D) (ci := 8) (v := .int 3) (ty := .int) (C := RX8) (T := TX8) (N := 2) hx hb hts hin8 tyX8 tyX8_ok nmX8 hown hK hP hD hS 0 rfl rfl 1 (by decide) (hts (.fieldLink RX8 15 "MissedPoints$Tape" "size" "I") (by decide +kernel)) (fun _ h9 => h9) rfl (by decide +kernel) rfl rfl (Nat.le_of_ble_eq_true rfl) dX8_append_26 (fun H locs hP hD hS => ?_)
    have hP : va_P D cls [(h0, .inr (8, [.ref h1, .int 3])), (h1, .inl (cI, 120, .inl (upd f0 2 x0)))] H := hP
    have hD : va_D A [(h0, .inr (8, [.ref h1, .int 3])), (h1, .inl (cI, 120, .inl (upd f0 2 x0)))] := hD
    have hP9 := hP.sub (ws' := [(h0, .inr (8, [.ref h1, .int 3])), (h1, .inl (cI, 120, .inl (upd f0 2 x0)))]) [0, 1] rfl
    have hD9 := hD.sub (ws' := [(h0, .inr (8, [.ref h1, .int 3])), (h1, .inl (cI, 120, .inl (upd f0 2 x0)))]) [0, 1] (by decide) rfl
    subst hAe
    exact W.vret hx hb hr (fun t ht hW => ⟨⟨(), rfl, trivial, by rw [ht]; exact hP9, hD9⟩, hS.F ht⟩) hS.2.2 dX8_append_29
set_option maxHeartbeats 4000000 in
set_option maxRecDepth 100000 in
theorem c_X8_append_3 (l : Launch) (D : va_G) (cI cS : ClassId) (sz : Nat) (h0 h1 : Nat) (f0 : Nat → Int32) (x0 : Int32) : Met l yX8_append wsX8_append ({ frames := 0, cells := 0, slots := 0, locals := 0 }) (PQ D cI cS [(h0, .inr (8, [.ref h1, .int 3])), (h1, .inl (cI, 120, .inl f0))] sz [.ref h0, .int x0]) (QV D [(h0, .inr (8, [.ref h1, .int 3])), (h1, .inl (cI, 120, .inl f0))] [(h0, .inr (8, [.ref h1, .int 4])), (h1, .inl (cI, 120, .inl (upd f0 3 x0)))] sz) 0 0 (va_A [(h0, .inr (8, [.ref h1, .int 3])), (h1, .inl (cI, 120, .inl f0))] sz) := by
  refine Met.ofW (cc := cX8_append) (maxL := 2) (ret := none) (by decide) rfl ?_
  intro p e s m args below meth c s₁ B hml hv
  obtain ⟨rfl, hsz, hP, hKK, hD0⟩ := hv
  have hx := B.exec
  have hb := B.bytes
  have hr := B.returns
  have hts := atoms_spec (ws := wsX8_append) B.pre
  have hown : s.vm.findClass RX8 = some m.cls := findClass_of_methodNamed B.named
  have hlocks := B.notSynchronized
  have hK := hKK.1
  have hN := hKK.2
  have hin8 : ∀ w ∈ wsX80, w ∈ wsX8_append := by decide +kernel
  subst hsz
  have hD := hD0.self (sz := s.heap.size)
  obtain ⟨A, hAe⟩ : ∃ A, A = va_A [(h0, .inr (8, [.ref h1, .int 3])), (h1, .inl (cI, 120, .inl f0))] s.heap.size := ⟨_, rfl⟩
  rw [← hAe] at hD
  have hA : ∀ q : Nat, s.heap.size ≤ q → A q := fun q h => by rw [hAe]; exact Or.inr h
  have hS : va_S A s.heap s.heap [] := va_S.rf
  have hl := lv_entry ([.ref h0, .int x0]) (n := 2) (Nat.le_of_ble_eq_true rfl)
  rw [lg_entry_eq]
  generalize (lg_sl ([.ref h0, .int x0]) ++ List.replicate (2 - (lg_sl ([.ref h0, .int x0])).length) Slot.unset).toArray = ls at hl ⊢
  have hl : lv_has ls 2 [(0, .ref h0), (1, .int x0)] := hl
  refine lv_aload_n hx hb dX8_append_0 rfl (lv_at hl 0 rfl) ?_
  refine va_get (D := D) (ci := 8) (v := .int 3) (C := RX8) (T := TX8) (N := 2) hx hb hts hin8 hown hK hP 0 rfl rfl 1 (by decide) (hts (.fieldLink RX8 15 "MissedPoints$Tape" "size" "I") (by decide +kernel)) (fun _ h9 => h9) rfl dX8_append_1 ?_
  refine lv_bipush (v := 120) hx hb dX8_append_4 (by decide) ?_
  refine lv_icmp_ge (tgt := 29) hx hb dX8_append_6 (by decide) (fun c1812 => ?_) (fun c1812 => ?_)
  · exact absurd c1812 (by decide)
  · refine lv_aload_n hx hb dX8_append_9 rfl (lv_at hl 0 rfl) ?_
    refine va_get (D := D) (ci := 8) (v := .ref h1) (C := RX8) (T := TX8) (N := 2) hx hb hts hin8 hown hK hP 0 rfl rfl 0 (by decide) (hts (.fieldLink RX8 9 "MissedPoints$Tape" "bytes" "[I") (by decide +kernel)) (fun _ h9 => h9) rfl dX8_append_10 ?_
    refine lv_aload_n hx hb dX8_append_13 rfl (lv_at hl 0 rfl) ?_
    refine va_get (D := D) (ci := 8) (v := .int 3) (C := RX8) (T := TX8) (N := 2) hx hb hts hin8 hown hK hP 0 rfl rfl 1 (by decide) (hts (.fieldLink RX8 15 "MissedPoints$Tape" "size" "I") (by decide +kernel)) (fun _ h9 => h9) rfl dX8_append_14 ?_
    refine lv_iload_n hx hb dX8_append_17 rfl (lv_at hl 1 rfl) ?_
    refine va_iast hx hb hK hP hD hS 1 0 rfl rfl (lz_vp (x := 3) (n := 120) (by decide) (by decide)) dX8_append_18 (fun H locs hP hD hS => ?_)
    have hP : va_P D cls [(h0, .inr (8, [.ref h1, .int 3])), (h1, .inl (cI, 120, .inl (upd f0 3 x0)))] H := hP
    have hD : va_D A [(h0, .inr (8, [.ref h1, .int 3])), (h1, .inl (cI, 120, .inl (upd f0 3 x0)))] := hD
    refine lv_aload_n hx hb dX8_append_19 rfl (lv_at hl 0 rfl) ?_
    refine lv_dup hx hb dX8_append_20 rfl ?_
    refine va_get (D := D) (ci := 8) (v := .int 3) (C := RX8) (T := TX8) (N := 2) hx hb hts hin8 hown hK hP 0 rfl rfl 1 (by decide) (hts (.fieldLink RX8 15 "MissedPoints$Tape" "size" "I") (by decide +kernel)) (fun _ h9 => h9) rfl dX8_append_21 ?_
    refine lv_iconst (v := 1) hx hb dX8_append_24 (by decide) ?_
    refine lv_iadd hx hb dX8_append_25 ?_
    refine lz_top (y := 4) (by decide) ?_
    refine va_put (D := D) (ci := 8) (v := .int 4) (ty := .int) (C := RX8) (T := TX8) (N := 2) hx hb hts hin8 tyX8 tyX8_ok nmX8 hown hK hP hD hS 0 rfl rfl 1 (by decide) (hts (.fieldLink RX8 15 "MissedPoints$Tape" "size" "I") (by decide +kernel)) (fun _ h9 => h9) rfl (by decide +kernel) rfl rfl (Nat.le_of_ble_eq_true rfl) dX8_append_26 (fun H locs hP hD hS => ?_)
    have hP : va_P D cls [(h0, .inr (8, [.ref h1, .int 4])), (h1, .inl (cI, 120, .inl (upd f0 3 x0)))] H := hP
    have hD : va_D A [(h0, .inr (8, [.ref h1, .int 4])), (h1, .inl (cI, 120, .inl (upd f0 3 x0)))] := hD
    have hP9 := hP.sub (ws' := [(h0, .inr (8, [.ref h1, .int 4])), (h1, .inl (cI, 120, .inl (upd f0 3 x0)))]) [0, 1] rfl
    have hD9 := hD.sub (ws' := [(h0, .inr (8, [.ref h1, .int 4])), (h1, .inl (cI, 120, .inl (upd f0 3 x0)))]) [0, 1] (by decide) rfl
    subst hAe
    exact W.vret hx hb hr (fun t ht hW => ⟨⟨(), rfl, trivial, by rw [ht]; exact hP9, hD9⟩, hS.F ht⟩) hS.2.2 dX8_append_29
set_option maxHeartbeats 4000000 in
set_option maxRecDepth 100000 in
theorem c_X11_feed_0 (l : Launch) (D : va_G) (cI cS : ClassId) (sz : Nat) (h0 h1 h2 h3 h4 h5 h6 h7 h8 h9 h10 h11 h12 h13 h14 h23 : Nat) (x0 x1 : Int32) : Met l yX11_feed wsX11_feed ({ frames := 1, cells := 0, slots := 0, locals := 40 }) (PQ D cI cS [(h0, .inr (11, [.ref h1, .ref h2, .ref h3, .ref h4, .ref h5, .ref h6, .ref h7, .int 0, .int 0, .ref h8, .ref h9, .ref h10, .ref h11, .ref h12, .ref h13, .ref h14])), (h9, .inr (8, [.ref h23, .int 0])), (h23, .inl (cI, 120, .inl (fun _ => 0)))] sz [.ref h0, .int x0, .int x1]) (QI D [(h0, .inr (11, [.ref h1, .ref h2, .ref h3, .ref h4, .ref h5, .ref h6, .ref h7, .int 0, .int 0, .ref h8, .ref h9, .ref h10, .ref h11, .ref h12, .ref h13, .ref h14])), (h9, .inr (8, [.ref h23, .int 0])), (h23, .inl (cI, 120, .inl (fun _ => 0)))] [] sz (fun r => r = if x1 < 1 then ((-2) : Int32) else (if x1 ≤ 4 then (if x1 = 1 then (1 : Int32) else (if x1 = 2 then (2 : Int32) else (if x1 = 3 then (3 : Int32) else (4 : Int32)))) else ((-2) : Int32)))) 0 0 (va_A [(h0, .inr (11, [.ref h1, .ref h2, .ref h3, .ref h4, .ref h5, .ref h6, .ref h7, .int 0, .int 0, .ref h8, .ref h9, .ref h10, .ref h11, .ref h12, .ref h13, .ref h14])), (h9, .inr (8, [.ref h23, .int 0])), (h23, .inl (cI, 120, .inl (fun _ => 0)))] sz) := by
  refine Met.ofW (cc := cX11_feed) (maxL := 4) (ret := (some .int)) (by decide) rfl ?_
  intro p e s m args below meth c s₁ B hml hv
  obtain ⟨rfl, hsz, hP, hKK, hD0⟩ := hv
  have hx := B.exec
  have hb := B.bytes
  have hr := B.returns
  have hts := atoms_spec (ws := wsX11_feed) B.pre
  have hown : s.vm.findClass RX11 = some m.cls := findClass_of_methodNamed B.named
  have hlocks := B.notSynchronized
  have hK := hKK.1
  have hN := hKK.2
  have hin8 : ∀ w ∈ wsX80, w ∈ wsX11_feed := by decide +kernel
  have hin11 : ∀ w ∈ wsX110, w ∈ wsX11_feed := by decide +kernel
  subst hsz
  have hD := hD0.self (sz := s.heap.size)
  obtain ⟨A, hAe⟩ : ∃ A, A = va_A [(h0, .inr (11, [.ref h1, .ref h2, .ref h3, .ref h4, .ref h5, .ref h6, .ref h7, .int 0, .int 0, .ref h8, .ref h9, .ref h10, .ref h11, .ref h12, .ref h13, .ref h14])), (h9, .inr (8, [.ref h23, .int 0])), (h23, .inl (cI, 120, .inl (fun _ => 0)))] s.heap.size := ⟨_, rfl⟩
  rw [← hAe] at hD
  have hA : ∀ q : Nat, s.heap.size ≤ q → A q := fun q h => by rw [hAe]; exact Or.inr h
  have hS : va_S A s.heap s.heap [] := va_S.rf
  have hl := lv_entry ([.ref h0, .int x0, .int x1]) (n := 4) (Nat.le_of_ble_eq_true rfl)
  rw [lg_entry_eq]
  generalize (lg_sl ([.ref h0, .int x0, .int x1]) ++ List.replicate (4 - (lg_sl ([.ref h0, .int x0, .int x1])).length) Slot.unset).toArray = ls at hl ⊢
  have hl : lv_has ls 4 [(0, .ref h0), (1, .int x0), (2, .int x1)] := hl
  refine lv_iload_n hx hb dX11_feed_0 rfl (lv_at hl 2 rfl) ?_
  refine lv_iconst (v := 1) hx hb dX11_feed_1 (by decide) ?_
  refine lv_icmp_lt (tgt := 10) hx hb dX11_feed_2 (by decide) (fun c1781 => ?_) (fun c1781 => ?_)
  · refine lv_bipush (v := (-2)) hx hb dX11_feed_10 (by decide) ?_
    have hP9 := hP.sub (ws' := []) [] rfl
    have hD9 := hD.sub (ws' := []) [] (by decide) rfl
    subst hAe
    exact W.iret (v := (-2)) hx hb hr (fun t ht hW => ⟨⟨_, (), rfl, by rw [if_pos c1781], by rw [ht]; exact hP9, hD9⟩, hS.F ht⟩) hS.2.2 dX11_feed_12
  · refine lv_iload_n hx hb dX11_feed_5 rfl (lv_at hl 2 rfl) ?_
    refine lv_iconst (v := 4) hx hb dX11_feed_6 (by decide) ?_
    refine lv_icmp_le (tgt := 13) hx hb dX11_feed_7 (by decide) (fun c1782 => ?_) (fun c1782 => ?_)
    · refine lv_iload_n hx hb dX11_feed_13 rfl (lv_at hl 2 rfl) ?_
      refine lv_bipush (v := 120) hx hb dX11_feed_14 (by decide) ?_
      refine lv_aload_n hx hb dX11_feed_16 rfl (lv_at hl 0 rfl) ?_
      refine va_get (D := D) (ci := 11) (v := .ref h9) (C := RX11) (T := TX11) (N := 16) hx hb hts hin11 hown hK hP 0 rfl rfl 10 (by decide) (hts (.fieldLink RX11 60 "MissedPoints" "tape" "LMissedPoints$Tape;") (by decide +kernel)) (fun _ h9 => h9) rfl dX11_feed_17 ?_
      refine va_getN (D := D) (ci := 8) (v := .int 0) (C := RX8) (T := TX8) (N := 2) hx hb hts hin8 hown hK hP 9 rfl rfl 1 (by decide) (va_Nw.use rfl hN.1) (fun _ h9 => h9) rfl dX11_feed_20 ?_
      refine lv_isub hx hb dX11_feed_23 ?_
      refine lz_top (y := 120) (by decide) ?_
      refine lv_icmp_le (tgt := 30) hx hb dX11_feed_24 (by decide) (fun c1783 => ?_) (fun c1783 => ?_)
      · by_cases k1784 : x1 = 1
        · subst k1784
          refine lv_iload_n hx hb dX11_feed_30 rfl (lv_at hl 2 rfl) ?_
          refine lv_iconst (v := 1) hx hb dX11_feed_31 (by decide) ?_
          refine lv_isub hx hb dX11_feed_32 ?_
          refine lz_top (y := 0) (by decide) ?_
          refine lv_istore_n (lv' := [(3, .int 0), (0, .ref h0), (1, .int x0), (2, .int 1)]) hx hb dX11_feed_33 rfl hl (by decide) rfl (fun ls hl => ?_)
          refine lv_iload_n hx hb dX11_feed_34 rfl (lv_at hl 0 rfl) ?_
          refine lv_if_lt (tgt := 61) hx hb dX11_feed_35 (by decide) (fun c1785 => ?_) (fun c1785 => ?_)
          · exact absurd c1785 (by decide)
          · refine lv_aload_n hx hb dX11_feed_38 rfl (lv_at hl 1 rfl) ?_
            refine va_get (D := D) (ci := 11) (v := .ref h9) (C := RX11) (T := TX11) (N := 16) hx hb hts hin11 hown hK hP 0 rfl rfl 10 (by decide) (hts (.fieldLink RX11 60 "MissedPoints" "tape" "LMissedPoints$Tape;") (by decide +kernel)) (fun _ h9 => h9) rfl dX11_feed_39 ?_
            refine lv_iload_n hx hb dX11_feed_42 rfl (lv_at hl 2 rfl) ?_
            refine lv_bipush (v := 8) hx hb dX11_feed_43 (by decide) ?_
            refine lv_iload_n hx hb dX11_feed_45 rfl (lv_at hl 0 rfl) ?_
            refine lv_imul hx hb dX11_feed_46 ?_
            refine lz_top (y := 0) (by decide) ?_
            refine lv_iushr (v := (Int32.toUInt32 x0 >>> (Int32.toUInt32 0 &&& Int32.toUInt32 31)).toInt32) hx hb dX11_feed_47 rfl ?_
            refine lv_sipush (v := 255) hx hb dX11_feed_48 (by decide) ?_
            refine lv_iand hx hb dX11_feed_51 ?_
            have hPc := hP.sub (ws' := [(h9, .inr (8, [.ref h23, .int 0])), (h23, .inl (cI, 120, .inl (fun _ => 0)))]) [9, 23] rfl
            have hDc := hD.sub (ws' := [(h9, .inr (8, [.ref h23, .int 0])), (h23, .inl (cI, 120, .inl (fun _ => 0)))]) [9, 23] (by decide) rfl
            refine lz_qv (wr := [(h0, .inr (11, [.ref h1, .ref h2, .ref h3, .ref h4, .ref h5, .ref h6, .ref h7, .int 0, .int 0, .ref h8, .ref h9, .ref h10, .ref h11, .ref h12, .ref h13, .ref h14])), (h1, .inr (2, [.ref h15, .int 0, .int 0])), (h2, .inr (3, [.ref h1, .ref h16, .ref h17, .int 0])), (h3, .inr (4, [.ref h1, .ref h2])), (h4, .inr (10, [.ref h1, .ref h2, .ref h18, .int 0, .int 0, .int 0, .int 0, .int (-1)])), (h5, .inr (2, [.ref h19, .int 0, .int 0])), (h6, .inr (3, [.ref h5, .ref h20, .ref h21, .int 0])), (h7, .inr (2, [.ref h22, .int 0, .int 0])), (h8, .inr (0, [.int 1])), (h10, .inr (5, [.ref h9, .ref h1, .ref h24, .int 0, .int 0, .int 0, .int 0, .int 0])), (h11, .inl (cS, 4, .inr (.inr (.inr (.inr (fun k => [h25, h26, h27, h28][k]?)))))), (h12, .inr (9, [.ref h1, .ref h2, .ref h29, .ref h30, .ref h31, .int 0])), (h13, .inr (9, [.ref h1, .ref h2, .ref h32, .ref h33, .ref h34, .int 0])), (h14, .inr (7, [.ref h35, .ref h36])), (h15, .inl (cI, 12, .inl (fun _ => 0))), (h16, .inr (1, [.ref h37, .int 1])), (h17, .inr (1, [.ref h38, .int 1])), (h18, .inl (cI, 5, .inl (fun _ => 0))), (h19, .inl (cI, 12, .inl (fun _ => 0))), (h20, .inr (1, [.ref h39, .int 1])), (h21, .inr (1, [.ref h40, .int 1])), (h22, .inl (cI, 12, .inl (fun _ => 0))), (h24, .inl (cI, 12, .inl (fun _ => 0))), (h25, .inr (6, [.ref h41, .int (-1), .int 0])), (h26, .inr (6, [.ref h42, .int (-1), .int 0])), (h27, .inr (6, [.ref h43, .int (-1), .int 0])), (h28, .inr (6, [.ref h44, .int (-1), .int 0])), (h29, .inl (cI, 12, .inl (fun _ => 0))), (h30, .inl (cI, 12, .inl (fun _ => 0))), (h31, .inl (cI, 12, .inl (fun _ => 0))), (h32, .inl (cI, 12, .inl (fun _ => 0))), (h33, .inl (cI, 12, .inl (fun _ => 0))), (h34, .inl (cI, 12, .inl (fun _ => 0))), (h35, .inl (cI, 4, .inl (fun _ => -1))), (h36, .inl (cI, 4, .inl (fun _ => 0))), (h37, .inl (cI, 4096, .inl (fun _ => 0))), (h38, .inl (cI, 0, .inl (fun _ => 0))), (h39, .inl (cI, 4096, .inl (fun _ => 0))), (h40, .inl (cI, 0, .inl (fun _ => 0))), (h41, .inl (cI, 40, .inl (fun _ => 0))), (h42, .inl (cI, 40, .inl (fun _ => 0))), (h43, .inl (cI, 40, .inl (fun _ => 0))), (h44, .inl (cI, 40, .inl (fun _ => 0)))]) (w1 := [(h9, .inr (8, [.ref h23, .int 1])), (h23, .inl (cI, 120, .inl (upd (fun _ => 0) 0 (((Int32.toUInt32 x0 >>> (Int32.toUInt32 0 &&& Int32.toUInt32 31)).toInt32) &&& (255 : Int32)))))]) (As := [.int (((Int32.toUInt32 x0 >>> (Int32.toUInt32 0 &&& Int32.toUInt32 31)).toInt32) &&& (255 : Int32))]) (rest := []) ⟨hx, hb, hml, hown, hts⟩ (c_X8_append_0 l D cI cS H.size h9 h23 (((Int32.toUInt32 x0 >>> (Int32.toUInt32 0 &&& Int32.toUInt32 31)).toInt32) &&& (255 : Int32))) hKK hP hD hS hA [9, 23] [0, 1, 2, 3, 4, 5, 6, 7, 8, 10, 11, 12, 13, 14, 15, 16, 17, 18, 19, 20, 21, 22, 24, 25, 26, 27, 28, 29, 30, 31, 32, 33, 34, 35, 36, 37, 38, 39, 40, 41, 42, 43, 44] (by decide) rfl rfl (by decide) (by decide) hPc hDc (ci := 8) rfl rfl (cwV 1 hts gX11_feed_X8_append rfl rfl rfl (by decide +kernel) ⟨Nat.le_of_ble_eq_true rfl, Nat.le_of_ble_eq_true rfl⟩) rfl hl.1 rfl (Nat.le_of_ble_eq_true rfl) dX11_feed_52 ⟨Nat.le_of_ble_eq_true rfl, Nat.le_of_ble_eq_true rfl⟩ (fun H locs hP hD hS => ?_)
            have hP : va_P D cls [(h0, .inr (11, [.ref h1, .ref h2, .ref h3, .ref h4, .ref h5, .ref h6, .ref h7, .int 0, .int 0, .ref h8, .ref h9, .ref h10, .ref h11, .ref h12, .ref h13, .ref h14])), (h1, .inr (2, [.ref h15, .int 0, .int 0])), (h2, .inr (3, [.ref h1, .ref h16, .ref h17, .int 0])), (h3, .inr (4, [.ref h1, .ref h2])), (h4, .inr (10, [.ref h1, .ref h2, .ref h18, .int 0, .int 0, .int 0, .int 0, .int (-1)])), (h5, .inr (2, [.ref h19, .int 0, .int 0])), (h6, .inr (3, [.ref h5, .ref h20, .ref h21, .int 0])), (h7, .inr (2, [.ref h22, .int 0, .int 0])), (h8, .inr (0, [.int 1])), (h10, .inr (5, [.ref h9, .ref h1, .ref h24, .int 0, .int 0, .int 0, .int 0, .int 0])), (h11, .inl (cS, 4, .inr (.inr (.inr (.inr (fun k => [h25, h26, h27, h28][k]?)))))), (h12, .inr (9, [.ref h1, .ref h2, .ref h29, .ref h30, .ref h31, .int 0])), (h13, .inr (9, [.ref h1, .ref h2, .ref h32, .ref h33, .ref h34, .int 0])), (h14, .inr (7, [.ref h35, .ref h36])), (h15, .inl (cI, 12, .inl (fun _ => 0))), (h16, .inr (1, [.ref h37, .int 1])), (h17, .inr (1, [.ref h38, .int 1])), (h18, .inl (cI, 5, .inl (fun _ => 0))), (h19, .inl (cI, 12, .inl (fun _ => 0))), (h20, .inr (1, [.ref h39, .int 1])), (h21, .inr (1, [.ref h40, .int 1])), (h22, .inl (cI, 12, .inl (fun _ => 0))), (h24, .inl (cI, 12, .inl (fun _ => 0))), (h25, .inr (6, [.ref h41, .int (-1), .int 0])), (h26, .inr (6, [.ref h42, .int (-1), .int 0])), (h27, .inr (6, [.ref h43, .int (-1), .int 0])), (h28, .inr (6, [.ref h44, .int (-1), .int 0])), (h29, .inl (cI, 12, .inl (fun _ => 0))), (h30, .inl (cI, 12, .inl (fun _ => 0))), (h31, .inl (cI, 12, .inl (fun _ => 0))), (h32, .inl (cI, 12, .inl (fun _ => 0))), (h33, .inl (cI, 12, .inl (fun _ => 0))), (h34, .inl (cI, 12, .inl (fun _ => 0))), (h35, .inl (cI, 4, .inl (fun _ => -1))), (h36, .inl (cI, 4, .inl (fun _ => 0))), (h37, .inl (cI, 4096, .inl (fun _ => 0))), (h38, .inl (cI, 0, .inl (fun _ => 0))), (h39, .inl (cI, 4096, .inl (fun _ => 0))), (h40, .inl (cI, 0, .inl (fun _ => 0))), (h41, .inl (cI, 40, .inl (fun _ => 0))), (h42, .inl (cI, 40, .inl (fun _ => 0))), (h43, .inl (cI, 40, .inl (fun _ => 0))), (h44, .inl (cI, 40, .inl (fun _ => 0))), (h9, .inr (8, [.ref h23, .int 1])), (h23, .inl (cI, 120, .inl (upd (fun _ => 0) 0 (((Int32.toUInt32 x0 >>> (Int32.toUInt32 0 &&& Int32.toUInt32 31)).toInt32) &&& (255 : Int32)))))] H := hP
            have hD : va_D A [(h0, .inr (11, [.ref h1, .ref h2, .ref h3, .ref h4, .ref h5, .ref h6, .ref h7, .int 0, .int 0, .ref h8, .ref h9, .ref h10, .ref h11, .ref h12, .ref h13, .ref h14])), (h1, .inr (2, [.ref h15, .int 0, .int 0])), (h2, .inr (3, [.ref h1, .ref h16, .ref h17, .int 0])), (h3, .inr (4, [.ref h1, .ref h2])), (h4, .inr (10, [.ref h1, .ref h2, .ref h18, .int 0, .int 0, .int 0, .int 0, .int (-1)])), (h5, .inr (2, [.ref h19, .int 0, .int 0])), (h6, .inr (3, [.ref h5, .ref h20, .ref h21, .int 0])), (h7, .inr (2, [.ref h22, .int 0, .int 0])), (h8, .inr (0, [.int 1])), (h10, .inr (5, [.ref h9, .ref h1, .ref h24, .int 0, .int 0, .int 0, .int 0, .int 0])), (h11, .inl (cS, 4, .inr (.inr (.inr (.inr (fun k => [h25, h26, h27, h28][k]?)))))), (h12, .inr (9, [.ref h1, .ref h2, .ref h29, .ref h30, .ref h31, .int 0])), (h13, .inr (9, [.ref h1, .ref h2, .ref h32, .ref h33, .ref h34, .int 0])), (h14, .inr (7, [.ref h35, .ref h36])), (h15, .inl (cI, 12, .inl (fun _ => 0))), (h16, .inr (1, [.ref h37, .int 1])), (h17, .inr (1, [.ref h38, .int 1])), (h18, .inl (cI, 5, .inl (fun _ => 0))), (h19, .inl (cI, 12, .inl (fun _ => 0))), (h20, .inr (1, [.ref h39, .int 1])), (h21, .inr (1, [.ref h40, .int 1])), (h22, .inl (cI, 12, .inl (fun _ => 0))), (h24, .inl (cI, 12, .inl (fun _ => 0))), (h25, .inr (6, [.ref h41, .int (-1), .int 0])), (h26, .inr (6, [.ref h42, .int (-1), .int 0])), (h27, .inr (6, [.ref h43, .int (-1), .int 0])), (h28, .inr (6, [.ref h44, .int (-1), .int 0])), (h29, .inl (cI, 12, .inl (fun _ => 0))), (h30, .inl (cI, 12, .inl (fun _ => 0))), (h31, .inl (cI, 12, .inl (fun _ => 0))), (h32, .inl (cI, 12, .inl (fun _ => 0))), (h33, .inl (cI, 12, .inl (fun _ => 0))), (h34, .inl (cI, 12, .inl (fun _ => 0))), (h35, .inl (cI, 4, .inl (fun _ => -1))), (h36, .inl (cI, 4, .inl (fun _ => 0))), (h37, .inl (cI, 4096, .inl (fun _ => 0))), (h38, .inl (cI, 0, .inl (fun _ => 0))), (h39, .inl (cI, 4096, .inl (fun _ => 0))), (h40, .inl (cI, 0, .inl (fun _ => 0))), (h41, .inl (cI, 40, .inl (fun _ => 0))), (h42, .inl (cI, 40, .inl (fun _ => 0))), (h43, .inl (cI, 40, .inl (fun _ => 0))), (h44, .inl (cI, 40, .inl (fun _ => 0))), (h9, .inr (8, [.ref h23, .int 1])), (h23, .inl (cI, 120, .inl (upd (fun _ => 0) 0 (((Int32.toUInt32 x0 >>> (Int32.toUInt32 0 &&& Int32.toUInt32 31)).toInt32) &&& (255 : Int32)))))] := hD
            refine lv_iinc (v := (-1)) (lv' := [(3, .int (-1)), (0, .ref h0), (1, .int x0), (2, .int 1)]) hx hb dX11_feed_55 hl (k := 0) rfl (by decide) (by decide) rfl (fun ls hl => ?_)
            refine lv_goto (tgt := 34) hx hb dX11_feed_58 (by decide) ?_
            refine lv_iload_n hx hb dX11_feed_34 rfl (lv_at hl 0 rfl) ?_
            refine lv_if_lt (tgt := 61) hx hb dX11_feed_35 (by decide) (fun c1788 => ?_) (fun c1788 => ?_)
            · refine lv_aload_n hx hb dX11_feed_61 rfl (lv_at hl 1 rfl) ?_
              refine va_get (D := D) (ci := 11) (v := .ref h9) (C := RX11) (T := TX11) (N := 16) hx hb hts hin11 hown hK hP 0 rfl rfl 10 (by decide) (hts (.fieldLink RX11 60 "MissedPoints" "tape" "LMissedPoints$Tape;") (by decide +kernel)) (fun _ h9 => h9) rfl dX11_feed_62 ?_
              refine va_getN (D := D) (ci := 8) (v := .int 1) (C := RX8) (T := TX8) (N := 2) hx hb hts hin8 hown hK hP 43 rfl rfl 1 (by decide) (va_Nw.use rfl hN.1) (fun _ h9 => h9) rfl dX11_feed_65 ?_
              have hP9 := hP.sub (ws' := []) [] rfl
              have hD9 := hD.sub (ws' := []) [] (by decide) rfl
              subst hAe
              exact W.iret (v := 1) hx hb hr (fun t ht hW => ⟨⟨_, (), rfl, by rw [if_neg c1781, if_pos c1782, if_pos rfl], by rw [ht]; exact hP9, hD9⟩, hS.F ht⟩) hS.2.2 dX11_feed_68
            · exact absurd c1788 (by decide)
        · by_cases k1789 : x1 = 2
          · subst k1789
            refine lv_iload_n hx hb dX11_feed_30 rfl (lv_at hl 2 rfl) ?_
            refine lv_iconst (v := 1) hx hb dX11_feed_31 (by decide) ?_
            refine lv_isub hx hb dX11_feed_32 ?_
            refine lz_top (y := 1) (by decide) ?_
            refine lv_istore_n (lv' := [(3, .int 1), (0, .ref h0), (1, .int x0), (2, .int 2)]) hx hb dX11_feed_33 rfl hl (by decide) rfl (fun ls hl => ?_)
            refine lv_iload_n hx hb dX11_feed_34 rfl (lv_at hl 0 rfl) ?_
            refine lv_if_lt (tgt := 61) hx hb dX11_feed_35 (by decide) (fun c1790 => ?_) (fun c1790 => ?_)
            · exact absurd c1790 (by decide)
            · refine lv_aload_n hx hb dX11_feed_38 rfl (lv_at hl 1 rfl) ?_
              refine va_get (D := D) (ci := 11) (v := .ref h9) (C := RX11) (T := TX11) (N := 16) hx hb hts hin11 hown hK hP 0 rfl rfl 10 (by decide) (hts (.fieldLink RX11 60 "MissedPoints" "tape" "LMissedPoints$Tape;") (by decide +kernel)) (fun _ h9 => h9) rfl dX11_feed_39 ?_
              refine lv_iload_n hx hb dX11_feed_42 rfl (lv_at hl 2 rfl) ?_
              refine lv_bipush (v := 8) hx hb dX11_feed_43 (by decide) ?_
              refine lv_iload_n hx hb dX11_feed_45 rfl (lv_at hl 0 rfl) ?_
              refine lv_imul hx hb dX11_feed_46 ?_
              refine lz_top (y := 8) (by decide) ?_
              refine lv_iushr (v := (Int32.toUInt32 x0 >>> (Int32.toUInt32 8 &&& Int32.toUInt32 31)).toInt32) hx hb dX11_feed_47 rfl ?_
              refine lv_sipush (v := 255) hx hb dX11_feed_48 (by decide) ?_
              refine lv_iand hx hb dX11_feed_51 ?_
              have hPc := hP.sub (ws' := [(h9, .inr (8, [.ref h23, .int 0])), (h23, .inl (cI, 120, .inl (fun _ => 0)))]) [9, 23] rfl
              have hDc := hD.sub (ws' := [(h9, .inr (8, [.ref h23, .int 0])), (h23, .inl (cI, 120, .inl (fun _ => 0)))]) [9, 23] (by decide) rfl
              refine lz_qv (wr := [(h0, .inr (11, [.ref h1, .ref h2, .ref h3, .ref h4, .ref h5, .ref h6, .ref h7, .int 0, .int 0, .ref h8, .ref h9, .ref h10, .ref h11, .ref h12, .ref h13, .ref h14])), (h1, .inr (2, [.ref h15, .int 0, .int 0])), (h2, .inr (3, [.ref h1, .ref h16, .ref h17, .int 0])), (h3, .inr (4, [.ref h1, .ref h2])), (h4, .inr (10, [.ref h1, .ref h2, .ref h18, .int 0, .int 0, .int 0, .int 0, .int (-1)])), (h5, .inr (2, [.ref h19, .int 0, .int 0])), (h6, .inr (3, [.ref h5, .ref h20, .ref h21, .int 0])), (h7, .inr (2, [.ref h22, .int 0, .int 0])), (h8, .inr (0, [.int 1])), (h10, .inr (5, [.ref h9, .ref h1, .ref h24, .int 0, .int 0, .int 0, .int 0, .int 0])), (h11, .inl (cS, 4, .inr (.inr (.inr (.inr (fun k => [h25, h26, h27, h28][k]?)))))), (h12, .inr (9, [.ref h1, .ref h2, .ref h29, .ref h30, .ref h31, .int 0])), (h13, .inr (9, [.ref h1, .ref h2, .ref h32, .ref h33, .ref h34, .int 0])), (h14, .inr (7, [.ref h35, .ref h36])), (h15, .inl (cI, 12, .inl (fun _ => 0))), (h16, .inr (1, [.ref h37, .int 1])), (h17, .inr (1, [.ref h38, .int 1])), (h18, .inl (cI, 5, .inl (fun _ => 0))), (h19, .inl (cI, 12, .inl (fun _ => 0))), (h20, .inr (1, [.ref h39, .int 1])), (h21, .inr (1, [.ref h40, .int 1])), (h22, .inl (cI, 12, .inl (fun _ => 0))), (h24, .inl (cI, 12, .inl (fun _ => 0))), (h25, .inr (6, [.ref h41, .int (-1), .int 0])), (h26, .inr (6, [.ref h42, .int (-1), .int 0])), (h27, .inr (6, [.ref h43, .int (-1), .int 0])), (h28, .inr (6, [.ref h44, .int (-1), .int 0])), (h29, .inl (cI, 12, .inl (fun _ => 0))), (h30, .inl (cI, 12, .inl (fun _ => 0))), (h31, .inl (cI, 12, .inl (fun _ => 0))), (h32, .inl (cI, 12, .inl (fun _ => 0))), (h33, .inl (cI, 12, .inl (fun _ => 0))), (h34, .inl (cI, 12, .inl (fun _ => 0))), (h35, .inl (cI, 4, .inl (fun _ => -1))), (h36, .inl (cI, 4, .inl (fun _ => 0))), (h37, .inl (cI, 4096, .inl (fun _ => 0))), (h38, .inl (cI, 0, .inl (fun _ => 0))), (h39, .inl (cI, 4096, .inl (fun _ => 0))), (h40, .inl (cI, 0, .inl (fun _ => 0))), (h41, .inl (cI, 40, .inl (fun _ => 0))), (h42, .inl (cI, 40, .inl (fun _ => 0))), (h43, .inl (cI, 40, .inl (fun _ => 0))), (h44, .inl (cI, 40, .inl (fun _ => 0)))]) (w1 := [(h9, .inr (8, [.ref h23, .int 1])), (h23, .inl (cI, 120, .inl (upd (fun _ => 0) 0 (((Int32.toUInt32 x0 >>> (Int32.toUInt32 8 &&& Int32.toUInt32 31)).toInt32) &&& (255 : Int32)))))]) (As := [.int (((Int32.toUInt32 x0 >>> (Int32.toUInt32 8 &&& Int32.toUInt32 31)).toInt32) &&& (255 : Int32))]) (rest := []) ⟨hx, hb, hml, hown, hts⟩ (c_X8_append_0 l D cI cS H.size h9 h23 (((Int32.toUInt32 x0 >>> (Int32.toUInt32 8 &&& Int32.toUInt32 31)).toInt32) &&& (255 : Int32))) hKK hP hD hS hA [9, 23] [0, 1, 2, 3, 4, 5, 6, 7, 8, 10, 11, 12, 13, 14, 15, 16, 17, 18, 19, 20, 21, 22, 24, 25, 26, 27, 28, 29, 30, 31, 32, 33, 34, 35, 36, 37, 38, 39, 40, 41, 42, 43, 44] (by decide) rfl rfl (by decide) (by decide) hPc hDc (ci := 8) rfl rfl (cwV 1 hts gX11_feed_X8_append rfl rfl rfl (by decide +kernel) ⟨Nat.le_of_ble_eq_true rfl, Nat.le_of_ble_eq_true rfl⟩) rfl hl.1 rfl (Nat.le_of_ble_eq_true rfl) dX11_feed_52 ⟨Nat.le_of_ble_eq_true rfl, Nat.le_of_ble_eq_true rfl⟩ (fun H locs hP hD hS => ?_)
              have hP : va_P D cls [(h0, .inr (11, [.ref h1, .ref h2, .ref h3, .ref h4, .ref h5, .ref h6, .ref h7, .int 0, .int 0, .ref h8, .ref h9, .ref h10, .ref h11, .ref h12, .ref h13, .ref h14])), (h1, .inr (2, [.ref h15, .int 0, .int 0])), (h2, .inr (3, [.ref h1, .ref h16, .ref h17, .int 0])), (h3, .inr (4, [.ref h1, .ref h2])), (h4, .inr (10, [.ref h1, .ref h2, .ref h18, .int 0, .int 0, .int 0, .int 0, .int (-1)])), (h5, .inr (2, [.ref h19, .int 0, .int 0])), (h6, .inr (3, [.ref h5, .ref h20, .ref h21, .int 0])), (h7, .inr (2, [.ref h22, .int 0, .int 0])), (h8, .inr (0, [.int 1])), (h10, .inr (5, [.ref h9, .ref h1, .ref h24, .int 0, .int 0, .int 0, .int 0, .int 0])), (h11, .inl (cS, 4, .inr (.inr (.inr (.inr (fun k => [h25, h26, h27, h28][k]?)))))), (h12, .inr (9, [.ref h1, .ref h2, .ref h29, .ref h30, .ref h31, .int 0])), (h13, .inr (9, [.ref h1, .ref h2, .ref h32, .ref h33, .ref h34, .int 0])), (h14, .inr (7, [.ref h35, .ref h36])), (h15, .inl (cI, 12, .inl (fun _ => 0))), (h16, .inr (1, [.ref h37, .int 1])), (h17, .inr (1, [.ref h38, .int 1])), (h18, .inl (cI, 5, .inl (fun _ => 0))), (h19, .inl (cI, 12, .inl (fun _ => 0))), (h20, .inr (1, [.ref h39, .int 1])), (h21, .inr (1, [.ref h40, .int 1])), (h22, .inl (cI, 12, .inl (fun _ => 0))), (h24, .inl (cI, 12, .inl (fun _ => 0))), (h25, .inr (6, [.ref h41, .int (-1), .int 0])), (h26, .inr (6, [.ref h42, .int (-1), .int 0])), (h27, .inr (6, [.ref h43, .int (-1), .int 0])), (h28, .inr (6, [.ref h44, .int (-1), .int 0])), (h29, .inl (cI, 12, .inl (fun _ => 0))), (h30, .inl (cI, 12, .inl (fun _ => 0))), (h31, .inl (cI, 12, .inl (fun _ => 0))), (h32, .inl (cI, 12, .inl (fun _ => 0))), (h33, .inl (cI, 12, .inl (fun _ => 0))), (h34, .inl (cI, 12, .inl (fun _ => 0))), (h35, .inl (cI, 4, .inl (fun _ => -1))), (h36, .inl (cI, 4, .inl (fun _ => 0))), (h37, .inl (cI, 4096, .inl (fun _ => 0))), (h38, .inl (cI, 0, .inl (fun _ => 0))), (h39, .inl (cI, 4096, .inl (fun _ => 0))), (h40, .inl (cI, 0, .inl (fun _ => 0))), (h41, .inl (cI, 40, .inl (fun _ => 0))), (h42, .inl (cI, 40, .inl (fun _ => 0))), (h43, .inl (cI, 40, .inl (fun _ => 0))), (h44, .inl (cI, 40, .inl (fun _ => 0))), (h9, .inr (8, [.ref h23, .int 1])), (h23, .inl (cI, 120, .inl (upd (fun _ => 0) 0 (((Int32.toUInt32 x0 >>> (Int32.toUInt32 8 &&& Int32.toUInt32 31)).toInt32) &&& (255 : Int32)))))] H := hP
              have hD : va_D A [(h0, .inr (11, [.ref h1, .ref h2, .ref h3, .ref h4, .ref h5, .ref h6, .ref h7, .int 0, .int 0, .ref h8, .ref h9, .ref h10, .ref h11, .ref h12, .ref h13, .ref h14])), (h1, .inr (2, [.ref h15, .int 0, .int 0])), (h2, .inr (3, [.ref h1, .ref h16, .ref h17, .int 0])), (h3, .inr (4, [.ref h1, .ref h2])), (h4, .inr (10, [.ref h1, .ref h2, .ref h18, .int 0, .int 0, .int 0, .int 0, .int (-1)])), (h5, .inr (2, [.ref h19, .int 0, .int 0])), (h6, .inr (3, [.ref h5, .ref h20, .ref h21, .int 0])), (h7, .inr (2, [.ref h22, .int 0, .int 0])), (h8, .inr (0, [.int 1])), (h10, .inr (5, [.ref h9, .ref h1, .ref h24, .int 0, .int 0, .int 0, .int 0, .int 0])), (h11, .inl (cS, 4, .inr (.inr (.inr (.inr (fun k => [h25, h26, h27, h28][k]?)))))), (h12, .inr (9, [.ref h1, .ref h2, .ref h29, .ref h30, .ref h31, .int 0])), (h13, .inr (9, [.ref h1, .ref h2, .ref h32, .ref h33, .ref h34, .int 0])), (h14, .inr (7, [.ref h35, .ref h36])), (h15, .inl (cI, 12, .inl (fun _ => 0))), (h16, .inr (1, [.ref h37, .int 1])), (h17, .inr (1, [.ref h38, .int 1])), (h18, .inl (cI, 5, .inl (fun _ => 0))), (h19, .inl (cI, 12, .inl (fun _ => 0))), (h20, .inr (1, [.ref h39, .int 1])), (h21, .inr (1, [.ref h40, .int 1])), (h22, .inl (cI, 12, .inl (fun _ => 0))), (h24, .inl (cI, 12, .inl (fun _ => 0))), (h25, .inr (6, [.ref h41, .int (-1), .int 0])), (h26, .inr (6, [.ref h42, .int (-1), .int 0])), (h27, .inr (6, [.ref h43, .int (-1), .int 0])), (h28, .inr (6, [.ref h44, .int (-1), .int 0])), (h29, .inl (cI, 12, .inl (fun _ => 0))), (h30, .inl (cI, 12, .inl (fun _ => 0))), (h31, .inl (cI, 12, .inl (fun _ => 0))), (h32, .inl (cI, 12, .inl (fun _ => 0))), (h33, .inl (cI, 12, .inl (fun _ => 0))), (h34, .inl (cI, 12, .inl (fun _ => 0))), (h35, .inl (cI, 4, .inl (fun _ => -1))), (h36, .inl (cI, 4, .inl (fun _ => 0))), (h37, .inl (cI, 4096, .inl (fun _ => 0))), (h38, .inl (cI, 0, .inl (fun _ => 0))), (h39, .inl (cI, 4096, .inl (fun _ => 0))), (h40, .inl (cI, 0, .inl (fun _ => 0))), (h41, .inl (cI, 40, .inl (fun _ => 0))), (h42, .inl (cI, 40, .inl (fun _ => 0))), (h43, .inl (cI, 40, .inl (fun _ => 0))), (h44, .inl (cI, 40, .inl (fun _ => 0))), (h9, .inr (8, [.ref h23, .int 1])), (h23, .inl (cI, 120, .inl (upd (fun _ => 0) 0 (((Int32.toUInt32 x0 >>> (Int32.toUInt32 8 &&& Int32.toUInt32 31)).toInt32) &&& (255 : Int32)))))] := hD
              refine lv_iinc (v := 0) (lv' := [(3, .int 0), (0, .ref h0), (1, .int x0), (2, .int 2)]) hx hb dX11_feed_55 hl (k := 0) rfl (by decide) (by decide) rfl (fun ls hl => ?_)
              refine lv_goto (tgt := 34) hx hb dX11_feed_58 (by decide) ?_
              refine lv_iload_n hx hb dX11_feed_34 rfl (lv_at hl 0 rfl) ?_
              refine lv_if_lt (tgt := 61) hx hb dX11_feed_35 (by decide) (fun c1792 => ?_) (fun c1792 => ?_)
              · exact absurd c1792 (by decide)
              · refine lv_aload_n hx hb dX11_feed_38 rfl (lv_at hl 1 rfl) ?_
                refine va_get (D := D) (ci := 11) (v := .ref h9) (C := RX11) (T := TX11) (N := 16) hx hb hts hin11 hown hK hP 0 rfl rfl 10 (by decide) (hts (.fieldLink RX11 60 "MissedPoints" "tape" "LMissedPoints$Tape;") (by decide +kernel)) (fun _ h9 => h9) rfl dX11_feed_39 ?_
                refine lv_iload_n hx hb dX11_feed_42 rfl (lv_at hl 2 rfl) ?_
                refine lv_bipush (v := 8) hx hb dX11_feed_43 (by decide) ?_
                refine lv_iload_n hx hb dX11_feed_45 rfl (lv_at hl 0 rfl) ?_
                refine lv_imul hx hb dX11_feed_46 ?_
                refine lz_top (y := 0) (by decide) ?_
                refine lv_iushr (v := (Int32.toUInt32 x0 >>> (Int32.toUInt32 0 &&& Int32.toUInt32 31)).toInt32) hx hb dX11_feed_47 rfl ?_
                refine lv_sipush (v := 255) hx hb dX11_feed_48 (by decide) ?_
                refine lv_iand hx hb dX11_feed_51 ?_
                have hPc := hP.sub (ws' := [(h9, .inr (8, [.ref h23, .int 1])), (h23, .inl (cI, 120, .inl (upd (fun _ => 0) 0 (((Int32.toUInt32 x0 >>> (Int32.toUInt32 8 &&& Int32.toUInt32 31)).toInt32) &&& (255 : Int32)))))]) [43, 44] rfl
                have hDc := hD.sub (ws' := [(h9, .inr (8, [.ref h23, .int 1])), (h23, .inl (cI, 120, .inl (upd (fun _ => 0) 0 (((Int32.toUInt32 x0 >>> (Int32.toUInt32 8 &&& Int32.toUInt32 31)).toInt32) &&& (255 : Int32)))))]) [43, 44] (by decide) rfl
                refine lz_qv (wr := [(h0, .inr (11, [.ref h1, .ref h2, .ref h3, .ref h4, .ref h5, .ref h6, .ref h7, .int 0, .int 0, .ref h8, .ref h9, .ref h10, .ref h11, .ref h12, .ref h13, .ref h14])), (h1, .inr (2, [.ref h15, .int 0, .int 0])), (h2, .inr (3, [.ref h1, .ref h16, .ref h17, .int 0])), (h3, .inr (4, [.ref h1, .ref h2])), (h4, .inr (10, [.ref h1, .ref h2, .ref h18, .int 0, .int 0, .int 0, .int 0, .int (-1)])), (h5, .inr (2, [.ref h19, .int 0, .int 0])), (h6, .inr (3, [.ref h5, .ref h20, .ref h21, .int 0])), (h7, .inr (2, [.ref h22, .int 0, .int 0])), (h8, .inr (0, [.int 1])), (h10, .inr (5, [.ref h9, .ref h1, .ref h24, .int 0, .int 0, .int 0, .int 0, .int 0])), (h11, .inl (cS, 4, .inr (.inr (.inr (.inr (fun k => [h25, h26, h27, h28][k]?)))))), (h12, .inr (9, [.ref h1, .ref h2, .ref h29, .ref h30, .ref h31, .int 0])), (h13, .inr (9, [.ref h1, .ref h2, .ref h32, .ref h33, .ref h34, .int 0])), (h14, .inr (7, [.ref h35, .ref h36])), (h15, .inl (cI, 12, .inl (fun _ => 0))), (h16, .inr (1, [.ref h37, .int 1])), (h17, .inr (1, [.ref h38, .int 1])), (h18, .inl (cI, 5, .inl (fun _ => 0))), (h19, .inl (cI, 12, .inl (fun _ => 0))), (h20, .inr (1, [.ref h39, .int 1])), (h21, .inr (1, [.ref h40, .int 1])), (h22, .inl (cI, 12, .inl (fun _ => 0))), (h24, .inl (cI, 12, .inl (fun _ => 0))), (h25, .inr (6, [.ref h41, .int (-1), .int 0])), (h26, .inr (6, [.ref h42, .int (-1), .int 0])), (h27, .inr (6, [.ref h43, .int (-1), .int 0])), (h28, .inr (6, [.ref h44, .int (-1), .int 0])), (h29, .inl (cI, 12, .inl (fun _ => 0))), (h30, .inl (cI, 12, .inl (fun _ => 0))), (h31, .inl (cI, 12, .inl (fun _ => 0))), (h32, .inl (cI, 12, .inl (fun _ => 0))), (h33, .inl (cI, 12, .inl (fun _ => 0))), (h34, .inl (cI, 12, .inl (fun _ => 0))), (h35, .inl (cI, 4, .inl (fun _ => -1))), (h36, .inl (cI, 4, .inl (fun _ => 0))), (h37, .inl (cI, 4096, .inl (fun _ => 0))), (h38, .inl (cI, 0, .inl (fun _ => 0))), (h39, .inl (cI, 4096, .inl (fun _ => 0))), (h40, .inl (cI, 0, .inl (fun _ => 0))), (h41, .inl (cI, 40, .inl (fun _ => 0))), (h42, .inl (cI, 40, .inl (fun _ => 0))), (h43, .inl (cI, 40, .inl (fun _ => 0))), (h44, .inl (cI, 40, .inl (fun _ => 0)))]) (w1 := [(h9, .inr (8, [.ref h23, .int 2])), (h23, .inl (cI, 120, .inl (upd (upd (fun _ => 0) 0 (((Int32.toUInt32 x0 >>> (Int32.toUInt32 8 &&& Int32.toUInt32 31)).toInt32) &&& (255 : Int32))) 1 (((Int32.toUInt32 x0 >>> (Int32.toUInt32 0 &&& Int32.toUInt32 31)).toInt32) &&& (255 : Int32)))))]) (As := [.int (((Int32.toUInt32 x0 >>> (Int32.toUInt32 0 &&& Int32.toUInt32 31)).toInt32) &&& (255 : Int32))]) (rest := []) ⟨hx, hb, hml, hown, hts⟩ (c_X8_append_1 l D cI cS H.size h9 h23 ((upd (fun _ => 0) 0 (((Int32.toUInt32 x0 >>> (Int32.toUInt32 8 &&& Int32.toUInt32 31)).toInt32) &&& (255 : Int32)))) (((Int32.toUInt32 x0 >>> (Int32.toUInt32 0 &&& Int32.toUInt32 31)).toInt32) &&& (255 : Int32))) hKK hP hD hS hA [43, 44] [0, 1, 2, 3, 4, 5, 6, 7, 8, 9, 10, 11, 12, 13, 14, 15, 16, 17, 18, 19, 20, 21, 22, 23, 24, 25, 26, 27, 28, 29, 30, 31, 32, 33, 34, 35, 36, 37, 38, 39, 40, 41, 42] (by decide) rfl rfl (by decide) (by decide) hPc hDc (ci := 8) rfl rfl (cwV 1 hts gX11_feed_X8_append rfl rfl rfl (by decide +kernel) ⟨Nat.le_of_ble_eq_true rfl, Nat.le_of_ble_eq_true rfl⟩) rfl hl.1 rfl (Nat.le_of_ble_eq_true rfl) dX11_feed_52 ⟨Nat.le_of_ble_eq_true rfl, Nat.le_of_ble_eq_true rfl⟩ (fun H locs hP hD hS => ?_)
                have hP : va_P D cls [(h0, .inr (11, [.ref h1, .ref h2, .ref h3, .ref h4, .ref h5, .ref h6, .ref h7, .int 0, .int 0, .ref h8, .ref h9, .ref h10, .ref h11, .ref h12, .ref h13, .ref h14])), (h1, .inr (2, [.ref h15, .int 0, .int 0])), (h2, .inr (3, [.ref h1, .ref h16, .ref h17, .int 0])), (h3, .inr (4, [.ref h1, .ref h2])), (h4, .inr (10, [.ref h1, .ref h2, .ref h18, .int 0, .int 0, .int 0, .int 0, .int (-1)])), (h5, .inr (2, [.ref h19, .int 0, .int 0])), (h6, .inr (3, [.ref h5, .ref h20, .ref h21, .int 0])), (h7, .inr (2, [.ref h22, .int 0, .int 0])), (h8, .inr (0, [.int 1])), (h10, .inr (5, [.ref h9, .ref h1, .ref h24, .int 0, .int 0, .int 0, .int 0, .int 0])), (h11, .inl (cS, 4, .inr (.inr (.inr (.inr (fun k => [h25, h26, h27, h28][k]?)))))), (h12, .inr (9, [.ref h1, .ref h2, .ref h29, .ref h30, .ref h31, .int 0])), (h13, .inr (9, [.ref h1, .ref h2, .ref h32, .ref h33, .ref h34, .int 0])), (h14, .inr (7, [.ref h35, .ref h36])), (h15, .inl (cI, 12, .inl (fun _ => 0))), (h16, .inr (1, [.ref h37, .int 1])), (h17, .inr (1, [.ref h38, .int 1])), (h18, .inl (cI, 5, .inl (fun _ => 0))), (h19, .inl (cI, 12, .inl (fun _ => 0))), (h20, .inr (1, [.ref h39, .int 1])), (h21, .inr (1, [.ref h40, .int 1])), (h22, .inl (cI, 12, .inl (fun _ => 0))), (h24, .inl (cI, 12, .inl (fun _ => 0))), (h25, .inr (6, [.ref h41, .int (-1), .int 0])), (h26, .inr (6, [.ref h42, .int (-1), .int 0])), (h27, .inr (6, [.ref h43, .int (-1), .int 0])), (h28, .inr (6, [.ref h44, .int (-1), .int 0])), (h29, .inl (cI, 12, .inl (fun _ => 0))), (h30, .inl (cI, 12, .inl (fun _ => 0))), (h31, .inl (cI, 12, .inl (fun _ => 0))), (h32, .inl (cI, 12, .inl (fun _ => 0))), (h33, .inl (cI, 12, .inl (fun _ => 0))), (h34, .inl (cI, 12, .inl (fun _ => 0))), (h35, .inl (cI, 4, .inl (fun _ => -1))), (h36, .inl (cI, 4, .inl (fun _ => 0))), (h37, .inl (cI, 4096, .inl (fun _ => 0))), (h38, .inl (cI, 0, .inl (fun _ => 0))), (h39, .inl (cI, 4096, .inl (fun _ => 0))), (h40, .inl (cI, 0, .inl (fun _ => 0))), (h41, .inl (cI, 40, .inl (fun _ => 0))), (h42, .inl (cI, 40, .inl (fun _ => 0))), (h43, .inl (cI, 40, .inl (fun _ => 0))), (h44, .inl (cI, 40, .inl (fun _ => 0))), (h9, .inr (8, [.ref h23, .int 2])), (h23, .inl (cI, 120, .inl (upd (upd (fun _ => 0) 0 (((Int32.toUInt32 x0 >>> (Int32.toUInt32 8 &&& Int32.toUInt32 31)).toInt32) &&& (255 : Int32))) 1 (((Int32.toUInt32 x0 >>> (Int32.toUInt32 0 &&& Int32.toUInt32 31)).toInt32) &&& (255 : Int32)))))] H := hP
                have hD : va_D A [(h0, .inr (11, [.ref h1, .ref h2, .ref h3, .ref h4, .ref h5, .ref h6, .ref h7, .int 0, .int 0, .ref h8, .ref h9, .ref h10, .ref h11, .ref h12, .ref h13, .ref h14])), (h1, .inr (2, [.ref h15, .int 0, .int 0])), (h2, .inr (3, [.ref h1, .ref h16, .ref h17, .int 0])), (h3, .inr (4, [.ref h1, .ref h2])), (h4, .inr (10, [.ref h1, .ref h2, .ref h18, .int 0, .int 0, .int 0, .int 0, .int (-1)])), (h5, .inr (2, [.ref h19, .int 0, .int 0])), (h6, .inr (3, [.ref h5, .ref h20, .ref h21, .int 0])), (h7, .inr (2, [.ref h22, .int 0, .int 0])), (h8, .inr (0, [.int 1])), (h10, .inr (5, [.ref h9, .ref h1, .ref h24, .int 0, .int 0, .int 0, .int 0, .int 0])), (h11, .inl (cS, 4, .inr (.inr (.inr (.inr (fun k => [h25, h26, h27, h28][k]?)))))), (h12, .inr (9, [.ref h1, .ref h2, .ref h29, .ref h30, .ref h31, .int 0])), (h13, .inr (9, [.ref h1, .ref h2, .ref h32, .ref h33, .ref h34, .int 0])), (h14, .inr (7, [.ref h35, .ref h36])), (h15, .inl (cI, 12, .inl (fun _ => 0))), (h16, .inr (1, [.ref h37, .int 1])), (h17, .inr (1, [.ref h38, .int 1])), (h18, .inl (cI, 5, .inl (fun _ => 0))), (h19, .inl (cI, 12, .inl (fun _ => 0))), (h20, .inr (1, [.ref h39, .int 1])), (h21, .inr (1, [.ref h40, .int 1])), (h22, .inl (cI, 12, .inl (fun _ => 0))), (h24, .inl (cI, 12, .inl (fun _ => 0))), (h25, .inr (6, [.ref h41, .int (-1), .int 0])), (h26, .inr (6, [.ref h42, .int (-1), .int 0])), (h27, .inr (6, [.ref h43, .int (-1), .int 0])), (h28, .inr (6, [.ref h44, .int (-1), .int 0])), (h29, .inl (cI, 12, .inl (fun _ => 0))), (h30, .inl (cI, 12, .inl (fun _ => 0))), (h31, .inl (cI, 12, .inl (fun _ => 0))), (h32, .inl (cI, 12, .inl (fun _ => 0))), (h33, .inl (cI, 12, .inl (fun _ => 0))), (h34, .inl (cI, 12, .inl (fun _ => 0))), (h35, .inl (cI, 4, .inl (fun _ => -1))), (h36, .inl (cI, 4, .inl (fun _ => 0))), (h37, .inl (cI, 4096, .inl (fun _ => 0))), (h38, .inl (cI, 0, .inl (fun _ => 0))), (h39, .inl (cI, 4096, .inl (fun _ => 0))), (h40, .inl (cI, 0, .inl (fun _ => 0))), (h41, .inl (cI, 40, .inl (fun _ => 0))), (h42, .inl (cI, 40, .inl (fun _ => 0))), (h43, .inl (cI, 40, .inl (fun _ => 0))), (h44, .inl (cI, 40, .inl (fun _ => 0))), (h9, .inr (8, [.ref h23, .int 2])), (h23, .inl (cI, 120, .inl (upd (upd (fun _ => 0) 0 (((Int32.toUInt32 x0 >>> (Int32.toUInt32 8 &&& Int32.toUInt32 31)).toInt32) &&& (255 : Int32))) 1 (((Int32.toUInt32 x0 >>> (Int32.toUInt32 0 &&& Int32.toUInt32 31)).toInt32) &&& (255 : Int32)))))] := hD
                refine lv_iinc (v := (-1)) (lv' := [(3, .int (-1)), (0, .ref h0), (1, .int x0), (2, .int 2)]) hx hb dX11_feed_55 hl (k := 0) rfl (by decide) (by decide) rfl (fun ls hl => ?_)
                refine lv_goto (tgt := 34) hx hb dX11_feed_58 (by decide) ?_
                refine lv_iload_n hx hb dX11_feed_34 rfl (lv_at hl 0 rfl) ?_
                refine lv_if_lt (tgt := 61) hx hb dX11_feed_35 (by decide) (fun c1795 => ?_) (fun c1795 => ?_)
                · refine lv_aload_n hx hb dX11_feed_61 rfl (lv_at hl 1 rfl) ?_
                  refine va_get (D := D) (ci := 11) (v := .ref h9) (C := RX11) (T := TX11) (N := 16) hx hb hts hin11 hown hK hP 0 rfl rfl 10 (by decide) (hts (.fieldLink RX11 60 "MissedPoints" "tape" "LMissedPoints$Tape;") (by decide +kernel)) (fun _ h9 => h9) rfl dX11_feed_62 ?_
                  refine va_getN (D := D) (ci := 8) (v := .int 2) (C := RX8) (T := TX8) (N := 2) hx hb hts hin8 hown hK hP 43 rfl rfl 1 (by decide) (va_Nw.use rfl hN.1) (fun _ h9 => h9) rfl dX11_feed_65 ?_
                  have hP9 := hP.sub (ws' := []) [] rfl
                  have hD9 := hD.sub (ws' := []) [] (by decide) rfl
                  subst hAe
                  exact W.iret (v := 2) hx hb hr (fun t ht hW => ⟨⟨_, (), rfl, by rw [if_neg c1781, if_pos c1782, if_neg k1784, if_pos rfl], by rw [ht]; exact hP9, hD9⟩, hS.F ht⟩) hS.2.2 dX11_feed_68
                · exact absurd c1795 (by decide)
          · by_cases k1796 : x1 = 3
            · subst k1796
              refine lv_iload_n hx hb dX11_feed_30 rfl (lv_at hl 2 rfl) ?_
              refine lv_iconst (v := 1) hx hb dX11_feed_31 (by decide) ?_
              refine lv_isub hx hb dX11_feed_32 ?_
              refine lz_top (y := 2) (by decide) ?_
              refine lv_istore_n (lv' := [(3, .int 2), (0, .ref h0), (1, .int x0), (2, .int 3)]) hx hb dX11_feed_33 rfl hl (by decide) rfl (fun ls hl => ?_)
              refine lv_iload_n hx hb dX11_feed_34 rfl (lv_at hl 0 rfl) ?_
              refine lv_if_lt (tgt := 61) hx hb dX11_feed_35 (by decide) (fun c1797 => ?_) (fun c1797 => ?_)
              · exact absurd c1797 (by decide)
              · refine lv_aload_n hx hb dX11_feed_38 rfl (lv_at hl 1 rfl) ?_
                refine va_get (D := D) (ci := 11) (v := .ref h9) (C := RX11) (T := TX11) (N := 16) hx hb hts hin11 hown hK hP 0 rfl rfl 10 (by decide) (hts (.fieldLink RX11 60 "MissedPoints" "tape" "LMissedPoints$Tape;") (by decide +kernel)) (fun _ h9 => h9) rfl dX11_feed_39 ?_
                refine lv_iload_n hx hb dX11_feed_42 rfl (lv_at hl 2 rfl) ?_
                refine lv_bipush (v := 8) hx hb dX11_feed_43 (by decide) ?_
                refine lv_iload_n hx hb dX11_feed_45 rfl (lv_at hl 0 rfl) ?_
                refine lv_imul hx hb dX11_feed_46 ?_
                refine lz_top (y := 16) (by decide) ?_
                refine lv_iushr (v := (Int32.toUInt32 x0 >>> (Int32.toUInt32 16 &&& Int32.toUInt32 31)).toInt32) hx hb dX11_feed_47 rfl ?_
                refine lv_sipush (v := 255) hx hb dX11_feed_48 (by decide) ?_
                refine lv_iand hx hb dX11_feed_51 ?_
                have hPc := hP.sub (ws' := [(h9, .inr (8, [.ref h23, .int 0])), (h23, .inl (cI, 120, .inl (fun _ => 0)))]) [9, 23] rfl
                have hDc := hD.sub (ws' := [(h9, .inr (8, [.ref h23, .int 0])), (h23, .inl (cI, 120, .inl (fun _ => 0)))]) [9, 23] (by decide) rfl
                refine lz_qv (wr := [(h0, .inr (11, [.ref h1, .ref h2, .ref h3, .ref h4, .ref h5, .ref h6, .ref h7, .int 0, .int 0, .ref h8, .ref h9, .ref h10, .ref h11, .ref h12, .ref h13, .ref h14])), (h1, .inr (2, [.ref h15, .int 0, .int 0])), (h2, .inr (3, [.ref h1, .ref h16, .ref h17, .int 0])), (h3, .inr (4, [.ref h1, .ref h2])), (h4, .inr (10, [.ref h1, .ref h2, .ref h18, .int 0, .int 0, .int 0, .int 0, .int (-1)])), (h5, .inr (2, [.ref h19, .int 0, .int 0])), (h6, .inr (3, [.ref h5, .ref h20, .ref h21, .int 0])), (h7, .inr (2, [.ref h22, .int 0, .int 0])), (h8, .inr (0, [.int 1])), (h10, .inr (5, [.ref h9, .ref h1, .ref h24, .int 0, .int 0, .int 0, .int 0, .int 0])), (h11, .inl (cS, 4, .inr (.inr (.inr (.inr (fun k => [h25, h26, h27, h28][k]?)))))), (h12, .inr (9, [.ref h1, .ref h2, .ref h29, .ref h30, .ref h31, .int 0])), (h13, .inr (9, [.ref h1, .ref h2, .ref h32, .ref h33, .ref h34, .int 0])), (h14, .inr (7, [.ref h35, .ref h36])), (h15, .inl (cI, 12, .inl (fun _ => 0))), (h16, .inr (1, [.ref h37, .int 1])), (h17, .inr (1, [.ref h38, .int 1])), (h18, .inl (cI, 5, .inl (fun _ => 0))), (h19, .inl (cI, 12, .inl (fun _ => 0))), (h20, .inr (1, [.ref h39, .int 1])), (h21, .inr (1, [.ref h40, .int 1])), (h22, .inl (cI, 12, .inl (fun _ => 0))), (h24, .inl (cI, 12, .inl (fun _ => 0))), (h25, .inr (6, [.ref h41, .int (-1), .int 0])), (h26, .inr (6, [.ref h42, .int (-1), .int 0])), (h27, .inr (6, [.ref h43, .int (-1), .int 0])), (h28, .inr (6, [.ref h44, .int (-1), .int 0])), (h29, .inl (cI, 12, .inl (fun _ => 0))), (h30, .inl (cI, 12, .inl (fun _ => 0))), (h31, .inl (cI, 12, .inl (fun _ => 0))), (h32, .inl (cI, 12, .inl (fun _ => 0))), (h33, .inl (cI, 12, .inl (fun _ => 0))), (h34, .inl (cI, 12, .inl (fun _ => 0))), (h35, .inl (cI, 4, .inl (fun _ => -1))), (h36, .inl (cI, 4, .inl (fun _ => 0))), (h37, .inl (cI, 4096, .inl (fun _ => 0))), (h38, .inl (cI, 0, .inl (fun _ => 0))), (h39, .inl (cI, 4096, .inl (fun _ => 0))), (h40, .inl (cI, 0, .inl (fun _ => 0))), (h41, .inl (cI, 40, .inl (fun _ => 0))), (h42, .inl (cI, 40, .inl (fun _ => 0))), (h43, .inl (cI, 40, .inl (fun _ => 0))), (h44, .inl (cI, 40, .inl (fun _ => 0)))]) (w1 := [(h9, .inr (8, [.ref h23, .int 1])), (h23, .inl (cI, 120, .inl (upd (fun _ => 0) 0 (((Int32.toUInt32 x0 >>> (Int32.toUInt32 16 &&& Int32.toUInt32 31)).toInt32) &&& (255 : Int32)))))]) (As := [.int (((Int32.toUInt32 x0 >>> (Int32.toUInt32 16 &&& Int32.toUInt32 31)).toInt32) &&& (255 : Int32))]) (rest := []) ⟨hx, hb, hml, hown, hts⟩ (c_X8_append_0 l D cI cS H.size h9 h23 (((Int32.toUInt32 x0 >>> (Int32.toUInt32 16 &&& Int32.toUInt32 31)).toInt32) &&& (255 : Int32))) hKK hP hD hS hA [9, 23] [0, 1, 2, 3, 4, 5, 6, 7, 8, 10, 11, 12, 13, 14, 15, 16, 17, 18, 19, 20, 21, 22, 24, 25, 26, 27, 28, 29, 30, 31, 32, 33, 34, 35, 36, 37, 38, 39, 40, 41, 42, 43, 44] (by decide) rfl rfl (by decide) (by decide) hPc hDc (ci := 8) rfl rfl (cwV 1 hts gX11_feed_X8_append rfl rfl rfl (by decide +kernel) ⟨Nat.le_of_ble_eq_true rfl, Nat.le_of_ble_eq_true rfl⟩) rfl hl.1 rfl (Nat.le_of_ble_eq_true rfl) dX11_feed_52 ⟨Nat.le_of_ble_eq_true rfl, Nat.le_of_ble_eq_true rfl⟩ (fun H locs hP hD hS => ?_)
                have hP : va_P D cls [(h0, .inr (11, [.ref h1, .ref h2, .ref h3, .ref h4, .ref h5, .ref h6, .ref h7, .int 0, .int 0, .ref h8, .ref h9, .ref h10, .ref h11, .ref h12, .ref h13, .ref h14])), (h1, .inr (2, [.ref h15, .int 0, .int 0])), (h2, .inr (3, [.ref h1, .ref h16, .ref h17, .int 0])), (h3, .inr (4, [.ref h1, .ref h2])), (h4, .inr (10, [.ref h1, .ref h2, .ref h18, .int 0, .int 0, .int 0, .int 0, .int (-1)])), (h5, .inr (2, [.ref h19, .int 0, .int 0])), (h6, .inr (3, [.ref h5, .ref h20, .ref h21, .int 0])), (h7, .inr (2, [.ref h22, .int 0, .int 0])), (h8, .inr (0, [.int 1])), (h10, .inr (5, [.ref h9, .ref h1, .ref h24, .int 0, .int 0, .int 0, .int 0, .int 0])), (h11, .inl (cS, 4, .inr (.inr (.inr (.inr (fun k => [h25, h26, h27, h28][k]?)))))), (h12, .inr (9, [.ref h1, .ref h2, .ref h29, .ref h30, .ref h31, .int 0])), (h13, .inr (9, [.ref h1, .ref h2, .ref h32, .ref h33, .ref h34, .int 0])), (h14, .inr (7, [.ref h35, .ref h36])), (h15, .inl (cI, 12, .inl (fun _ => 0))), (h16, .inr (1, [.ref h37, .int 1])), (h17, .inr (1, [.ref h38, .int 1])), (h18, .inl (cI, 5, .inl (fun _ => 0))), (h19, .inl (cI, 12, .inl (fun _ => 0))), (h20, .inr (1, [.ref h39, .int 1])), (h21, .inr (1, [.ref h40, .int 1])), (h22, .inl (cI, 12, .inl (fun _ => 0))), (h24, .inl (cI, 12, .inl (fun _ => 0))), (h25, .inr (6, [.ref h41, .int (-1), .int 0])), (h26, .inr (6, [.ref h42, .int (-1), .int 0])), (h27, .inr (6, [.ref h43, .int (-1), .int 0])), (h28, .inr (6, [.ref h44, .int (-1), .int 0])), (h29, .inl (cI, 12, .inl (fun _ => 0))), (h30, .inl (cI, 12, .inl (fun _ => 0))), (h31, .inl (cI, 12, .inl (fun _ => 0))), (h32, .inl (cI, 12, .inl (fun _ => 0))), (h33, .inl (cI, 12, .inl (fun _ => 0))), (h34, .inl (cI, 12, .inl (fun _ => 0))), (h35, .inl (cI, 4, .inl (fun _ => -1))), (h36, .inl (cI, 4, .inl (fun _ => 0))), (h37, .inl (cI, 4096, .inl (fun _ => 0))), (h38, .inl (cI, 0, .inl (fun _ => 0))), (h39, .inl (cI, 4096, .inl (fun _ => 0))), (h40, .inl (cI, 0, .inl (fun _ => 0))), (h41, .inl (cI, 40, .inl (fun _ => 0))), (h42, .inl (cI, 40, .inl (fun _ => 0))), (h43, .inl (cI, 40, .inl (fun _ => 0))), (h44, .inl (cI, 40, .inl (fun _ => 0))), (h9, .inr (8, [.ref h23, .int 1])), (h23, .inl (cI, 120, .inl (upd (fun _ => 0) 0 (((Int32.toUInt32 x0 >>> (Int32.toUInt32 16 &&& Int32.toUInt32 31)).toInt32) &&& (255 : Int32)))))] H := hP
                have hD : va_D A [(h0, .inr (11, [.ref h1, .ref h2, .ref h3, .ref h4, .ref h5, .ref h6, .ref h7, .int 0, .int 0, .ref h8, .ref h9, .ref h10, .ref h11, .ref h12, .ref h13, .ref h14])), (h1, .inr (2, [.ref h15, .int 0, .int 0])), (h2, .inr (3, [.ref h1, .ref h16, .ref h17, .int 0])), (h3, .inr (4, [.ref h1, .ref h2])), (h4, .inr (10, [.ref h1, .ref h2, .ref h18, .int 0, .int 0, .int 0, .int 0, .int (-1)])), (h5, .inr (2, [.ref h19, .int 0, .int 0])), (h6, .inr (3, [.ref h5, .ref h20, .ref h21, .int 0])), (h7, .inr (2, [.ref h22, .int 0, .int 0])), (h8, .inr (0, [.int 1])), (h10, .inr (5, [.ref h9, .ref h1, .ref h24, .int 0, .int 0, .int 0, .int 0, .int 0])), (h11, .inl (cS, 4, .inr (.inr (.inr (.inr (fun k => [h25, h26, h27, h28][k]?)))))), (h12, .inr (9, [.ref h1, .ref h2, .ref h29, .ref h30, .ref h31, .int 0])), (h13, .inr (9, [.ref h1, .ref h2, .ref h32, .ref h33, .ref h34, .int 0])), (h14, .inr (7, [.ref h35, .ref h36])), (h15, .inl (cI, 12, .inl (fun _ => 0))), (h16, .inr (1, [.ref h37, .int 1])), (h17, .inr (1, [.ref h38, .int 1])), (h18, .inl (cI, 5, .inl (fun _ => 0))), (h19, .inl (cI, 12, .inl (fun _ => 0))), (h20, .inr (1, [.ref h39, .int 1])), (h21, .inr (1, [.ref h40, .int 1])), (h22, .inl (cI, 12, .inl (fun _ => 0))), (h24, .inl (cI, 12, .inl (fun _ => 0))), (h25, .inr (6, [.ref h41, .int (-1), .int 0])), (h26, .inr (6, [.ref h42, .int (-1), .int 0])), (h27, .inr (6, [.ref h43, .int (-1), .int 0])), (h28, .inr (6, [.ref h44, .int (-1), .int 0])), (h29, .inl (cI, 12, .inl (fun _ => 0))), (h30, .inl (cI, 12, .inl (fun _ => 0))), (h31, .inl (cI, 12, .inl (fun _ => 0))), (h32, .inl (cI, 12, .inl (fun _ => 0))), (h33, .inl (cI, 12, .inl (fun _ => 0))), (h34, .inl (cI, 12, .inl (fun _ => 0))), (h35, .inl (cI, 4, .inl (fun _ => -1))), (h36, .inl (cI, 4, .inl (fun _ => 0))), (h37, .inl (cI, 4096, .inl (fun _ => 0))), (h38, .inl (cI, 0, .inl (fun _ => 0))), (h39, .inl (cI, 4096, .inl (fun _ => 0))), (h40, .inl (cI, 0, .inl (fun _ => 0))), (h41, .inl (cI, 40, .inl (fun _ => 0))), (h42, .inl (cI, 40, .inl (fun _ => 0))), (h43, .inl (cI, 40, .inl (fun _ => 0))), (h44, .inl (cI, 40, .inl (fun _ => 0))), (h9, .inr (8, [.ref h23, .int 1])), (h23, .inl (cI, 120, .inl (upd (fun _ => 0) 0 (((Int32.toUInt32 x0 >>> (Int32.toUInt32 16 &&& Int32.toUInt32 31)).toInt32) &&& (255 : Int32)))))] := hD
                refine lv_iinc (v := 1) (lv' := [(3, .int 1), (0, .ref h0), (1, .int x0), (2, .int 3)]) hx hb dX11_feed_55 hl (k := 0) rfl (by decide) (by decide) rfl (fun ls hl => ?_)
                refine lv_goto (tgt := 34) hx hb dX11_feed_58 (by decide) ?_
                refine lv_iload_n hx hb dX11_feed_34 rfl (lv_at hl 0 rfl) ?_
                refine lv_if_lt (tgt := 61) hx hb dX11_feed_35 (by decide) (fun c1799 => ?_) (fun c1799 => ?_)
                · exact absurd c1799 (by decide)
                · refine lv_aload_n hx hb dX11_feed_38 rfl (lv_at hl 1 rfl) ?_
                  refine va_get (D := D) (ci := 11) (v := .ref h9) (C := RX11) (T := TX11) (N := 16) hx hb hts hin11 hown hK hP 0 rfl rfl 10 (by decide) (hts (.fieldLink RX11 60 "MissedPoints" "tape" "LMissedPoints$Tape;") (by decide +kernel)) (fun _ h9 => h9) rfl dX11_feed_39 ?_
                  refine lv_iload_n hx hb dX11_feed_42 rfl (lv_at hl 2 rfl) ?_
                  refine lv_bipush (v := 8) hx hb dX11_feed_43 (by decide) ?_
                  refine lv_iload_n hx hb dX11_feed_45 rfl (lv_at hl 0 rfl) ?_
                  refine lv_imul hx hb dX11_feed_46 ?_
                  refine lz_top (y := 8) (by decide) ?_
                  refine lv_iushr (v := (Int32.toUInt32 x0 >>> (Int32.toUInt32 8 &&& Int32.toUInt32 31)).toInt32) hx hb dX11_feed_47 rfl ?_
                  refine lv_sipush (v := 255) hx hb dX11_feed_48 (by decide) ?_
                  refine lv_iand hx hb dX11_feed_51 ?_
                  have hPc := hP.sub (ws' := [(h9, .inr (8, [.ref h23, .int 1])), (h23, .inl (cI, 120, .inl (upd (fun _ => 0) 0 (((Int32.toUInt32 x0 >>> (Int32.toUInt32 16 &&& Int32.toUInt32 31)).toInt32) &&& (255 : Int32)))))]) [43, 44] rfl
                  have hDc := hD.sub (ws' := [(h9, .inr (8, [.ref h23, .int 1])), (h23, .inl (cI, 120, .inl (upd (fun _ => 0) 0 (((Int32.toUInt32 x0 >>> (Int32.toUInt32 16 &&& Int32.toUInt32 31)).toInt32) &&& (255 : Int32)))))]) [43, 44] (by decide) rfl
                  refine lz_qv (wr := [(h0, .inr (11, [.ref h1, .ref h2, .ref h3, .ref h4, .ref h5, .ref h6, .ref h7, .int 0, .int 0, .ref h8, .ref h9, .ref h10, .ref h11, .ref h12, .ref h13, .ref h14])), (h1, .inr (2, [.ref h15, .int 0, .int 0])), (h2, .inr (3, [.ref h1, .ref h16, .ref h17, .int 0])), (h3, .inr (4, [.ref h1, .ref h2])), (h4, .inr (10, [.ref h1, .ref h2, .ref h18, .int 0, .int 0, .int 0, .int 0, .int (-1)])), (h5, .inr (2, [.ref h19, .int 0, .int 0])), (h6, .inr (3, [.ref h5, .ref h20, .ref h21, .int 0])), (h7, .inr (2, [.ref h22, .int 0, .int 0])), (h8, .inr (0, [.int 1])), (h10, .inr (5, [.ref h9, .ref h1, .ref h24, .int 0, .int 0, .int 0, .int 0, .int 0])), (h11, .inl (cS, 4, .inr (.inr (.inr (.inr (fun k => [h25, h26, h27, h28][k]?)))))), (h12, .inr (9, [.ref h1, .ref h2, .ref h29, .ref h30, .ref h31, .int 0])), (h13, .inr (9, [.ref h1, .ref h2, .ref h32, .ref h33, .ref h34, .int 0])), (h14, .inr (7, [.ref h35, .ref h36])), (h15, .inl (cI, 12, .inl (fun _ => 0))), (h16, .inr (1, [.ref h37, .int 1])), (h17, .inr (1, [.ref h38, .int 1])), (h18, .inl (cI, 5, .inl (fun _ => 0))), (h19, .inl (cI, 12, .inl (fun _ => 0))), (h20, .inr (1, [.ref h39, .int 1])), (h21, .inr (1, [.ref h40, .int 1])), (h22, .inl (cI, 12, .inl (fun _ => 0))), (h24, .inl (cI, 12, .inl (fun _ => 0))), (h25, .inr (6, [.ref h41, .int (-1), .int 0])), (h26, .inr (6, [.ref h42, .int (-1), .int 0])), (h27, .inr (6, [.ref h43, .int (-1), .int 0])), (h28, .inr (6, [.ref h44, .int (-1), .int 0])), (h29, .inl (cI, 12, .inl (fun _ => 0))), (h30, .inl (cI, 12, .inl (fun _ => 0))), (h31, .inl (cI, 12, .inl (fun _ => 0))), (h32, .inl (cI, 12, .inl (fun _ => 0))), (h33, .inl (cI, 12, .inl (fun _ => 0))), (h34, .inl (cI, 12, .inl (fun _ => 0))), (h35, .inl (cI, 4, .inl (fun _ => -1))), (h36, .inl (cI, 4, .inl (fun _ => 0))), (h37, .inl (cI, 4096, .inl (fun _ => 0))), (h38, .inl (cI, 0, .inl (fun _ => 0))), (h39, .inl (cI, 4096, .inl (fun _ => 0))), (h40, .inl (cI, 0, .inl (fun _ => 0))), (h41, .inl (cI, 40, .inl (fun _ => 0))), (h42, .inl (cI, 40, .inl (fun _ => 0))), (h43, .inl (cI, 40, .inl (fun _ => 0))), (h44, .inl (cI, 40, .inl (fun _ => 0)))]) (w1 := [(h9, .inr (8, [.ref h23, .int 2])), (h23, .inl (cI, 120, .inl (upd (upd (fun _ => 0) 0 (((Int32.toUInt32 x0 >>> (Int32.toUInt32 16 &&& Int32.toUInt32 31)).toInt32) &&& (255 : Int32))) 1 (((Int32.toUInt32 x0 >>> (Int32.toUInt32 8 &&& Int32.toUInt32 31)).toInt32) &&& (255 : Int32)))))]) (As := [.int (((Int32.toUInt32 x0 >>> (Int32.toUInt32 8 &&& Int32.toUInt32 31)).toInt32) &&& (255 : Int32))]) (rest := []) ⟨hx, hb, hml, hown, hts⟩ (c_X8_append_1 l D cI cS H.size h9 h23 ((upd (fun _ => 0) 0 (((Int32.toUInt32 x0 >>> (Int32.toUInt32 16 &&& Int32.toUInt32 31)).toInt32) &&& (255 : Int32)))) (((Int32.toUInt32 x0 >>> (Int32.toUInt32 8 &&& Int32.toUInt32 31)).toInt32) &&& (255 : Int32))) hKK hP hD hS hA [43, 44] [0, 1, 2, 3, 4, 5, 6, 7, 8, 9, 10, 11, 12, 13, 14, 15, 16, 17, 18, 19, 20, 21, 22, 23, 24, 25, 26, 27, 28, 29, 30, 31, 32, 33, 34, 35, 36, 37, 38, 39, 40, 41, 42] (by decide) rfl rfl (by decide) (by decide) hPc hDc (ci := 8) rfl rfl (cwV 1 hts gX11_feed_X8_append rfl rfl rfl (by decide +kernel) ⟨Nat.le_of_ble_eq_true rfl, Nat.le_of_ble_eq_true rfl⟩) rfl hl.1 rfl (Nat.le_of_ble_eq_true rfl) dX11_feed_52 ⟨Nat.le_of_ble_eq_true rfl, Nat.le_of_ble_eq_true rfl⟩ (fun H locs hP hD hS => ?_)
                  have hP : va_P D cls [(h0, .inr (11, [.ref h1, .ref h2, .ref h3, .ref h4, .ref h5, .ref h6, .ref h7, .int 0, .int 0, .ref h8, .ref h9, .ref h10, .ref h11, .ref h12, .ref h13, .ref h14])), (h1, .inr (2, [.ref h15, .int 0, .int 0])), (h2, .inr (3, [.ref h1, .ref h16, .ref h17, .int 0])), (h3, .inr (4, [.ref h1, .ref h2])), (h4, .inr (10, [.ref h1, .ref h2, .ref h18, .int 0, .int 0, .int 0, .int 0, .int (-1)])), (h5, .inr (2, [.ref h19, .int 0, .int 0])), (h6, .inr (3, [.ref h5, .ref h20, .ref h21, .int 0])), (h7, .inr (2, [.ref h22, .int 0, .int 0])), (h8, .inr (0, [.int 1])), (h10, .inr (5, [.ref h9, .ref h1, .ref h24, .int 0, .int 0, .int 0, .int 0, .int 0])), (h11, .inl (cS, 4, .inr (.inr (.inr (.inr (fun k => [h25, h26, h27, h28][k]?)))))), (h12, .inr (9, [.ref h1, .ref h2, .ref h29, .ref h30, .ref h31, .int 0])), (h13, .inr (9, [.ref h1, .ref h2, .ref h32, .ref h33, .ref h34, .int 0])), (h14, .inr (7, [.ref h35, .ref h36])), (h15, .inl (cI, 12, .inl (fun _ => 0))), (h16, .inr (1, [.ref h37, .int 1])), (h17, .inr (1, [.ref h38, .int 1])), (h18, .inl (cI, 5, .inl (fun _ => 0))), (h19, .inl (cI, 12, .inl (fun _ => 0))), (h20, .inr (1, [.ref h39, .int 1])), (h21, .inr (1, [.ref h40, .int 1])), (h22, .inl (cI, 12, .inl (fun _ => 0))), (h24, .inl (cI, 12, .inl (fun _ => 0))), (h25, .inr (6, [.ref h41, .int (-1), .int 0])), (h26, .inr (6, [.ref h42, .int (-1), .int 0])), (h27, .inr (6, [.ref h43, .int (-1), .int 0])), (h28, .inr (6, [.ref h44, .int (-1), .int 0])), (h29, .inl (cI, 12, .inl (fun _ => 0))), (h30, .inl (cI, 12, .inl (fun _ => 0))), (h31, .inl (cI, 12, .inl (fun _ => 0))), (h32, .inl (cI, 12, .inl (fun _ => 0))), (h33, .inl (cI, 12, .inl (fun _ => 0))), (h34, .inl (cI, 12, .inl (fun _ => 0))), (h35, .inl (cI, 4, .inl (fun _ => -1))), (h36, .inl (cI, 4, .inl (fun _ => 0))), (h37, .inl (cI, 4096, .inl (fun _ => 0))), (h38, .inl (cI, 0, .inl (fun _ => 0))), (h39, .inl (cI, 4096, .inl (fun _ => 0))), (h40, .inl (cI, 0, .inl (fun _ => 0))), (h41, .inl (cI, 40, .inl (fun _ => 0))), (h42, .inl (cI, 40, .inl (fun _ => 0))), (h43, .inl (cI, 40, .inl (fun _ => 0))), (h44, .inl (cI, 40, .inl (fun _ => 0))), (h9, .inr (8, [.ref h23, .int 2])), (h23, .inl (cI, 120, .inl (upd (upd (fun _ => 0) 0 (((Int32.toUInt32 x0 >>> (Int32.toUInt32 16 &&& Int32.toUInt32 31)).toInt32) &&& (255 : Int32))) 1 (((Int32.toUInt32 x0 >>> (Int32.toUInt32 8 &&& Int32.toUInt32 31)).toInt32) &&& (255 : Int32)))))] H := hP
                  have hD : va_D A [(h0, .inr (11, [.ref h1, .ref h2, .ref h3, .ref h4, .ref h5, .ref h6, .ref h7, .int 0, .int 0, .ref h8, .ref h9, .ref h10, .ref h11, .ref h12, .ref h13, .ref h14])), (h1, .inr (2, [.ref h15, .int 0, .int 0])), (h2, .inr (3, [.ref h1, .ref h16, .ref h17, .int 0])), (h3, .inr (4, [.ref h1, .ref h2])), (h4, .inr (10, [.ref h1, .ref h2, .ref h18, .int 0, .int 0, .int 0, .int 0, .int (-1)])), (h5, .inr (2, [.ref h19, .int 0, .int 0])), (h6, .inr (3, [.ref h5, .ref h20, .ref h21, .int 0])), (h7, .inr (2, [.ref h22, .int 0, .int 0])), (h8, .inr (0, [.int 1])), (h10, .inr (5, [.ref h9, .ref h1, .ref h24, .int 0, .int 0, .int 0, .int 0, .int 0])), (h11, .inl (cS, 4, .inr (.inr (.inr (.inr (fun k => [h25, h26, h27, h28][k]?)))))), (h12, .inr (9, [.ref h1, .ref h2, .ref h29, .ref h30, .ref h31, .int 0])), (h13, .inr (9, [.ref h1, .ref h2, .ref h32, .ref h33, .ref h34, .int 0])), (h14, .inr (7, [.ref h35, .ref h36])), (h15, .inl (cI, 12, .inl (fun _ => 0))), (h16, .inr (1, [.ref h37, .int 1])), (h17, .inr (1, [.ref h38, .int 1])), (h18, .inl (cI, 5, .inl (fun _ => 0))), (h19, .inl (cI, 12, .inl (fun _ => 0))), (h20, .inr (1, [.ref h39, .int 1])), (h21, .inr (1, [.ref h40, .int 1])), (h22, .inl (cI, 12, .inl (fun _ => 0))), (h24, .inl (cI, 12, .inl (fun _ => 0))), (h25, .inr (6, [.ref h41, .int (-1), .int 0])), (h26, .inr (6, [.ref h42, .int (-1), .int 0])), (h27, .inr (6, [.ref h43, .int (-1), .int 0])), (h28, .inr (6, [.ref h44, .int (-1), .int 0])), (h29, .inl (cI, 12, .inl (fun _ => 0))), (h30, .inl (cI, 12, .inl (fun _ => 0))), (h31, .inl (cI, 12, .inl (fun _ => 0))), (h32, .inl (cI, 12, .inl (fun _ => 0))), (h33, .inl (cI, 12, .inl (fun _ => 0))), (h34, .inl (cI, 12, .inl (fun _ => 0))), (h35, .inl (cI, 4, .inl (fun _ => -1))), (h36, .inl (cI, 4, .inl (fun _ => 0))), (h37, .inl (cI, 4096, .inl (fun _ => 0))), (h38, .inl (cI, 0, .inl (fun _ => 0))), (h39, .inl (cI, 4096, .inl (fun _ => 0))), (h40, .inl (cI, 0, .inl (fun _ => 0))), (h41, .inl (cI, 40, .inl (fun _ => 0))), (h42, .inl (cI, 40, .inl (fun _ => 0))), (h43, .inl (cI, 40, .inl (fun _ => 0))), (h44, .inl (cI, 40, .inl (fun _ => 0))), (h9, .inr (8, [.ref h23, .int 2])), (h23, .inl (cI, 120, .inl (upd (upd (fun _ => 0) 0 (((Int32.toUInt32 x0 >>> (Int32.toUInt32 16 &&& Int32.toUInt32 31)).toInt32) &&& (255 : Int32))) 1 (((Int32.toUInt32 x0 >>> (Int32.toUInt32 8 &&& Int32.toUInt32 31)).toInt32) &&& (255 : Int32)))))] := hD
                  refine lv_iinc (v := 0) (lv' := [(3, .int 0), (0, .ref h0), (1, .int x0), (2, .int 3)]) hx hb dX11_feed_55 hl (k := 0) rfl (by decide) (by decide) rfl (fun ls hl => ?_)
                  refine lv_goto (tgt := 34) hx hb dX11_feed_58 (by decide) ?_
                  refine lv_iload_n hx hb dX11_feed_34 rfl (lv_at hl 0 rfl) ?_
                  refine lv_if_lt (tgt := 61) hx hb dX11_feed_35 (by decide) (fun c1801 => ?_) (fun c1801 => ?_)
                  · exact absurd c1801 (by decide)
                  · refine lv_aload_n hx hb dX11_feed_38 rfl (lv_at hl 1 rfl) ?_
                    refine va_get (D := D) (ci := 11) (v := .ref h9) (C := RX11) (T := TX11) (N := 16) hx hb hts hin11 hown hK hP 0 rfl rfl 10 (by decide) (hts (.fieldLink RX11 60 "MissedPoints" "tape" "LMissedPoints$Tape;") (by decide +kernel)) (fun _ h9 => h9) rfl dX11_feed_39 ?_
                    refine lv_iload_n hx hb dX11_feed_42 rfl (lv_at hl 2 rfl) ?_
                    refine lv_bipush (v := 8) hx hb dX11_feed_43 (by decide) ?_
                    refine lv_iload_n hx hb dX11_feed_45 rfl (lv_at hl 0 rfl) ?_
                    refine lv_imul hx hb dX11_feed_46 ?_
                    refine lz_top (y := 0) (by decide) ?_
                    refine lv_iushr (v := (Int32.toUInt32 x0 >>> (Int32.toUInt32 0 &&& Int32.toUInt32 31)).toInt32) hx hb dX11_feed_47 rfl ?_
                    refine lv_sipush (v := 255) hx hb dX11_feed_48 (by decide) ?_
                    refine lv_iand hx hb dX11_feed_51 ?_
                    have hPc := hP.sub (ws' := [(h9, .inr (8, [.ref h23, .int 2])), (h23, .inl (cI, 120, .inl (upd (upd (fun _ => 0) 0 (((Int32.toUInt32 x0 >>> (Int32.toUInt32 16 &&& Int32.toUInt32 31)).toInt32) &&& (255 : Int32))) 1 (((Int32.toUInt32 x0 >>> (Int32.toUInt32 8 &&& Int32.toUInt32 31)).toInt32) &&& (255 : Int32)))))]) [43, 44] rfl
                    have hDc := hD.sub (ws' := [(h9, .inr (8, [.ref h23, .int 2])), (h23, .inl (cI, 120, .inl (upd (upd (fun _ => 0) 0 (((Int32.toUInt32 x0 >>> (Int32.toUInt32 16 &&& Int32.toUInt32 31)).toInt32) &&& (255 : Int32))) 1 (((Int32.toUInt32 x0 >>> (Int32.toUInt32 8 &&& Int32.toUInt32 31)).toInt32) &&& (255 : Int32)))))]) [43, 44] (by decide) rfl
                    refine lz_qv (wr := [(h0, .inr (11, [.ref h1, .ref h2, .ref h3, .ref h4, .ref h5, .ref h6, .ref h7, .int 0, .int 0, .ref h8, .ref h9, .ref h10, .ref h11, .ref h12, .ref h13, .ref h14])), (h1, .inr (2, [.ref h15, .int 0, .int 0])), (h2, .inr (3, [.ref h1, .ref h16, .ref h17, .int 0])), (h3, .inr (4, [.ref h1, .ref h2])), (h4, .inr (10, [.ref h1, .ref h2, .ref h18, .int 0, .int 0, .int 0, .int 0, .int (-1)])), (h5, .inr (2, [.ref h19, .int 0, .int 0])), (h6, .inr (3, [.ref h5, .ref h20, .ref h21, .int 0])), (h7, .inr (2, [.ref h22, .int 0, .int 0])), (h8, .inr (0, [.int 1])), (h10, .inr (5, [.ref h9, .ref h1, .ref h24, .int 0, .int 0, .int 0, .int 0, .int 0])), (h11, .inl (cS, 4, .inr (.inr (.inr (.inr (fun k => [h25, h26, h27, h28][k]?)))))), (h12, .inr (9, [.ref h1, .ref h2, .ref h29, .ref h30, .ref h31, .int 0])), (h13, .inr (9, [.ref h1, .ref h2, .ref h32, .ref h33, .ref h34, .int 0])), (h14, .inr (7, [.ref h35, .ref h36])), (h15, .inl (cI, 12, .inl (fun _ => 0))), (h16, .inr (1, [.ref h37, .int 1])), (h17, .inr (1, [.ref h38, .int 1])), (h18, .inl (cI, 5, .inl (fun _ => 0))), (h19, .inl (cI, 12, .inl (fun _ => 0))), (h20, .inr (1, [.ref h39, .int 1])), (h21, .inr (1, [.ref h40, .int 1])), (h22, .inl (cI, 12, .inl (fun _ => 0))), (h24, .inl (cI, 12, .inl (fun _ => 0))), (h25, .inr (6, [.ref h41, .int (-1), .int 0])), (h26, .inr (6, [.ref h42, .int (-1), .int 0])), (h27, .inr (6, [.ref h43, .int (-1), .int 0])), (h28, .inr (6, [.ref h44, .int (-1), .int 0])), (h29, .inl (cI, 12, .inl (fun _ => 0))), (h30, .inl (cI, 12, .inl (fun _ => 0))), (h31, .inl (cI, 12, .inl (fun _ => 0))), (h32, .inl (cI, 12, .inl (fun _ => 0))), (h33, .inl (cI, 12, .inl (fun _ => 0))), (h34, .inl (cI, 12, .inl (fun _ => 0))), (h35, .inl (cI, 4, .inl (fun _ => -1))), (h36, .inl (cI, 4, .inl (fun _ => 0))), (h37, .inl (cI, 4096, .inl (fun _ => 0))), (h38, .inl (cI, 0, .inl (fun _ => 0))), (h39, .inl (cI, 4096, .inl (fun _ => 0))), (h40, .inl (cI, 0, .inl (fun _ => 0))), (h41, .inl (cI, 40, .inl (fun _ => 0))), (h42, .inl (cI, 40, .inl (fun _ => 0))), (h43, .inl (cI, 40, .inl (fun _ => 0))), (h44, .inl (cI, 40, .inl (fun _ => 0)))]) (w1 := [(h9, .inr (8, [.ref h23, .int 3])), (h23, .inl (cI, 120, .inl (upd (upd (upd (fun _ => 0) 0 (((Int32.toUInt32 x0 >>> (Int32.toUInt32 16 &&& Int32.toUInt32 31)).toInt32) &&& (255 : Int32))) 1 (((Int32.toUInt32 x0 >>> (Int32.toUInt32 8 &&& Int32.toUInt32 31)).toInt32) &&& (255 : Int32))) 2 (((Int32.toUInt32 x0 >>> (Int32.toUInt32 0 &&& Int32.toUInt32 31)).toInt32) &&& (255 : Int32)))))]) (As := [.int (((Int32.toUInt32 x0 >>> (Int32.toUInt32 0 &&& Int32.toUInt32 31)).toInt32) &&& (255 : Int32))]) (rest := []) ⟨hx, hb, hml, hown, hts⟩ (c_X8_append_2 l D cI cS H.size h9 h23 ((upd (upd (fun _ => 0) 0 (((Int32.toUInt32 x0 >>> (Int32.toUInt32 16 &&& Int32.toUInt32 31)).toInt32) &&& (255 : Int32))) 1 (((Int32.toUInt32 x0 >>> (Int32.toUInt32 8 &&& Int32.toUInt32 31)).toInt32) &&& (255 : Int32)))) (((Int32.toUInt32 x0 >>> (Int32.toUInt32 0 &&& Int32.toUInt32 31)).toInt32) &&& (255 : Int32))) hKK hP hD hS hA [43, 44] [0, 1, 2, 3, 4, 5, 6, 7, 8, 9, 10, 11, 12, 13, 14, 15, 16, 17, 18, 19, 20, 21, 22, 23, 24, 25, 26, 27, 28, 29, 30, 31, 32, 33, 34, 35, 36, 37, 38, 39, 40, 41, 42] (by decide) rfl rfl (by decide) (by decide) hPc hDc (ci := 8) rfl rfl (cwV 1 hts gX11_feed_X8_append rfl rfl rfl (by decide +kernel) ⟨Nat.le_of_ble_eq_true rfl, Nat.le_of_ble_eq_true rfl⟩) rfl hl.1 rfl (Nat.le_of_ble_eq_true rfl) dX11_feed_52 ⟨Nat.le_of_ble_eq_true rfl, Nat.le_of_ble_eq_true rfl⟩ (fun H locs hP hD hS => ?_)
                    have hP : va_P D cls [(h0, .inr (11, [.ref h1, .ref h2, .ref h3, .ref h4, .ref h5, .ref h6, .ref h7, .int 0, .int 0, .ref h8, .ref h9, .ref h10, .ref h11, .ref h12, .ref h13, .ref h14])), (h1, .inr (2, [.ref h15, .int 0, .int 0])), (h2, .inr (3, [.ref h1, .ref h16, .ref h17, .int 0])), (h3, .inr (4, [.ref h1, .ref h2])), (h4, .inr (10, [.ref h1, .ref h2, .ref h18, .int 0, .int 0, .int 0, .int 0, .int (-1)])), (h5, .inr (2, [.ref h19, .int 0, .int 0])), (h6, .inr (3, [.ref h5, .ref h20, .ref h21, .int 0])), (h7, .inr (2, [.ref h22, .int 0, .int 0])), (h8, .inr (0, [.int 1])), (h10, .inr (5, [.ref h9, .ref h1, .ref h24, .int 0, .int 0, .int 0, .int 0, .int 0])), (h11, .inl (cS, 4, .inr (.inr (.inr (.inr (fun k => [h25, h26, h27, h28][k]?)))))), (h12, .inr (9, [.ref h1, .ref h2, .ref h29, .ref h30, .ref h31, .int 0])), (h13, .inr (9, [.ref h1, .ref h2, .ref h32, .ref h33, .ref h34, .int 0])), (h14, .inr (7, [.ref h35, .ref h36])), (h15, .inl (cI, 12, .inl (fun _ => 0))), (h16, .inr (1, [.ref h37, .int 1])), (h17, .inr (1, [.ref h38, .int 1])), (h18, .inl (cI, 5, .inl (fun _ => 0))), (h19, .inl (cI, 12, .inl (fun _ => 0))), (h20, .inr (1, [.ref h39, .int 1])), (h21, .inr (1, [.ref h40, .int 1])), (h22, .inl (cI, 12, .inl (fun _ => 0))), (h24, .inl (cI, 12, .inl (fun _ => 0))), (h25, .inr (6, [.ref h41, .int (-1), .int 0])), (h26, .inr (6, [.ref h42, .int (-1), .int 0])), (h27, .inr (6, [.ref h43, .int (-1), .int 0])), (h28, .inr (6, [.ref h44, .int (-1), .int 0])), (h29, .inl (cI, 12, .inl (fun _ => 0))), (h30, .inl (cI, 12, .inl (fun _ => 0))), (h31, .inl (cI, 12, .inl (fun _ => 0))), (h32, .inl (cI, 12, .inl (fun _ => 0))), (h33, .inl (cI, 12, .inl (fun _ => 0))), (h34, .inl (cI, 12, .inl (fun _ => 0))), (h35, .inl (cI, 4, .inl (fun _ => -1))), (h36, .inl (cI, 4, .inl (fun _ => 0))), (h37, .inl (cI, 4096, .inl (fun _ => 0))), (h38, .inl (cI, 0, .inl (fun _ => 0))), (h39, .inl (cI, 4096, .inl (fun _ => 0))), (h40, .inl (cI, 0, .inl (fun _ => 0))), (h41, .inl (cI, 40, .inl (fun _ => 0))), (h42, .inl (cI, 40, .inl (fun _ => 0))), (h43, .inl (cI, 40, .inl (fun _ => 0))), (h44, .inl (cI, 40, .inl (fun _ => 0))), (h9, .inr (8, [.ref h23, .int 3])), (h23, .inl (cI, 120, .inl (upd (upd (upd (fun _ => 0) 0 (((Int32.toUInt32 x0 >>> (Int32.toUInt32 16 &&& Int32.toUInt32 31)).toInt32) &&& (255 : Int32))) 1 (((Int32.toUInt32 x0 >>> (Int32.toUInt32 8 &&& Int32.toUInt32 31)).toInt32) &&& (255 : Int32))) 2 (((Int32.toUInt32 x0 >>> (Int32.toUInt32 0 &&& Int32.toUInt32 31)).toInt32) &&& (255 : Int32)))))] H := hP
                    have hD : va_D A [(h0, .inr (11, [.ref h1, .ref h2, .ref h3, .ref h4, .ref h5, .ref h6, .ref h7, .int 0, .int 0, .ref h8, .ref h9, .ref h10, .ref h11, .ref h12, .ref h13, .ref h14])), (h1, .inr (2, [.ref h15, .int 0, .int 0])), (h2, .inr (3, [.ref h1, .ref h16, .ref h17, .int 0])), (h3, .inr (4, [.ref h1, .ref h2])), (h4, .inr (10, [.ref h1, .ref h2, .ref h18, .int 0, .int 0, .int 0, .int 0, .int (-1)])), (h5, .inr (2, [.ref h19, .int 0, .int 0])), (h6, .inr (3, [.ref h5, .ref h20, .ref h21, .int 0])), (h7, .inr (2, [.ref h22, .int 0, .int 0])), (h8, .inr (0, [.int 1])), (h10, .inr (5, [.ref h9, .ref h1, .ref h24, .int 0, .int 0, .int 0, .int 0, .int 0])), (h11, .inl (cS, 4, .inr (.inr (.inr (.inr (fun k => [h25, h26, h27, h28][k]?)))))), (h12, .inr (9, [.ref h1, .ref h2, .ref h29, .ref h30, .ref h31, .int 0])), (h13, .inr (9, [.ref h1, .ref h2, .ref h32, .ref h33, .ref h34, .int 0])), (h14, .inr (7, [.ref h35, .ref h36])), (h15, .inl (cI, 12, .inl (fun _ => 0))), (h16, .inr (1, [.ref h37, .int 1])), (h17, .inr (1, [.ref h38, .int 1])), (h18, .inl (cI, 5, .inl (fun _ => 0))), (h19, .inl (cI, 12, .inl (fun _ => 0))), (h20, .inr (1, [.ref h39, .int 1])), (h21, .inr (1, [.ref h40, .int 1])), (h22, .inl (cI, 12, .inl (fun _ => 0))), (h24, .inl (cI, 12, .inl (fun _ => 0))), (h25, .inr (6, [.ref h41, .int (-1), .int 0])), (h26, .inr (6, [.ref h42, .int (-1), .int 0])), (h27, .inr (6, [.ref h43, .int (-1), .int 0])), (h28, .inr (6, [.ref h44, .int (-1), .int 0])), (h29, .inl (cI, 12, .inl (fun _ => 0))), (h30, .inl (cI, 12, .inl (fun _ => 0))), (h31, .inl (cI, 12, .inl (fun _ => 0))), (h32, .inl (cI, 12, .inl (fun _ => 0))), (h33, .inl (cI, 12, .inl (fun _ => 0))), (h34, .inl (cI, 12, .inl (fun _ => 0))), (h35, .inl (cI, 4, .inl (fun _ => -1))), (h36, .inl (cI, 4, .inl (fun _ => 0))), (h37, .inl (cI, 4096, .inl (fun _ => 0))), (h38, .inl (cI, 0, .inl (fun _ => 0))), (h39, .inl (cI, 4096, .inl (fun _ => 0))), (h40, .inl (cI, 0, .inl (fun _ => 0))), (h41, .inl (cI, 40, .inl (fun _ => 0))), (h42, .inl (cI, 40, .inl (fun _ => 0))), (h43, .inl (cI, 40, .inl (fun _ => 0))), (h44, .inl (cI, 40, .inl (fun _ => 0))), (h9, .inr (8, [.ref h23, .int 3])), (h23, .inl (cI, 120, .inl (upd (upd (upd (fun _ => 0) 0 (((Int32.toUInt32 x0 >>> (Int32.toUInt32 16 &&& Int32.toUInt32 31)).toInt32) &&& (255 : Int32))) 1 (((Int32.toUInt32 x0 >>> (Int32.toUInt32 8 &&& Int32.toUInt32 31)).toInt32) &&& (255 : Int32))) 2 (((Int32.toUInt32 x0 >>> (Int32.toUInt32 0 &&& Int32.toUInt32 31)).toInt32) &&& (255 : Int32)))))] := hD
                    refine lv_iinc (v := (-1)) (lv' := [(3, .int (-1)), (0, .ref h0), (1, .int x0), (2, .int 3)]) hx hb dX11_feed_55 hl (k := 0) rfl (by decide) (by decide) rfl (fun ls hl => ?_)
                    refine lv_goto (tgt := 34) hx hb dX11_feed_58 (by decide) ?_
                    refine lv_iload_n hx hb dX11_feed_34 rfl (lv_at hl 0 rfl) ?_
                    refine lv_if_lt (tgt := 61) hx hb dX11_feed_35 (by decide) (fun c1804 => ?_) (fun c1804 => ?_)
                    · refine lv_aload_n hx hb dX11_feed_61 rfl (lv_at hl 1 rfl) ?_
                      refine va_get (D := D) (ci := 11) (v := .ref h9) (C := RX11) (T := TX11) (N := 16) hx hb hts hin11 hown hK hP 0 rfl rfl 10 (by decide) (hts (.fieldLink RX11 60 "MissedPoints" "tape" "LMissedPoints$Tape;") (by decide +kernel)) (fun _ h9 => h9) rfl dX11_feed_62 ?_
                      refine va_getN (D := D) (ci := 8) (v := .int 3) (C := RX8) (T := TX8) (N := 2) hx hb hts hin8 hown hK hP 43 rfl rfl 1 (by decide) (va_Nw.use rfl hN.1) (fun _ h9 => h9) rfl dX11_feed_65 ?_
                      have hP9 := hP.sub (ws' := []) [] rfl
                      have hD9 := hD.sub (ws' := []) [] (by decide) rfl
                      subst hAe
                      exact W.iret (v := 3) hx hb hr (fun t ht hW => ⟨⟨_, (), rfl, by rw [if_neg c1781, if_pos c1782, if_neg k1784, if_neg k1789, if_pos rfl], by rw [ht]; exact hP9, hD9⟩, hS.F ht⟩) hS.2.2 dX11_feed_68
                    · exact absurd c1804 (by decide)
            · obtain rfl : x1 = 4 := by have zf1 := mt (lz_lt x1 (1 : Int32)).mpr c1781; have zf2 := (lz_le x1 (4 : Int32)).mp c1782; have zf3 := mt (lz_eq x1 (1 : Int32)).mpr k1784; have zf4 := mt (lz_eq x1 (2 : Int32)).mpr k1789; have zf5 := mt (lz_eq x1 (3 : Int32)).mpr k1796; have zn0 : (1 : Int32).toInt = 1 := (by decide); have zn1 : (2 : Int32).toInt = 2 := (by decide); have zn2 : (3 : Int32).toInt = 3 := (by decide); have zn3 : (4 : Int32).toInt = 4 := (by decide); rw [lz_eq]; omega
              refine lv_iload_n hx hb dX11_feed_30 rfl (lv_at hl 2 rfl) ?_
              refine lv_iconst (v := 1) hx hb dX11_feed_31 (by decide) ?_
              refine lv_isub hx hb dX11_feed_32 ?_
              refine lz_top (y := 3) (by decide) ?_
              refine lv_istore_n (lv' := [(3, .int 3), (0, .ref h0), (1, .int x0), (2, .int 4)]) hx hb dX11_feed_33 rfl hl (by decide) rfl (fun ls hl => ?_)
              refine lv_iload_n hx hb dX11_feed_34 rfl (lv_at hl 0 rfl) ?_
              refine lv_if_lt (tgt := 61) hx hb dX11_feed_35 (by decide) (fun c1805 => ?_) (fun c1805 => ?_)
              · exact absurd c1805 (by decide)
              · refine lv_aload_n hx hb dX11_feed_38 rfl (lv_at hl 1 rfl) ?_
                refine va_get (D := D) (ci := 11) (v := .ref h9) (C := RX11) (T := TX11) (N := 16) hx hb hts hin11 hown hK hP 0 rfl rfl 10 (by decide) (hts (.fieldLink RX11 60 "MissedPoints" "tape" "LMissedPoints$Tape;") (by decide +kernel)) (fun _ h9 => h9) rfl dX11_feed_39 ?_
                refine lv_iload_n hx hb dX11_feed_42 rfl (lv_at hl 2 rfl) ?_
                refine lv_bipush (v := 8) hx hb dX11_feed_43 (by decide) ?_
                refine lv_iload_n hx hb dX11_feed_45 rfl (lv_at hl 0 rfl) ?_
                refine lv_imul hx hb dX11_feed_46 ?_
                refine lz_top (y := 24) (by decide) ?_
                refine lv_iushr (v := (Int32.toUInt32 x0 >>> (Int32.toUInt32 24 &&& Int32.toUInt32 31)).toInt32) hx hb dX11_feed_47 rfl ?_
                refine lv_sipush (v := 255) hx hb dX11_feed_48 (by decide) ?_
                refine lv_iand hx hb dX11_feed_51 ?_
                have hPc := hP.sub (ws' := [(h9, .inr (8, [.ref h23, .int 0])), (h23, .inl (cI, 120, .inl (fun _ => 0)))]) [9, 23] rfl
                have hDc := hD.sub (ws' := [(h9, .inr (8, [.ref h23, .int 0])), (h23, .inl (cI, 120, .inl (fun _ => 0)))]) [9, 23] (by decide) rfl
                refine lz_qv (wr := [(h0, .inr (11, [.ref h1, .ref h2, .ref h3, .ref h4, .ref h5, .ref h6, .ref h7, .int 0, .int 0, .ref h8, .ref h9, .ref h10, .ref h11, .ref h12, .ref h13, .ref h14])), (h1, .inr (2, [.ref h15, .int 0, .int 0])), (h2, .inr (3, [.ref h1, .ref h16, .ref h17, .int 0])), (h3, .inr (4, [.ref h1, .ref h2])), (h4, .inr (10, [.ref h1, .ref h2, .ref h18, .int 0, .int 0, .int 0, .int 0, .int (-1)])), (h5, .inr (2, [.ref h19, .int 0, .int 0])), (h6, .inr (3, [.ref h5, .ref h20, .ref h21, .int 0])), (h7, .inr (2, [.ref h22, .int 0, .int 0])), (h8, .inr (0, [.int 1])), (h10, .inr (5, [.ref h9, .ref h1, .ref h24, .int 0, .int 0, .int 0, .int 0, .int 0])), (h11, .inl (cS, 4, .inr (.inr (.inr (.inr (fun k => [h25, h26, h27, h28][k]?)))))), (h12, .inr (9, [.ref h1, .ref h2, .ref h29, .ref h30, .ref h31, .int 0])), (h13, .inr (9, [.ref h1, .ref h2, .ref h32, .ref h33, .ref h34, .int 0])), (h14, .inr (7, [.ref h35, .ref h36])), (h15, .inl (cI, 12, .inl (fun _ => 0))), (h16, .inr (1, [.ref h37, .int 1])), (h17, .inr (1, [.ref h38, .int 1])), (h18, .inl (cI, 5, .inl (fun _ => 0))), (h19, .inl (cI, 12, .inl (fun _ => 0))), (h20, .inr (1, [.ref h39, .int 1])), (h21, .inr (1, [.ref h40, .int 1])), (h22, .inl (cI, 12, .inl (fun _ => 0))), (h24, .inl (cI, 12, .inl (fun _ => 0))), (h25, .inr (6, [.ref h41, .int (-1), .int 0])), (h26, .inr (6, [.ref h42, .int (-1), .int 0])), (h27, .inr (6, [.ref h43, .int (-1), .int 0])), (h28, .inr (6, [.ref h44, .int (-1), .int 0])), (h29, .inl (cI, 12, .inl (fun _ => 0))), (h30, .inl (cI, 12, .inl (fun _ => 0))), (h31, .inl (cI, 12, .inl (fun _ => 0))), (h32, .inl (cI, 12, .inl (fun _ => 0))), (h33, .inl (cI, 12, .inl (fun _ => 0))), (h34, .inl (cI, 12, .inl (fun _ => 0))), (h35, .inl (cI, 4, .inl (fun _ => -1))), (h36, .inl (cI, 4, .inl (fun _ => 0))), (h37, .inl (cI, 4096, .inl (fun _ => 0))), (h38, .inl (cI, 0, .inl (fun _ => 0))), (h39, .inl (cI, 4096, .inl (fun _ => 0))), (h40, .inl (cI, 0, .inl (fun _ => 0))), (h41, .inl (cI, 40, .inl (fun _ => 0))), (h42, .inl (cI, 40, .inl (fun _ => 0))), (h43, .inl (cI, 40, .inl (fun _ => 0))), (h44, .inl (cI, 40, .inl (fun _ => 0)))]) (w1 := [(h9, .inr (8, [.ref h23, .int 1])), (h23, .inl (cI, 120, .inl (upd (fun _ => 0) 0 (((Int32.toUInt32 x0 >>> (Int32.toUInt32 24 &&& Int32.toUInt32 31)).toInt32) &&& (255 : Int32)))))]) (As := [.int (((Int32.toUInt32 x0 >>> (Int32.toUInt32 24 &&& Int32.toUInt32 31)).toInt32) &&& (255 : Int32))]) (rest := []) ⟨hx, hb, hml, hown, hts⟩ (c_X8_append_0 l D cI cS H.size h9 h23 (((Int32.toUInt32 x0 >>> (Int32.toUInt32 24 &&& Int32.toUInt32 31)).toInt32) &&& (255 : Int32))) hKK hP hD hS hA [9, 23] [0, 1, 2, 3, 4, 5, 6, 7, 8, 10, 11, 12, 13, 14, 15, 16, 17, 18, 19, 20, 21, 22, 24, 25, 26, 27, 28, 29, 30, 31, 32, 33, 34, 35, 36, 37, 38, 39, 40, 41, 42, 43, 44] (by decide) rfl rfl (by decide) (by decide) hPc hDc (ci := 8) rfl rfl (cwV 1 hts gX11_feed_X8_append rfl rfl rfl (by decide +kernel) ⟨Nat.le_of_ble_eq_true rfl, Nat.le_of_ble_eq_true rfl⟩) rfl hl.1 rfl (Nat.le_of_ble_eq_true rfl) dX11_feed_52 ⟨Nat.le_of_ble_eq_true rfl, Nat.le_of_ble_eq_true rfl⟩ (fun H locs hP hD hS => ?_)
                have hP : va_P D cls [(h0, .inr (11, [.ref h1, .ref h2, .ref h3, .ref h4, .ref h5, .ref h6, .ref h7, .int 0, .int 0, .ref h8, .ref h9, .ref h10, .ref h11, .ref h12, .ref h13, .ref h14])), (h1, .inr (2, [.ref h15, .int 0, .int 0])), (h2, .inr (3, [.ref h1, .ref h16, .ref h17, .int 0])), (h3, .inr (4, [.ref h1, .ref h2])), (h4, .inr (10, [.ref h1, .ref h2, .ref h18, .int 0, .int 0, .int 0, .int 0, .int (-1)])), (h5, .inr (2, [.ref h19, .int 0, .int 0])), (h6, .inr (3, [.ref h5, .ref h20, .ref h21, .int 0])), (h7, .inr (2, [.ref h22, .int 0, .int 0])), (h8, .inr (0, [.int 1])), (h10, .inr (5, [.ref h9, .ref h1, .ref h24, .int 0, .int 0, .int 0, .int 0, .int 0])), (h11, .inl (cS, 4, .inr (.inr (.inr (.inr (fun k => [h25, h26, h27, h28][k]?)))))), (h12, .inr (9, [.ref h1, .ref h2, .ref h29, .ref h30, .ref h31, .int 0])), (h13, .inr (9, [.ref h1, .ref h2, .ref h32, .ref h33, .ref h34, .int 0])), (h14, .inr (7, [.ref h35, .ref h36])), (h15, .inl (cI, 12, .inl (fun _ => 0))), (h16, .inr (1, [.ref h37, .int 1])), (h17, .inr (1, [.ref h38, .int 1])), (h18, .inl (cI, 5, .inl (fun _ => 0))), (h19, .inl (cI, 12, .inl (fun _ => 0))), (h20, .inr (1, [.ref h39, .int 1])), (h21, .inr (1, [.ref h40, .int 1])), (h22, .inl (cI, 12, .inl (fun _ => 0))), (h24, .inl (cI, 12, .inl (fun _ => 0))), (h25, .inr (6, [.ref h41, .int (-1), .int 0])), (h26, .inr (6, [.ref h42, .int (-1), .int 0])), (h27, .inr (6, [.ref h43, .int (-1), .int 0])), (h28, .inr (6, [.ref h44, .int (-1), .int 0])), (h29, .inl (cI, 12, .inl (fun _ => 0))), (h30, .inl (cI, 12, .inl (fun _ => 0))), (h31, .inl (cI, 12, .inl (fun _ => 0))), (h32, .inl (cI, 12, .inl (fun _ => 0))), (h33, .inl (cI, 12, .inl (fun _ => 0))), (h34, .inl (cI, 12, .inl (fun _ => 0))), (h35, .inl (cI, 4, .inl (fun _ => -1))), (h36, .inl (cI, 4, .inl (fun _ => 0))), (h37, .inl (cI, 4096, .inl (fun _ => 0))), (h38, .inl (cI, 0, .inl (fun _ => 0))), (h39, .inl (cI, 4096, .inl (fun _ => 0))), (h40, .inl (cI, 0, .inl (fun _ => 0))), (h41, .inl (cI, 40, .inl (fun _ => 0))), (h42, .inl (cI, 40, .inl (fun _ => 0))), (h43, .inl (cI, 40, .inl (fun _ => 0))), (h44, .inl (cI, 40, .inl (fun _ => 0))), (h9, .inr (8, [.ref h23, .int 1])), (h23, .inl (cI, 120, .inl (upd (fun _ => 0) 0 (((Int32.toUInt32 x0 >>> (Int32.toUInt32 24 &&& Int32.toUInt32 31)).toInt32) &&& (255 : Int32)))))] H := hP
                have hD : va_D A [(h0, .inr (11, [.ref h1, .ref h2, .ref h3, .ref h4, .ref h5, .ref h6, .ref h7, .int 0, .int 0, .ref h8, .ref h9, .ref h10, .ref h11, .ref h12, .ref h13, .ref h14])), (h1, .inr (2, [.ref h15, .int 0, .int 0])), (h2, .inr (3, [.ref h1, .ref h16, .ref h17, .int 0])), (h3, .inr (4, [.ref h1, .ref h2])), (h4, .inr (10, [.ref h1, .ref h2, .ref h18, .int 0, .int 0, .int 0, .int 0, .int (-1)])), (h5, .inr (2, [.ref h19, .int 0, .int 0])), (h6, .inr (3, [.ref h5, .ref h20, .ref h21, .int 0])), (h7, .inr (2, [.ref h22, .int 0, .int 0])), (h8, .inr (0, [.int 1])), (h10, .inr (5, [.ref h9, .ref h1, .ref h24, .int 0, .int 0, .int 0, .int 0, .int 0])), (h11, .inl (cS, 4, .inr (.inr (.inr (.inr (fun k => [h25, h26, h27, h28][k]?)))))), (h12, .inr (9, [.ref h1, .ref h2, .ref h29, .ref h30, .ref h31, .int 0])), (h13, .inr (9, [.ref h1, .ref h2, .ref h32, .ref h33, .ref h34, .int 0])), (h14, .inr (7, [.ref h35, .ref h36])), (h15, .inl (cI, 12, .inl (fun _ => 0))), (h16, .inr (1, [.ref h37, .int 1])), (h17, .inr (1, [.ref h38, .int 1])), (h18, .inl (cI, 5, .inl (fun _ => 0))), (h19, .inl (cI, 12, .inl (fun _ => 0))), (h20, .inr (1, [.ref h39, .int 1])), (h21, .inr (1, [.ref h40, .int 1])), (h22, .inl (cI, 12, .inl (fun _ => 0))), (h24, .inl (cI, 12, .inl (fun _ => 0))), (h25, .inr (6, [.ref h41, .int (-1), .int 0])), (h26, .inr (6, [.ref h42, .int (-1), .int 0])), (h27, .inr (6, [.ref h43, .int (-1), .int 0])), (h28, .inr (6, [.ref h44, .int (-1), .int 0])), (h29, .inl (cI, 12, .inl (fun _ => 0))), (h30, .inl (cI, 12, .inl (fun _ => 0))), (h31, .inl (cI, 12, .inl (fun _ => 0))), (h32, .inl (cI, 12, .inl (fun _ => 0))), (h33, .inl (cI, 12, .inl (fun _ => 0))), (h34, .inl (cI, 12, .inl (fun _ => 0))), (h35, .inl (cI, 4, .inl (fun _ => -1))), (h36, .inl (cI, 4, .inl (fun _ => 0))), (h37, .inl (cI, 4096, .inl (fun _ => 0))), (h38, .inl (cI, 0, .inl (fun _ => 0))), (h39, .inl (cI, 4096, .inl (fun _ => 0))), (h40, .inl (cI, 0, .inl (fun _ => 0))), (h41, .inl (cI, 40, .inl (fun _ => 0))), (h42, .inl (cI, 40, .inl (fun _ => 0))), (h43, .inl (cI, 40, .inl (fun _ => 0))), (h44, .inl (cI, 40, .inl (fun _ => 0))), (h9, .inr (8, [.ref h23, .int 1])), (h23, .inl (cI, 120, .inl (upd (fun _ => 0) 0 (((Int32.toUInt32 x0 >>> (Int32.toUInt32 24 &&& Int32.toUInt32 31)).toInt32) &&& (255 : Int32)))))] := hD
                refine lv_iinc (v := 2) (lv' := [(3, .int 2), (0, .ref h0), (1, .int x0), (2, .int 4)]) hx hb dX11_feed_55 hl (k := 0) rfl (by decide) (by decide) rfl (fun ls hl => ?_)
                refine lv_goto (tgt := 34) hx hb dX11_feed_58 (by decide) ?_
                refine lv_iload_n hx hb dX11_feed_34 rfl (lv_at hl 0 rfl) ?_
                refine lv_if_lt (tgt := 61) hx hb dX11_feed_35 (by decide) (fun c1807 => ?_) (fun c1807 => ?_)
                · exact absurd c1807 (by decide)
                · refine lv_aload_n hx hb dX11_feed_38 rfl (lv_at hl 1 rfl) ?_
                  refine va_get (D := D) (ci := 11) (v := .ref h9) (C := RX11) (T := TX11) (N := 16) hx hb hts hin11 hown hK hP 0 rfl rfl 10 (by decide) (hts (.fieldLink RX11 60 "MissedPoints" "tape" "LMissedPoints$Tape;") (by decide +kernel)) (fun _ h9 => h9) rfl dX11_feed_39 ?_
                  refine lv_iload_n hx hb dX11_feed_42 rfl (lv_at hl 2 rfl) ?_
                  refine lv_bipush (v := 8) hx hb dX11_feed_43 (by decide) ?_
                  refine lv_iload_n hx hb dX11_feed_45 rfl (lv_at hl 0 rfl) ?_
                  refine lv_imul hx hb dX11_feed_46 ?_
                  refine lz_top (y := 16) (by decide) ?_
                  refine lv_iushr (v := (Int32.toUInt32 x0 >>> (Int32.toUInt32 16 &&& Int32.toUInt32 31)).toInt32) hx hb dX11_feed_47 rfl ?_
                  refine lv_sipush (v := 255) hx hb dX11_feed_48 (by decide) ?_
                  refine lv_iand hx hb dX11_feed_51 ?_
                  have hPc := hP.sub (ws' := [(h9, .inr (8, [.ref h23, .int 1])), (h23, .inl (cI, 120, .inl (upd (fun _ => 0) 0 (((Int32.toUInt32 x0 >>> (Int32.toUInt32 24 &&& Int32.toUInt32 31)).toInt32) &&& (255 : Int32)))))]) [43, 44] rfl
                  have hDc := hD.sub (ws' := [(h9, .inr (8, [.ref h23, .int 1])), (h23, .inl (cI, 120, .inl (upd (fun _ => 0) 0 (((Int32.toUInt32 x0 >>> (Int32.toUInt32 24 &&& Int32.toUInt32 31)).toInt32) &&& (255 : Int32)))))]) [43, 44] (by decide) rfl
                  refine lz_qv (wr := [(h0, .inr (11, [.ref h1, .ref h2, .ref h3, .ref h4, .ref h5, .ref h6, .ref h7, .int 0, .int 0, .ref h8, .ref h9, .ref h10, .ref h11, .ref h12, .ref h13, .ref h14])), (h1, .inr (2, [.ref h15, .int 0, .int 0])), (h2, .inr (3, [.ref h1, .ref h16, .ref h17, .int 0])), (h3, .inr (4, [.ref h1, .ref h2])), (h4, .inr (10, [.ref h1, .ref h2, .ref h18, .int 0, .int 0, .int 0, .int 0, .int (-1)])), (h5, .inr (2, [.ref h19, .int 0, .int 0])), (h6, .inr (3, [.ref h5, .ref h20, .ref h21, .int 0])), (h7, .inr (2, [.ref h22, .int 0, .int 0])), (h8, .inr (0, [.int 1])), (h10, .inr (5, [.ref h9, .ref h1, .ref h24, .int 0, .int 0, .int 0, .int 0, .int 0])), (h11, .inl (cS, 4, .inr (.inr (.inr (.inr (fun k => [h25, h26, h27, h28][k]?)))))), (h12, .inr (9, [.ref h1, .ref h2, .ref h29, .ref h30, .ref h31, .int 0])), (h13, .inr (9, [.ref h1, .ref h2, .ref h32, .ref h33, .ref h34, .int 0])), (h14, .inr (7, [.ref h35, .ref h36])), (h15, .inl (cI, 12, .inl (fun _ => 0))), (h16, .inr (1, [.ref h37, .int 1])), (h17, .inr (1, [.ref h38, .int 1])), (h18, .inl (cI, 5, .inl (fun _ => 0))), (h19, .inl (cI, 12, .inl (fun _ => 0))), (h20, .inr (1, [.ref h39, .int 1])), (h21, .inr (1, [.ref h40, .int 1])), (h22, .inl (cI, 12, .inl (fun _ => 0))), (h24, .inl (cI, 12, .inl (fun _ => 0))), (h25, .inr (6, [.ref h41, .int (-1), .int 0])), (h26, .inr (6, [.ref h42, .int (-1), .int 0])), (h27, .inr (6, [.ref h43, .int (-1), .int 0])), (h28, .inr (6, [.ref h44, .int (-1), .int 0])), (h29, .inl (cI, 12, .inl (fun _ => 0))), (h30, .inl (cI, 12, .inl (fun _ => 0))), (h31, .inl (cI, 12, .inl (fun _ => 0))), (h32, .inl (cI, 12, .inl (fun _ => 0))), (h33, .inl (cI, 12, .inl (fun _ => 0))), (h34, .inl (cI, 12, .inl (fun _ => 0))), (h35, .inl (cI, 4, .inl (fun _ => -1))), (h36, .inl (cI, 4, .inl (fun _ => 0))), (h37, .inl (cI, 4096, .inl (fun _ => 0))), (h38, .inl (cI, 0, .inl (fun _ => 0))), (h39, .inl (cI, 4096, .inl (fun _ => 0))), (h40, .inl (cI, 0, .inl (fun _ => 0))), (h41, .inl (cI, 40, .inl (fun _ => 0))), (h42, .inl (cI, 40, .inl (fun _ => 0))), (h43, .inl (cI, 40, .inl (fun _ => 0))), (h44, .inl (cI, 40, .inl (fun _ => 0)))]) (w1 := [(h9, .inr (8, [.ref h23, .int 2])), (h23, .inl (cI, 120, .inl (upd (upd (fun _ => 0) 0 (((Int32.toUInt32 x0 >>> (Int32.toUInt32 24 &&& Int32.toUInt32 31)).toInt32) &&& (255 : Int32))) 1 (((Int32.toUInt32 x0 >>> (Int32.toUInt32 16 &&& Int32.toUInt32 31)).toInt32) &&& (255 : Int32)))))]) (As := [.int (((Int32.toUInt32 x0 >>> (Int32.toUInt32 16 &&& Int32.toUInt32 31)).toInt32) &&& (255 : Int32))]) (rest := []) ⟨hx, hb, hml, hown, hts⟩ (c_X8_append_1 l D cI cS H.size h9 h23 ((upd (fun _ => 0) 0 (((Int32.toUInt32 x0 >>> (Int32.toUInt32 24 &&& Int32.toUInt32 31)).toInt32) &&& (255 : Int32)))) (((Int32.toUInt32 x0 >>> (Int32.toUInt32 16 &&& Int32.toUInt32 31)).toInt32) &&& (255 : Int32))) hKK hP hD hS hA [43, 44] [0, 1, 2, 3, 4, 5, 6, 7, 8, 9, 10, 11, 12, 13, 14, 15, 16, 17, 18, 19, 20, 21, 22, 23, 24, 25, 26, 27, 28, 29, 30, 31, 32, 33, 34, 35, 36, 37, 38, 39, 40, 41, 42] (by decide) rfl rfl (by decide) (by decide) hPc hDc (ci := 8) rfl rfl (cwV 1 hts gX11_feed_X8_append rfl rfl rfl (by decide +kernel) ⟨Nat.le_of_ble_eq_true rfl, Nat.le_of_ble_eq_true rfl⟩) rfl hl.1 rfl (Nat.le_of_ble_eq_true rfl) dX11_feed_52 ⟨Nat.le_of_ble_eq_true rfl, Nat.le_of_ble_eq_true rfl⟩ (fun H locs hP hD hS => ?_)
                  have hP : va_P D cls [(h0, .inr (11, [.ref h1, .ref h2, .ref h3, .ref h4, .ref h5, .ref h6, .ref h7, .int 0, .int 0, .ref h8, .ref h9, .ref h10, .ref h11, .ref h12, .ref h13, .ref h14])), (h1, .inr (2, [.ref h15, .int 0, .int 0])), (h2, .inr (3, [.ref h1, .ref h16, .ref h17, .int 0])), (h3, .inr (4, [.ref h1, .ref h2])), (h4, .inr (10, [.ref h1, .ref h2, .ref h18, .int 0, .int 0, .int 0, .int 0, .int (-1)])), (h5, .inr (2, [.ref h19, .int 0, .int 0])), (h6, .inr (3, [.ref h5, .ref h20, .ref h21, .int 0])), (h7, .inr (2, [.ref h22, .int 0, .int 0])), (h8, .inr (0, [.int 1])), (h10, .inr (5, [.ref h9, .ref h1, .ref h24, .int 0, .int 0, .int 0, .int 0, .int 0])), (h11, .inl (cS, 4, .inr (.inr (.inr (.inr (fun k => [h25, h26, h27, h28][k]?)))))), (h12, .inr (9, [.ref h1, .ref h2, .ref h29, .ref h30, .ref h31, .int 0])), (h13, .inr (9, [.ref h1, .ref h2, .ref h32, .ref h33, .ref h34, .int 0])), (h14, .inr (7, [.ref h35, .ref h36])), (h15, .inl (cI, 12, .inl (fun _ => 0))), (h16, .inr (1, [.ref h37, .int 1])), (h17, .inr (1, [.ref h38, .int 1])), (h18, .inl (cI, 5, .inl (fun _ => 0))), (h19, .inl (cI, 12, .inl (fun _ => 0))), (h20, .inr (1, [.ref h39, .int 1])), (h21, .inr (1, [.ref h40, .int 1])), (h22, .inl (cI, 12, .inl (fun _ => 0))), (h24, .inl (cI, 12, .inl (fun _ => 0))), (h25, .inr (6, [.ref h41, .int (-1), .int 0])), (h26, .inr (6, [.ref h42, .int (-1), .int 0])), (h27, .inr (6, [.ref h43, .int (-1), .int 0])), (h28, .inr (6, [.ref h44, .int (-1), .int 0])), (h29, .inl (cI, 12, .inl (fun _ => 0))), (h30, .inl (cI, 12, .inl (fun _ => 0))), (h31, .inl (cI, 12, .inl (fun _ => 0))), (h32, .inl (cI, 12, .inl (fun _ => 0))), (h33, .inl (cI, 12, .inl (fun _ => 0))), (h34, .inl (cI, 12, .inl (fun _ => 0))), (h35, .inl (cI, 4, .inl (fun _ => -1))), (h36, .inl (cI, 4, .inl (fun _ => 0))), (h37, .inl (cI, 4096, .inl (fun _ => 0))), (h38, .inl (cI, 0, .inl (fun _ => 0))), (h39, .inl (cI, 4096, .inl (fun _ => 0))), (h40, .inl (cI, 0, .inl (fun _ => 0))), (h41, .inl (cI, 40, .inl (fun _ => 0))), (h42, .inl (cI, 40, .inl (fun _ => 0))), (h43, .inl (cI, 40, .inl (fun _ => 0))), (h44, .inl (cI, 40, .inl (fun _ => 0))), (h9, .inr (8, [.ref h23, .int 2])), (h23, .inl (cI, 120, .inl (upd (upd (fun _ => 0) 0 (((Int32.toUInt32 x0 >>> (Int32.toUInt32 24 &&& Int32.toUInt32 31)).toInt32) &&& (255 : Int32))) 1 (((Int32.toUInt32 x0 >>> (Int32.toUInt32 16 &&& Int32.toUInt32 31)).toInt32) &&& (255 : Int32)))))] H := hP
                  have hD : va_D A [(h0, .inr (11, [.ref h1, .ref h2, .ref h3, .ref h4, .ref h5, .ref h6, .ref h7, .int 0, .int 0, .ref h8, .ref h9, .ref h10, .ref h11, .ref h12, .ref h13, .ref h14])), (h1, .inr (2, [.ref h15, .int 0, .int 0])), (h2, .inr (3, [.ref h1, .ref h16, .ref h17, .int 0])), (h3, .inr (4, [.ref h1, .ref h2])), (h4, .inr (10, [.ref h1, .ref h2, .ref h18, .int 0, .int 0, .int 0, .int 0, .int (-1)])), (h5, .inr (2, [.ref h19, .int 0, .int 0])), (h6, .inr (3, [.ref h5, .ref h20, .ref h21, .int 0])), (h7, .inr (2, [.ref h22, .int 0, .int 0])), (h8, .inr (0, [.int 1])), (h10, .inr (5, [.ref h9, .ref h1, .ref h24, .int 0, .int 0, .int 0, .int 0, .int 0])), (h11, .inl (cS, 4, .inr (.inr (.inr (.inr (fun k => [h25, h26, h27, h28][k]?)))))), (h12, .inr (9, [.ref h1, .ref h2, .ref h29, .ref h30, .ref h31, .int 0])), (h13, .inr (9, [.ref h1, .ref h2, .ref h32, .ref h33, .ref h34, .int 0])), (h14, .inr (7, [.ref h35, .ref h36])), (h15, .inl (cI, 12, .inl (fun _ => 0))), (h16, .inr (1, [.ref h37, .int 1])), (h17, .inr (1, [.ref h38, .int 1])), (h18, .inl (cI, 5, .inl (fun _ => 0))), (h19, .inl (cI, 12, .inl (fun _ => 0))), (h20, .inr (1, [.ref h39, .int 1])), (h21, .inr (1, [.ref h40, .int 1])), (h22, .inl (cI, 12, .inl (fun _ => 0))), (h24, .inl (cI, 12, .inl (fun _ => 0))), (h25, .inr (6, [.ref h41, .int (-1), .int 0])), (h26, .inr (6, [.ref h42, .int (-1), .int 0])), (h27, .inr (6, [.ref h43, .int (-1), .int 0])), (h28, .inr (6, [.ref h44, .int (-1), .int 0])), (h29, .inl (cI, 12, .inl (fun _ => 0))), (h30, .inl (cI, 12, .inl (fun _ => 0))), (h31, .inl (cI, 12, .inl (fun _ => 0))), (h32, .inl (cI, 12, .inl (fun _ => 0))), (h33, .inl (cI, 12, .inl (fun _ => 0))), (h34, .inl (cI, 12, .inl (fun _ => 0))), (h35, .inl (cI, 4, .inl (fun _ => -1))), (h36, .inl (cI, 4, .inl (fun _ => 0))), (h37, .inl (cI, 4096, .inl (fun _ => 0))), (h38, .inl (cI, 0, .inl (fun _ => 0))), (h39, .inl (cI, 4096, .inl (fun _ => 0))), (h40, .inl (cI, 0, .inl (fun _ => 0))), (h41, .inl (cI, 40, .inl (fun _ => 0))), (h42, .inl (cI, 40, .inl (fun _ => 0))), (h43, .inl (cI, 40, .inl (fun _ => 0))), (h44, .inl (cI, 40, .inl (fun _ => 0))), (h9, .inr (8, [.ref h23, .int 2])), (h23, .inl (cI, 120, .inl (upd (upd (fun _ => 0) 0 (((Int32.toUInt32 x0 >>> (Int32.toUInt32 24 &&& Int32.toUInt32 31)).toInt32) &&& (255 : Int32))) 1 (((Int32.toUInt32 x0 >>> (Int32.toUInt32 16 &&& Int32.toUInt32 31)).toInt32) &&& (255 : Int32)))))] := hD
                  refine lv_iinc (v := 1) (lv' := [(3, .int 1), (0, .ref h0), (1, .int x0), (2, .int 4)]) hx hb dX11_feed_55 hl (k := 0) rfl (by decide) (by decide) rfl (fun ls hl => ?_)
                  refine lv_goto (tgt := 34) hx hb dX11_feed_58 (by decide) ?_
                  refine lv_iload_n hx hb dX11_feed_34 rfl (lv_at hl 0 rfl) ?_
                  refine lv_if_lt (tgt := 61) hx hb dX11_feed_35 (by decide) (fun c1809 => ?_) (fun c1809 => ?_)
                  · exact absurd c1809 (by decide)
                  · refine lv_aload_n hx hb dX11_feed_38 rfl (lv_at hl 1 rfl) ?_
                    refine va_get (D := D) (ci := 11) (v := .ref h9) (C := RX11) (T := TX11) (N := 16) hx hb hts hin11 hown hK hP 0 rfl rfl 10 (by decide) (hts (.fieldLink RX11 60 "MissedPoints" "tape" "LMissedPoints$Tape;") (by decide +kernel)) (fun _ h9 => h9) rfl dX11_feed_39 ?_
                    refine lv_iload_n hx hb dX11_feed_42 rfl (lv_at hl 2 rfl) ?_
                    refine lv_bipush (v := 8) hx hb dX11_feed_43 (by decide) ?_
                    refine lv_iload_n hx hb dX11_feed_45 rfl (lv_at hl 0 rfl) ?_
                    refine lv_imul hx hb dX11_feed_46 ?_
                    refine lz_top (y := 8) (by decide) ?_
                    refine lv_iushr (v := (Int32.toUInt32 x0 >>> (Int32.toUInt32 8 &&& Int32.toUInt32 31)).toInt32) hx hb dX11_feed_47 rfl ?_
                    refine lv_sipush (v := 255) hx hb dX11_feed_48 (by decide) ?_
                    refine lv_iand hx hb dX11_feed_51 ?_
                    have hPc := hP.sub (ws' := [(h9, .inr (8, [.ref h23, .int 2])), (h23, .inl (cI, 120, .inl (upd (upd (fun _ => 0) 0 (((Int32.toUInt32 x0 >>> (Int32.toUInt32 24 &&& Int32.toUInt32 31)).toInt32) &&& (255 : Int32))) 1 (((Int32.toUInt32 x0 >>> (Int32.toUInt32 16 &&& Int32.toUInt32 31)).toInt32) &&& (255 : Int32)))))]) [43, 44] rfl
                    have hDc := hD.sub (ws' := [(h9, .inr (8, [.ref h23, .int 2])), (h23, .inl (cI, 120, .inl (upd (upd (fun _ => 0) 0 (((Int32.toUInt32 x0 >>> (Int32.toUInt32 24 &&& Int32.toUInt32 31)).toInt32) &&& (255 : Int32))) 1 (((Int32.toUInt32 x0 >>> (Int32.toUInt32 16 &&& Int32.toUInt32 31)).toInt32) &&& (255 : Int32)))))]) [43, 44] (by decide) rfl
                    refine lz_qv (wr := [(h0, .inr (11, [.ref h1, .ref h2, .ref h3, .ref h4, .ref h5, .ref h6, .ref h7, .int 0, .int 0, .ref h8, .ref h9, .ref h10, .ref h11, .ref h12, .ref h13, .ref h14])), (h1, .inr (2, [.ref h15, .int 0, .int 0])), (h2, .inr (3, [.ref h1, .ref h16, .ref h17, .int 0])), (h3, .inr (4, [.ref h1, .ref h2])), (h4, .inr (10, [.ref h1, .ref h2, .ref h18, .int 0, .int 0, .int 0, .int 0, .int (-1)])), (h5, .inr (2, [.ref h19, .int 0, .int 0])), (h6, .inr (3, [.ref h5, .ref h20, .ref h21, .int 0])), (h7, .inr (2, [.ref h22, .int 0, .int 0])), (h8, .inr (0, [.int 1])), (h10, .inr (5, [.ref h9, .ref h1, .ref h24, .int 0, .int 0, .int 0, .int 0, .int 0])), (h11, .inl (cS, 4, .inr (.inr (.inr (.inr (fun k => [h25, h26, h27, h28][k]?)))))), (h12, .inr (9, [.ref h1, .ref h2, .ref h29, .ref h30, .ref h31, .int 0])), (h13, .inr (9, [.ref h1, .ref h2, .ref h32, .ref h33, .ref h34, .int 0])), (h14, .inr (7, [.ref h35, .ref h36])), (h15, .inl (cI, 12, .inl (fun _ => 0))), (h16, .inr (1, [.ref h37, .int 1])), (h17, .inr (1, [.ref h38, .int 1])), (h18, .inl (cI, 5, .inl (fun _ => 0))), (h19, .inl (cI, 12, .inl (fun _ => 0))), (h20, .inr (1, [.ref h39, .int 1])), (h21, .inr (1, [.ref h40, .int 1])), (h22, .inl (cI, 12, .inl (fun _ => 0))), (h24, .inl (cI, 12, .inl (fun _ => 0))), (h25, .inr (6, [.ref h41, .int (-1), .int 0])), (h26, .inr (6, [.ref h42, .int (-1), .int 0])), (h27, .inr (6, [.ref h43, .int (-1), .int 0])), (h28, .inr (6, [.ref h44, .int (-1), .int 0])), (h29, .inl (cI, 12, .inl (fun _ => 0))), (h30, .inl (cI, 12, .inl (fun _ => 0))), (h31, .inl (cI, 12, .inl (fun _ => 0))), (h32, .inl (cI, 12, .inl (fun _ => 0))), (h33, .inl (cI, 12, .inl (fun _ => 0))), (h34, .inl (cI, 12, .inl (fun _ => 0))), (h35, .inl (cI, 4, .inl (fun _ => -1))), (h36, .inl (cI, 4, .inl (fun _ => 0))), (h37, .inl (cI, 4096, .inl (fun _ => 0))), (h38, .inl (cI, 0, .inl (fun _ => 0))), (h39, .inl (cI, 4096, .inl (fun _ => 0))), (h40, .inl (cI, 0, .inl (fun _ => 0))), (h41, .inl (cI, 40, .inl (fun _ => 0))), (h42, .inl (cI, 40, .inl (fun _ => 0))), (h43, .inl (cI, 40, .inl (fun _ => 0))), (h44, .inl (cI, 40, .inl (fun _ => 0)))]) (w1 := [(h9, .inr (8, [.ref h23, .int 3])), (h23, .inl (cI, 120, .inl (upd (upd (upd (fun _ => 0) 0 (((Int32.toUInt32 x0 >>> (Int32.toUInt32 24 &&& Int32.toUInt32 31)).toInt32) &&& (255 : Int32))) 1 (((Int32.toUInt32 x0 >>> (Int32.toUInt32 16 &&& Int32.toUInt32 31)).toInt32) &&& (255 : Int32))) 2 (((Int32.toUInt32 x0 >>> (Int32.toUInt32 8 &&& Int32.toUInt32 31)).toInt32) &&& (255 : Int32)))))]) (As := [.int (((Int32.toUInt32 x0 >>> (Int32.toUInt32 8 &&& Int32.toUInt32 31)).toInt32) &&& (255 : Int32))]) (rest := []) ⟨hx, hb, hml, hown, hts⟩ (c_X8_append_2 l D cI cS H.size h9 h23 ((upd (upd (fun _ => 0) 0 (((Int32.toUInt32 x0 >>> (Int32.toUInt32 24 &&& Int32.toUInt32 31)).toInt32) &&& (255 : Int32))) 1 (((Int32.toUInt32 x0 >>> (Int32.toUInt32 16 &&& Int32.toUInt32 31)).toInt32) &&& (255 : Int32)))) (((Int32.toUInt32 x0 >>> (Int32.toUInt32 8 &&& Int32.toUInt32 31)).toInt32) &&& (255 : Int32))) hKK hP hD hS hA [43, 44] [0, 1, 2, 3, 4, 5, 6, 7, 8, 9, 10, 11, 12, 13, 14, 15, 16, 17, 18, 19, 20, 21, 22, 23, 24, 25, 26, 27, 28, 29, 30, 31, 32, 33, 34, 35, 36, 37, 38, 39, 40, 41, 42] (by decide) rfl rfl (by decide) (by decide) hPc hDc (ci := 8) rfl rfl (cwV 1 hts gX11_feed_X8_append rfl rfl rfl (by decide +kernel) ⟨Nat.le_of_ble_eq_true rfl, Nat.le_of_ble_eq_true rfl⟩) rfl hl.1 rfl (Nat.le_of_ble_eq_true rfl) dX11_feed_52 ⟨Nat.le_of_ble_eq_true rfl, Nat.le_of_ble_eq_true rfl⟩ (fun H locs hP hD hS => ?_)
                    have hP : va_P D cls [(h0, .inr (11, [.ref h1, .ref h2, .ref h3, .ref h4, .ref h5, .ref h6, .ref h7, .int 0, .int 0, .ref h8, .ref h9, .ref h10, .ref h11, .ref h12, .ref h13, .ref h14])), (h1, .inr (2, [.ref h15, .int 0, .int 0])), (h2, .inr (3, [.ref h1, .ref h16, .ref h17, .int 0])), (h3, .inr (4, [.ref h1, .ref h2])), (h4, .inr (10, [.ref h1, .ref h2, .ref h18, .int 0, .int 0, .int 0, .int 0, .int (-1)])), (h5, .inr (2, [.ref h19, .int 0, .int 0])), (h6, .inr (3, [.ref h5, .ref h20, .ref h21, .int 0])), (h7, .inr (2, [.ref h22, .int 0, .int 0])), (h8, .inr (0, [.int 1])), (h10, .inr (5, [.ref h9, .ref h1, .ref h24, .int 0, .int 0, .int 0, .int 0, .int 0])), (h11, .inl (cS, 4, .inr (.inr (.inr (.inr (fun k => [h25, h26, h27, h28][k]?)))))), (h12, .inr (9, [.ref h1, .ref h2, .ref h29, .ref h30, .ref h31, .int 0])), (h13, .inr (9, [.ref h1, .ref h2, .ref h32, .ref h33, .ref h34, .int 0])), (h14, .inr (7, [.ref h35, .ref h36])), (h15, .inl (cI, 12, .inl (fun _ => 0))), (h16, .inr (1, [.ref h37, .int 1])), (h17, .inr (1, [.ref h38, .int 1])), (h18, .inl (cI, 5, .inl (fun _ => 0))), (h19, .inl (cI, 12, .inl (fun _ => 0))), (h20, .inr (1, [.ref h39, .int 1])), (h21, .inr (1, [.ref h40, .int 1])), (h22, .inl (cI, 12, .inl (fun _ => 0))), (h24, .inl (cI, 12, .inl (fun _ => 0))), (h25, .inr (6, [.ref h41, .int (-1), .int 0])), (h26, .inr (6, [.ref h42, .int (-1), .int 0])), (h27, .inr (6, [.ref h43, .int (-1), .int 0])), (h28, .inr (6, [.ref h44, .int (-1), .int 0])), (h29, .inl (cI, 12, .inl (fun _ => 0))), (h30, .inl (cI, 12, .inl (fun _ => 0))), (h31, .inl (cI, 12, .inl (fun _ => 0))), (h32, .inl (cI, 12, .inl (fun _ => 0))), (h33, .inl (cI, 12, .inl (fun _ => 0))), (h34, .inl (cI, 12, .inl (fun _ => 0))), (h35, .inl (cI, 4, .inl (fun _ => -1))), (h36, .inl (cI, 4, .inl (fun _ => 0))), (h37, .inl (cI, 4096, .inl (fun _ => 0))), (h38, .inl (cI, 0, .inl (fun _ => 0))), (h39, .inl (cI, 4096, .inl (fun _ => 0))), (h40, .inl (cI, 0, .inl (fun _ => 0))), (h41, .inl (cI, 40, .inl (fun _ => 0))), (h42, .inl (cI, 40, .inl (fun _ => 0))), (h43, .inl (cI, 40, .inl (fun _ => 0))), (h44, .inl (cI, 40, .inl (fun _ => 0))), (h9, .inr (8, [.ref h23, .int 3])), (h23, .inl (cI, 120, .inl (upd (upd (upd (fun _ => 0) 0 (((Int32.toUInt32 x0 >>> (Int32.toUInt32 24 &&& Int32.toUInt32 31)).toInt32) &&& (255 : Int32))) 1 (((Int32.toUInt32 x0 >>> (Int32.toUInt32 16 &&& Int32.toUInt32 31)).toInt32) &&& (255 : Int32))) 2 (((Int32.toUInt32 x0 >>> (Int32.toUInt32 8 &&& Int32.toUInt32 31)).toInt32) &&& (255 : Int32)))))] H := hP
                    have hD : va_D A [(h0, .inr (11, [.ref h1, .ref h2, .ref h3, .ref h4, .ref h5, .ref h6, .ref h7, .int 0, .int 0, .ref h8, .ref h9, .ref h10, .ref h11, .ref h12, .ref h13, .ref h14])), (h1, .inr (2, [.ref h15, .int 0, .int 0])), (h2, .inr (3, [.ref h1, .ref h16, .ref h17, .int 0])), (h3, .inr (4, [.ref h1, .ref h2])), (h4, .inr (10, [.ref h1, .ref h2, .ref h18, .int 0, .int 0, .int 0, .int 0, .int (-1)])), (h5, .inr (2, [.ref h19, .int 0, .int 0])), (h6, .inr (3, [.ref h5, .ref h20, .ref h21, .int 0])), (h7, .inr (2, [.ref h22, .int 0, .int 0])), (h8, .inr (0, [.int 1])), (h10, .inr (5, [.ref h9, .ref h1, .ref h24, .int 0, .int 0, .int 0, .int 0, .int 0])), (h11, .inl (cS, 4, .inr (.inr (.inr (.inr (fun k => [h25, h26, h27, h28][k]?)))))), (h12, .inr (9, [.ref h1, .ref h2, .ref h29, .ref h30, .ref h31, .int 0])), (h13, .inr (9, [.ref h1, .ref h2, .ref h32, .ref h33, .ref h34, .int 0])), (h14, .inr (7, [.ref h35, .ref h36])), (h15, .inl (cI, 12, .inl (fun _ => 0))), (h16, .inr (1, [.ref h37, .int 1])), (h17, .inr (1, [.ref h38, .int 1])), (h18, .inl (cI, 5, .inl (fun _ => 0))), (h19, .inl (cI, 12, .inl (fun _ => 0))), (h20, .inr (1, [.ref h39, .int 1])), (h21, .inr (1, [.ref h40, .int 1])), (h22, .inl (cI, 12, .inl (fun _ => 0))), (h24, .inl (cI, 12, .inl (fun _ => 0))), (h25, .inr (6, [.ref h41, .int (-1), .int 0])), (h26, .inr (6, [.ref h42, .int (-1), .int 0])), (h27, .inr (6, [.ref h43, .int (-1), .int 0])), (h28, .inr (6, [.ref h44, .int (-1), .int 0])), (h29, .inl (cI, 12, .inl (fun _ => 0))), (h30, .inl (cI, 12, .inl (fun _ => 0))), (h31, .inl (cI, 12, .inl (fun _ => 0))), (h32, .inl (cI, 12, .inl (fun _ => 0))), (h33, .inl (cI, 12, .inl (fun _ => 0))), (h34, .inl (cI, 12, .inl (fun _ => 0))), (h35, .inl (cI, 4, .inl (fun _ => -1))), (h36, .inl (cI, 4, .inl (fun _ => 0))), (h37, .inl (cI, 4096, .inl (fun _ => 0))), (h38, .inl (cI, 0, .inl (fun _ => 0))), (h39, .inl (cI, 4096, .inl (fun _ => 0))), (h40, .inl (cI, 0, .inl (fun _ => 0))), (h41, .inl (cI, 40, .inl (fun _ => 0))), (h42, .inl (cI, 40, .inl (fun _ => 0))), (h43, .inl (cI, 40, .inl (fun _ => 0))), (h44, .inl (cI, 40, .inl (fun _ => 0))), (h9, .inr (8, [.ref h23, .int 3])), (h23, .inl (cI, 120, .inl (upd (upd (upd (fun _ => 0) 0 (((Int32.toUInt32 x0 >>> (Int32.toUInt32 24 &&& Int32.toUInt32 31)).toInt32) &&& (255 : Int32))) 1 (((Int32.toUInt32 x0 >>> (Int32.toUInt32 16 &&& Int32.toUInt32 31)).toInt32) &&& (255 : Int32))) 2 (((Int32.toUInt32 x0 >>> (Int32.toUInt32 8 &&& Int32.toUInt32 31)).toInt32) &&& (255 : Int32)))))] := hD
                    refine lv_iinc (v := 0) (lv' := [(3, .int 0), (0, .ref h0), (1, .int x0), (2, .int 4)]) hx hb dX11_feed_55 hl (k := 0) rfl (by decide) (by decide) rfl (fun ls hl => ?_)
                    refine lv_goto (tgt := 34) hx hb dX11_feed_58 (by decide) ?_
                    refine lv_iload_n hx hb dX11_feed_34 rfl (lv_at hl 0 rfl) ?_
                    refine lv_if_lt (tgt := 61) hx hb dX11_feed_35 (by decide) (fun c1811 => ?_) (fun c1811 => ?_)
                    · exact absurd c1811 (by decide)
                    · refine lv_aload_n hx hb dX11_feed_38 rfl (lv_at hl 1 rfl) ?_
                      refine va_get (D := D) (ci := 11) (v := .ref h9) (C := RX11) (T := TX11) (N := 16) hx hb hts hin11 hown hK hP 0 rfl rfl 10 (by decide) (hts (.fieldLink RX11 60 "MissedPoints" "tape" "LMissedPoints$Tape;") (by decide +kernel)) (fun _ h9 => h9) rfl dX11_feed_39 ?_
                      refine lv_iload_n hx hb dX11_feed_42 rfl (lv_at hl 2 rfl) ?_
                      refine lv_bipush (v := 8) hx hb dX11_feed_43 (by decide) ?_
                      refine lv_iload_n hx hb dX11_feed_45 rfl (lv_at hl 0 rfl) ?_
                      refine lv_imul hx hb dX11_feed_46 ?_
                      refine lz_top (y := 0) (by decide) ?_
                      refine lv_iushr (v := (Int32.toUInt32 x0 >>> (Int32.toUInt32 0 &&& Int32.toUInt32 31)).toInt32) hx hb dX11_feed_47 rfl ?_
                      refine lv_sipush (v := 255) hx hb dX11_feed_48 (by decide) ?_
                      refine lv_iand hx hb dX11_feed_51 ?_
                      have hPc := hP.sub (ws' := [(h9, .inr (8, [.ref h23, .int 3])), (h23, .inl (cI, 120, .inl (upd (upd (upd (fun _ => 0) 0 (((Int32.toUInt32 x0 >>> (Int32.toUInt32 24 &&& Int32.toUInt32 31)).toInt32) &&& (255 : Int32))) 1 (((Int32.toUInt32 x0 >>> (Int32.toUInt32 16 &&& Int32.toUInt32 31)).toInt32) &&& (255 : Int32))) 2 (((Int32.toUInt32 x0 >>> (Int32.toUInt32 8 &&& Int32.toUInt32 31)).toInt32) &&& (255 : Int32)))))]) [43, 44] rfl
                      have hDc := hD.sub (ws' := [(h9, .inr (8, [.ref h23, .int 3])), (h23, .inl (cI, 120, .inl (upd (upd (upd (fun _ => 0) 0 (((Int32.toUInt32 x0 >>> (Int32.toUInt32 24 &&& Int32.toUInt32 31)).toInt32) &&& (255 : Int32))) 1 (((Int32.toUInt32 x0 >>> (Int32.toUInt32 16 &&& Int32.toUInt32 31)).toInt32) &&& (255 : Int32))) 2 (((Int32.toUInt32 x0 >>> (Int32.toUInt32 8 &&& Int32.toUInt32 31)).toInt32) &&& (255 : Int32)))))]) [43, 44] (by decide) rfl
                      refine lz_qv (wr := [(h0, .inr (11, [.ref h1, .ref h2, .ref h3, .ref h4, .ref h5, .ref h6, .ref h7, .int 0, .int 0, .ref h8, .ref h9, .ref h10, .ref h11, .ref h12, .ref h13, .ref h14])), (h1, .inr (2, [.ref h15, .int 0, .int 0])), (h2, .inr (3, [.ref h1, .ref h16, .ref h17, .int 0])), (h3, .inr (4, [.ref h1, .ref h2])), (h4, .inr (10, [.ref h1, .ref h2, .ref h18, .int 0, .int 0, .int 0, .int 0, .int (-1)])), (h5, .inr (2, [.ref h19, .int 0, .int 0])), (h6, .inr (3, [.ref h5, .ref h20, .ref h21, .int 0])), (h7, .inr (2, [.ref h22, .int 0, .int 0])), (h8, .inr (0, [.int 1])), (h10, .inr (5, [.ref h9, .ref h1, .ref h24, .int 0, .int 0, .int 0, .int 0, .int 0])), (h11, .inl (cS, 4, .inr (.inr (.inr (.inr (fun k => [h25, h26, h27, h28][k]?)))))), (h12, .inr (9, [.ref h1, .ref h2, .ref h29, .ref h30, .ref h31, .int 0])), (h13, .inr (9, [.ref h1, .ref h2, .ref h32, .ref h33, .ref h34, .int 0])), (h14, .inr (7, [.ref h35, .ref h36])), (h15, .inl (cI, 12, .inl (fun _ => 0))), (h16, .inr (1, [.ref h37, .int 1])), (h17, .inr (1, [.ref h38, .int 1])), (h18, .inl (cI, 5, .inl (fun _ => 0))), (h19, .inl (cI, 12, .inl (fun _ => 0))), (h20, .inr (1, [.ref h39, .int 1])), (h21, .inr (1, [.ref h40, .int 1])), (h22, .inl (cI, 12, .inl (fun _ => 0))), (h24, .inl (cI, 12, .inl (fun _ => 0))), (h25, .inr (6, [.ref h41, .int (-1), .int 0])), (h26, .inr (6, [.ref h42, .int (-1), .int 0])), (h27, .inr (6, [.ref h43, .int (-1), .int 0])), (h28, .inr (6, [.ref h44, .int (-1), .int 0])), (h29, .inl (cI, 12, .inl (fun _ => 0))), (h30, .inl (cI, 12, .inl (fun _ => 0))), (h31, .inl (cI, 12, .inl (fun _ => 0))), (h32, .inl (cI, 12, .inl (fun _ => 0))), (h33, .inl (cI, 12, .inl (fun _ => 0))), (h34, .inl (cI, 12, .inl (fun _ => 0))), (h35, .inl (cI, 4, .inl (fun _ => -1))), (h36, .inl (cI, 4, .inl (fun _ => 0))), (h37, .inl (cI, 4096, .inl (fun _ => 0))), (h38, .inl (cI, 0, .inl (fun _ => 0))), (h39, .inl (cI, 4096, .inl (fun _ => 0))), (h40, .inl (cI, 0, .inl (fun _ => 0))), (h41, .inl (cI, 40, .inl (fun _ => 0))), (h42, .inl (cI, 40, .inl (fun _ => 0))), (h43, .inl (cI, 40, .inl (fun _ => 0))), (h44, .inl (cI, 40, .inl (fun _ => 0)))]) (w1 := [(h9, .inr (8, [.ref h23, .int 4])), (h23, .inl (cI, 120, .inl (upd (upd (upd (upd (fun _ => 0) 0 (((Int32.toUInt32 x0 >>> (Int32.toUInt32 24 &&& Int32.toUInt32 31)).toInt32) &&& (255 : Int32))) 1 (((Int32.toUInt32 x0 >>> (Int32.toUInt32 16 &&& Int32.toUInt32 31)).toInt32) &&& (255 : Int32))) 2 (((Int32.toUInt32 x0 >>> (Int32.toUInt32 8 &&& Int32.toUInt32 31)).toInt32) &&& (255 : Int32))) 3 (((Int32.toUInt32 x0 >>> (Int32.toUInt32 0 &&& Int32.toUInt32 31)).toInt32) &&& (255 : Int32)))))]) (As := [.int (((Int32.toUInt32 x0 >>> (Int32.toUInt32 0 &&& Int32.toUInt32 31)).toInt32) &&& (255 : Int32))]) (rest := []) ⟨hx, hb, hml, hown, hts⟩ (c_X8_append_3 l D cI cS H.size h9 h23 ((upd (upd (upd (fun _ => 0) 0 (((Int32.toUInt32 x0 >>> (Int32.toUInt32 24 &&& Int32.toUInt32 31)).toInt32) &&& (255 : Int32))) 1 (((Int32.toUInt32 x0 >>> (Int32.toUInt32 16 &&& Int32.toUInt32 31)).toInt32) &&& (255 : Int32))) 2 (((Int32.toUInt32 x0 >>> (Int32.toUInt32 8 &&& Int32.toUInt32 31)).toInt32) &&& (255 : Int32)))) (((Int32.toUInt32 x0 >>> (Int32.toUInt32 0 &&& Int32.toUInt32 31)).toInt32) &&& (255 : Int32))) hKK hP hD hS hA [43, 44] [0, 1, 2, 3, 4, 5, 6, 7, 8, 9, 10, 11, 12, 13, 14, 15, 16, 17, 18, 19, 20, 21, 22, 23, 24, 25, 26, 27, 28, 29, 30, 31, 32, 33, 34, 35, 36, 37, 38, 39, 40, 41, 42] (by decide) rfl rfl (by decide) (by decide) hPc hDc (ci := 8) rfl rfl (cwV 1 hts gX11_feed_X8_append rfl rfl rfl (by decide +kernel) ⟨Nat.le_of_ble_eq_true rfl, Nat.le_of_ble_eq_true rfl⟩) rfl hl.1 rfl (Nat.le_of_ble_eq_true rfl) dX11_feed_52 ⟨Nat.le_of_ble_eq_true rfl, Nat.le_of_ble_eq_true rfl⟩ (fun H locs hP hD hS => ?_)
                      have hP : va_P D cls [(h0, .inr (11, [.ref h1, .ref h2, .ref h3, .ref h4, .ref h5, .ref h6, .ref h7, .int 0, .int 0, .ref h8, .ref h9, .ref h10, .ref h11, .ref h12, .ref h13, .ref h14])), (h1, .inr (2, [.ref h15, .int 0, .int 0])), (h2, .inr (3, [.ref h1, .ref h16, .ref h17, .int 0])), (h3, .inr (4, [.ref h1, .ref h2])), (h4, .inr (10, [.ref h1, .ref h2, .ref h18, .int 0, .int 0, .int 0, .int 0, .int (-1)])), (h5, .inr (2, [.ref h19, .int 0, .int 0])), (h6, .inr (3, [.ref h5, .ref h20, .ref h21, .int 0])), (h7, .inr (2, [.ref h22, .int 0, .int 0])), (h8, .inr (0, [.int 1])), (h10, .inr (5, [.ref h9, .ref h1, .ref h24, .int 0, .int 0, .int 0, .int 0, .int 0])), (h11, .inl (cS, 4, .inr (.inr (.inr (.inr (fun k => [h25, h26, h27, h28][k]?)))))), (h12, .inr (9, [.ref h1, .ref h2, .ref h29, .ref h30, .ref h31, .int 0])), (h13, .inr (9, [.ref h1, .ref h2, .ref h32, .ref h33, .ref h34, .int 0])), (h14, .inr (7, [.ref h35, .ref h36])), (h15, .inl (cI, 12, .inl (fun _ => 0))), (h16, .inr (1, [.ref h37, .int 1])), (h17, .inr (1, [.ref h38, .int 1])), (h18, .inl (cI, 5, .inl (fun _ => 0))), (h19, .inl (cI, 12, .inl (fun _ => 0))), (h20, .inr (1, [.ref h39, .int 1])), (h21, .inr (1, [.ref h40, .int 1])), (h22, .inl (cI, 12, .inl (fun _ => 0))), (h24, .inl (cI, 12, .inl (fun _ => 0))), (h25, .inr (6, [.ref h41, .int (-1), .int 0])), (h26, .inr (6, [.ref h42, .int (-1), .int 0])), (h27, .inr (6, [.ref h43, .int (-1), .int 0])), (h28, .inr (6, [.ref h44, .int (-1), .int 0])), (h29, .inl (cI, 12, .inl (fun _ => 0))), (h30, .inl (cI, 12, .inl (fun _ => 0))), (h31, .inl (cI, 12, .inl (fun _ => 0))), (h32, .inl (cI, 12, .inl (fun _ => 0))), (h33, .inl (cI, 12, .inl (fun _ => 0))), (h34, .inl (cI, 12, .inl (fun _ => 0))), (h35, .inl (cI, 4, .inl (fun _ => -1))), (h36, .inl (cI, 4, .inl (fun _ => 0))), (h37, .inl (cI, 4096, .inl (fun _ => 0))), (h38, .inl (cI, 0, .inl (fun _ => 0))), (h39, .inl (cI, 4096, .inl (fun _ => 0))), (h40, .inl (cI, 0, .inl (fun _ => 0))), (h41, .inl (cI, 40, .inl (fun _ => 0))), (h42, .inl (cI, 40, .inl (fun _ => 0))), (h43, .inl (cI, 40, .inl (fun _ => 0))), (h44, .inl (cI, 40, .inl (fun _ => 0))), (h9, .inr (8, [.ref h23, .int 4])), (h23, .inl (cI, 120, .inl (upd (upd (upd (upd (fun _ => 0) 0 (((Int32.toUInt32 x0 >>> (Int32.toUInt32 24 &&& Int32.toUInt32 31)).toInt32) &&& (255 : Int32))) 1 (((Int32.toUInt32 x0 >>> (Int32.toUInt32 16 &&& Int32.toUInt32 31)).toInt32) &&& (255 : Int32))) 2 (((Int32.toUInt32 x0 >>> (Int32.toUInt32 8 &&& Int32.toUInt32 31)).toInt32) &&& (255 : Int32))) 3 (((Int32.toUInt32 x0 >>> (Int32.toUInt32 0 &&& Int32.toUInt32 31)).toInt32) &&& (255 : Int32)))))] H := hP
                      have hD : va_D A [(h0, .inr (11, [.ref h1, .ref h2, .ref h3, .ref h4, .ref h5, .ref h6, .ref h7, .int 0, .int 0, .ref h8, .ref h9, .ref h10, .ref h11, .ref h12, .ref h13, .ref h14])), (h1, .inr (2, [.ref h15, .int 0, .int 0])), (h2, .inr (3, [.ref h1, .ref h16, .ref h17, .int 0])), (h3, .inr (4, [.ref h1, .ref h2])), (h4, .inr (10, [.ref h1, .ref h2, .ref h18, .int 0, .int 0, .int 0, .int 0, .int (-1)])), (h5, .inr (2, [.ref h19, .int 0, .int 0])), (h6, .inr (3, [.ref h5, .ref h20, .ref h21, .int 0])), (h7, .inr (2, [.ref h22, .int 0, .int 0])), (h8, .inr (0, [.int 1])), (h10, .inr (5, [.ref h9, .ref h1, .ref h24, .int 0, .int 0, .int 0, .int 0, .int 0])), (h11, .inl (cS, 4, .inr (.inr (.inr (.inr (fun k => [h25, h26, h27, h28][k]?)))))), (h12, .inr (9, [.ref h1, .ref h2, .ref h29, .ref h30, .ref h31, .int 0])), (h13, .inr (9, [.ref h1, .ref h2, .ref h32, .ref h33, .ref h34, .int 0])), (h14, .inr (7, [.ref h35, .ref h36])), (h15, .inl (cI, 12, .inl (fun _ => 0))), (h16, .inr (1, [.ref h37, .int 1])), (h17, .inr (1, [.ref h38, .int 1])), (h18, .inl (cI, 5, .inl (fun _ => 0))), (h19, .inl (cI, 12, .inl (fun _ => 0))), (h20, .inr (1, [.ref h39, .int 1])), (h21, .inr (1, [.ref h40, .int 1])), (h22, .inl (cI, 12, .inl (fun _ => 0))), (h24, .inl (cI, 12, .inl (fun _ => 0))), (h25, .inr (6, [.ref h41, .int (-1), .int 0])), (h26, .inr (6, [.ref h42, .int (-1), .int 0])), (h27, .inr (6, [.ref h43, .int (-1), .int 0])), (h28, .inr (6, [.ref h44, .int (-1), .int 0])), (h29, .inl (cI, 12, .inl (fun _ => 0))), (h30, .inl (cI, 12, .inl (fun _ => 0))), (h31, .inl (cI, 12, .inl (fun _ => 0))), (h32, .inl (cI, 12, .inl (fun _ => 0))), (h33, .inl (cI, 12, .inl (fun _ => 0))), (h34, .inl (cI, 12, .inl (fun _ => 0))), (h35, .inl (cI, 4, .inl (fun _ => -1))), (h36, .inl (cI, 4, .inl (fun _ => 0))), (h37, .inl (cI, 4096, .inl (fun _ => 0))), (h38, .inl (cI, 0, .inl (fun _ => 0))), (h39, .inl (cI, 4096, .inl (fun _ => 0))), (h40, .inl (cI, 0, .inl (fun _ => 0))), (h41, .inl (cI, 40, .inl (fun _ => 0))), (h42, .inl (cI, 40, .inl (fun _ => 0))), (h43, .inl (cI, 40, .inl (fun _ => 0))), (h44, .inl (cI, 40, .inl (fun _ => 0))), (h9, .inr (8, [.ref h23, .int 4])), (h23, .inl (cI, 120, .inl (upd (upd (upd (upd (fun _ => 0) 0 (((Int32.toUInt32 x0 >>> (Int32.toUInt32 24 &&& Int32.toUInt32 31)).toInt32) &&& (255 : Int32))) 1 (((Int32.toUInt32 x0 >>> (Int32.toUInt32 16 &&& Int32.toUInt32 31)).toInt32) &&& (255 : Int32))) 2 (((Int32.toUInt32 x0 >>> (Int32.toUInt32 8 &&& Int32.toUInt32 31)).toInt32) &&& (255 : Int32))) 3 (((Int32.toUInt32 x0 >>> (Int32.toUInt32 0 &&& Int32.toUInt32 31)).toInt32) &&& (255 : Int32)))))] := hD
                      refine lv_iinc (v := (-1)) (lv' := [(3, .int (-1)), (0, .ref h0), (1, .int x0), (2, .int 4)]) hx hb dX11_feed_55 hl (k := 0) rfl (by decide) (by decide) rfl (fun ls hl => ?_)
                      refine lv_goto (tgt := 34) hx hb dX11_feed_58 (by decide) ?_
                      refine lv_iload_n hx hb dX11_feed_34 rfl (lv_at hl 0 rfl) ?_
                      refine lv_if_lt (tgt := 61) hx hb dX11_feed_35 (by decide) (fun c1814 => ?_) (fun c1814 => ?_)
                      · refine lv_aload_n hx hb dX11_feed_61 rfl (lv_at hl 1 rfl) ?_
                        refine va_get (D := D) (ci := 11) (v := .ref h9) (C := RX11) (T := TX11) (N := 16) hx hb hts hin11 hown hK hP 0 rfl rfl 10 (by decide) (hts (.fieldLink RX11 60 "MissedPoints" "tape" "LMissedPoints$Tape;") (by decide +kernel)) (fun _ h9 => h9) rfl dX11_feed_62 ?_
                        refine va_getN (D := D) (ci := 8) (v := .int 4) (C := RX8) (T := TX8) (N := 2) hx hb hts hin8 hown hK hP 43 rfl rfl 1 (by decide) (va_Nw.use rfl hN.1) (fun _ h9 => h9) rfl dX11_feed_65 ?_
                        have hP9 := hP.sub (ws' := []) [] rfl
                        have hD9 := hD.sub (ws' := []) [] (by decide) rfl
                        subst hAe
                        exact W.iret (v := 4) hx hb hr (fun t ht hW => ⟨⟨_, (), rfl, by rw [if_neg c1781, if_pos c1782, if_neg k1784, if_neg k1789, if_neg k1796], by rw [ht]; exact hP9, hD9⟩, hS.F ht⟩) hS.2.2 dX11_feed_68
                      · exact absurd c1814 (by decide)
      · exact absurd (show x1 ≤ 120 from by have zf1 := mt (lz_lt x1 (1 : Int32)).mpr c1781; have zf2 := (lz_le x1 (4 : Int32)).mp c1782; have zn0 : (1 : Int32).toInt = 1 := (by decide); have zn1 : (4 : Int32).toInt = 4 := (by decide); have zn2 : (120 : Int32).toInt = 120 := (by decide); rw [lz_le]; omega) c1783
    · refine lv_bipush (v := (-2)) hx hb dX11_feed_10 (by decide) ?_
      have hP9 := hP.sub (ws' := []) [] rfl
      have hD9 := hD.sub (ws' := []) [] (by decide) rfl
      subst hAe
      exact W.iret (v := (-2)) hx hb hr (fun t ht hW => ⟨⟨_, (), rfl, by rw [if_neg c1781, if_neg c1782], by rw [ht]; exact hP9, hD9⟩, hS.F ht⟩) hS.2.2 dX11_feed_12
set_option maxHeartbeats 4000000 in
set_option maxRecDepth 100000 in
theorem c_X8_clear_0 (l : Launch) (D : va_G) (cI cS : ClassId) (sz : Nat) (h0 h1 : Nat) : Met l yX8_clear wsX8_clear ({ frames := 0, cells := 0, slots := 0, locals := 0 }) (PQ D cI cS [(h0, .inr (8, [.ref h1, .int 0]))] sz [.ref h0]) (QI D [(h0, .inr (8, [.ref h1, .int 0]))] [(h0, .inr (8, [.ref h1, .int 0]))] sz (fun r => r = (0 : Int32))) 0 0 (va_A [(h0, .inr (8, [.ref h1, .int 0]))] sz) := by
  refine Met.ofW (cc := cX8_clear) (maxL := 2) (ret := (some .int)) (by decide) rfl ?_
  intro p e s m args below meth c s₁ B hml hv
  obtain ⟨rfl, hsz, hP, hKK, hD0⟩ := hv
  have hx := B.exec
  have hb := B.bytes
  have hr := B.returns
  have hts := atoms_spec (ws := wsX8_clear) B.pre
  have hown : s.vm.findClass RX8 = some m.cls := findClass_of_methodNamed B.named
  have hlocks := B.notSynchronized
  have hK := hKK.1
  have hN := hKK.2
  have hin8 : ∀ w ∈ wsX80, w ∈ wsX8_clear := by decide +kernel
  subst hsz
  have hD := hD0.self (sz := s.heap.size)
  obtain ⟨A, hAe⟩ : ∃ A, A = va_A [(h0, .inr (8, [.ref h1, .int 0]))] s.heap.size := ⟨_, rfl⟩
  rw [← hAe] at hD
  have hA : ∀ q : Nat, s.heap.size ≤ q → A q := fun q h => by rw [hAe]; exact Or.inr h
  have hS : va_S A s.heap s.heap [] := va_S.rf
  have hl := lv_entry ([.ref h0]) (n := 2) (Nat.le_of_ble_eq_true rfl)
  rw [lg_entry_eq]
  generalize (lg_sl ([.ref h0]) ++ List.replicate (2 - (lg_sl ([.ref h0])).length) Slot.unset).toArray = ls at hl ⊢
  have hl : lv_has ls 2 [(0, .ref h0)] := hl
  refine lv_aload_n hx hb dX8_clear_0 rfl (lv_at hl 0 rfl) ?_
  refine va_get (D := D) (ci := 8) (v := .int 0) (C := RX8) (T := TX8) (N := 2) hx hb hts hin8 hown hK hP 0 rfl rfl 1 (by decide) (hts (.fieldLink RX8 15 "MissedPoints$Tape" "size" "I") (by decide +kernel)) (fun _ h9 => h9) rfl dX8_clear_1 ?_
  refine lv_istore_n (lv' := [(1, .int 0), (0, .ref h0)]) hx hb dX8_clear_4 rfl hl (by decide) rfl (fun ls hl => ?_)
  refine lv_aload_n hx hb dX8_clear_5 rfl (lv_at hl 1 rfl) ?_
  refine lv_iconst (v := 0) hx hb dX8_clear_6 (by decide) ?_
  refine va_put (D := D) (ci := 8) (v := .int 0) (ty := .int) (C := RX8) (T := TX8) (N := 2) hx hb hts hin8 tyX8 tyX8_ok nmX8 hown hK hP hD hS 0 rfl rfl 1 (by decide) (hts (.fieldLink RX8 15 "MissedPoints$Tape" "size" "I") (by decide +kernel)) (fun _ h9 => h9) rfl (by decide +kernel) rfl rfl (Nat.le_of_ble_eq_true rfl) dX8_clear_7 (fun H locs hP hD hS => ?_)
  have hP : va_P D cls [(h0, .inr (8, [.ref h1, .int 0])), (h1, .inl (cI, 120, .inl (fun _ => 0)))] H := hP
  have hD : va_D A [(h0, .inr (8, [.ref h1, .int 0])), (h1, .inl (cI, 120, .inl (fun _ => 0)))] := hD
  refine lv_iload_n hx hb dX8_clear_10 rfl (lv_at hl 0 rfl) ?_
  have hP9 := hP.sub (ws' := [(h0, .inr (8, [.ref h1, .int 0]))]) [0] rfl
  have hD9 := hD.sub (ws' := [(h0, .inr (8, [.ref h1, .int 0]))]) [0] (by decide) rfl
  subst hAe
  exact W.iret (v := 0) hx hb hr (fun t ht hW => ⟨⟨_, (), rfl, rfl, by rw [ht]; exact hP9, hD9⟩, hS.F ht⟩) hS.2.2 dX8_clear_11
set_option maxHeartbeats 4000000 in
set_option maxRecDepth 100000 in
theorem c_X11_wipe_0 (l : Launch) (D : va_G) (cI cS : ClassId) (sz : Nat) (h0 h1 h2 h3 h4 h5 h6 h7 h8 h9 h10 h11 h12 h13 h14 h23 : Nat) : Met l yX11_wipe wsX11_wipe ({ frames := 1, cells := 0, slots := 0, locals := 40 }) (PQ D cI cS [(h0, .inr (11, [.ref h1, .ref h2, .ref h3, .ref h4, .ref h5, .ref h6, .ref h7, .int 0, .int 0, .ref h8, .ref h9, .ref h10, .ref h11, .ref h12, .ref h13, .ref h14])), (h9, .inr (8, [.ref h23, .int 0]))] sz [.ref h0]) (QI D [(h0, .inr (11, [.ref h1, .ref h2, .ref h3, .ref h4, .ref h5, .ref h6, .ref h7, .int 0, .int 0, .ref h8, .ref h9, .ref h10, .ref h11, .ref h12, .ref h13, .ref h14])), (h9, .inr (8, [.ref h23, .int 0]))] [] sz (fun r => r = (0 : Int32))) 0 0 (va_A [(h0, .inr (11, [.ref h1, .ref h2, .ref h3, .ref h4, .ref h5, .ref h6, .ref h7, .int 0, .int 0, .ref h8, .ref h9, .ref h10, .ref h11, .ref h12, .ref h13, .ref h14])), (h9, .inr (8, [.ref h23, .int 0]))] sz) := by
  refine Met.ofW (cc := cX11_wipe) (maxL := 1) (ret := (some .int)) (by decide) rfl ?_
  intro p e s m args below meth c s₁ B hml hv
  obtain ⟨rfl, hsz, hP, hKK, hD0⟩ := hv
  have hx := B.exec
  have hb := B.bytes
  have hr := B.returns
  have hts := atoms_spec (ws := wsX11_wipe) B.pre
  have hown : s.vm.findClass RX11 = some m.cls := findClass_of_methodNamed B.named
  have hlocks := B.notSynchronized
  have hK := hKK.1
  have hN := hKK.2
  have hin11 : ∀ w ∈ wsX110, w ∈ wsX11_wipe := by decide +kernel
  subst hsz
  have hD := hD0.self (sz := s.heap.size)
  obtain ⟨A, hAe⟩ : ∃ A, A = va_A [(h0, .inr (11, [.ref h1, .ref h2, .ref h3, .ref h4, .ref h5, .ref h6, .ref h7, .int 0, .int 0, .ref h8, .ref h9, .ref h10, .ref h11, .ref h12, .ref h13, .ref h14])), (h9, .inr (8, [.ref h23, .int 0]))] s.heap.size := ⟨_, rfl⟩
  rw [← hAe] at hD
  have hA : ∀ q : Nat, s.heap.size ≤ q → A q := fun q h => by rw [hAe]; exact Or.inr h
  have hS : va_S A s.heap s.heap [] := va_S.rf
  have hl := lv_entry ([.ref h0]) (n := 1) (Nat.le_of_ble_eq_true rfl)
  rw [lg_entry_eq]
  generalize (lg_sl ([.ref h0]) ++ List.replicate (1 - (lg_sl ([.ref h0])).length) Slot.unset).toArray = ls at hl ⊢
  have hl : lv_has ls 1 [(0, .ref h0)] := hl
  refine lv_aload_n hx hb dX11_wipe_0 rfl (lv_at hl 0 rfl) ?_
  refine va_get (D := D) (ci := 11) (v := .ref h9) (C := RX11) (T := TX11) (N := 16) hx hb hts hin11 hown hK hP 0 rfl rfl 10 (by decide) (hts (.fieldLink RX11 60 "MissedPoints" "tape" "LMissedPoints$Tape;") (by decide +kernel)) (fun _ h9 => h9) rfl dX11_wipe_1 ?_
  have hPc := hP.sub (ws' := [(h9, .inr (8, [.ref h23, .int 0]))]) [9] rfl
  have hDc := hD.sub (ws' := [(h9, .inr (8, [.ref h23, .int 0]))]) [9] (by decide) rfl
  refine lz_qi (wr := [(h0, .inr (11, [.ref h1, .ref h2, .ref h3, .ref h4, .ref h5, .ref h6, .ref h7, .int 0, .int 0, .ref h8, .ref h9, .ref h10, .ref h11, .ref h12, .ref h13, .ref h14])), (h1, .inr (2, [.ref h15, .int 0, .int 0])), (h2, .inr (3, [.ref h1, .ref h16, .ref h17, .int 0])), (h3, .inr (4, [.ref h1, .ref h2])), (h4, .inr (10, [.ref h1, .ref h2, .ref h18, .int 0, .int 0, .int 0, .int 0, .int (-1)])), (h5, .inr (2, [.ref h19, .int 0, .int 0])), (h6, .inr (3, [.ref h5, .ref h20, .ref h21, .int 0])), (h7, .inr (2, [.ref h22, .int 0, .int 0])), (h8, .inr (0, [.int 1])), (h10, .inr (5, [.ref h9, .ref h1, .ref h24, .int 0, .int 0, .int 0, .int 0, .int 0])), (h11, .inl (cS, 4, .inr (.inr (.inr (.inr (fun k => [h25, h26, h27, h28][k]?)))))), (h12, .inr (9, [.ref h1, .ref h2, .ref h29, .ref h30, .ref h31, .int 0])), (h13, .inr (9, [.ref h1, .ref h2, .ref h32, .ref h33, .ref h34, .int 0])), (h14, .inr (7, [.ref h35, .ref h36])), (h15, .inl (cI, 12, .inl (fun _ => 0))), (h16, .inr (1, [.ref h37, .int 1])), (h17, .inr (1, [.ref h38, .int 1])), (h18, .inl (cI, 5, .inl (fun _ => 0))), (h19, .inl (cI, 12, .inl (fun _ => 0))), (h20, .inr (1, [.ref h39, .int 1])), (h21, .inr (1, [.ref h40, .int 1])), (h22, .inl (cI, 12, .inl (fun _ => 0))), (h23, .inl (cI, 120, .inl (fun _ => 0))), (h24, .inl (cI, 12, .inl (fun _ => 0))), (h25, .inr (6, [.ref h41, .int (-1), .int 0])), (h26, .inr (6, [.ref h42, .int (-1), .int 0])), (h27, .inr (6, [.ref h43, .int (-1), .int 0])), (h28, .inr (6, [.ref h44, .int (-1), .int 0])), (h29, .inl (cI, 12, .inl (fun _ => 0))), (h30, .inl (cI, 12, .inl (fun _ => 0))), (h31, .inl (cI, 12, .inl (fun _ => 0))), (h32, .inl (cI, 12, .inl (fun _ => 0))), (h33, .inl (cI, 12, .inl (fun _ => 0))), (h34, .inl (cI, 12, .inl (fun _ => 0))), (h35, .inl (cI, 4, .inl (fun _ => -1))), (h36, .inl (cI, 4, .inl (fun _ => 0))), (h37, .inl (cI, 4096, .inl (fun _ => 0))), (h38, .inl (cI, 0, .inl (fun _ => 0))), (h39, .inl (cI, 4096, .inl (fun _ => 0))), (h40, .inl (cI, 0, .inl (fun _ => 0))), (h41, .inl (cI, 40, .inl (fun _ => 0))), (h42, .inl (cI, 40, .inl (fun _ => 0))), (h43, .inl (cI, 40, .inl (fun _ => 0))), (h44, .inl (cI, 40, .inl (fun _ => 0)))]) (w1 := [(h9, .inr (8, [.ref h23, .int 0]))]) (As := []) (rest := []) ⟨hx, hb, hml, hown, hts⟩ (c_X8_clear_0 l D cI cS H.size h9 h23) hKK hP hD hS hA [9] [0, 1, 2, 3, 4, 5, 6, 7, 8, 10, 11, 12, 13, 14, 15, 16, 17, 18, 19, 20, 21, 22, 23, 24, 25, 26, 27, 28, 29, 30, 31, 32, 33, 34, 35, 36, 37, 38, 39, 40, 41, 42, 43, 44] (by decide) rfl rfl (by decide) (by decide) hPc hDc (ci := 8) rfl rfl (cwV 0 hts gX11_wipe_X8_clear rfl rfl rfl (by decide +kernel) ⟨Nat.le_of_ble_eq_true rfl, Nat.le_of_ble_eq_true rfl⟩) rfl hl.1 rfl (Nat.le_of_ble_eq_true rfl) dX11_wipe_4 ⟨Nat.le_of_ble_eq_true rfl, Nat.le_of_ble_eq_true rfl⟩ (fun r1815 H locs hw hP hD hS => ?_)
  have hP : va_P D cls [(h0, .inr (11, [.ref h1, .ref h2, .ref h3, .ref h4, .ref h5, .ref h6, .ref h7, .int 0, .int 0, .ref h8, .ref h9, .ref h10, .ref h11, .ref h12, .ref h13, .ref h14])), (h1, .inr (2, [.ref h15, .int 0, .int 0])), (h2, .inr (3, [.ref h1, .ref h16, .ref h17, .int 0])), (h3, .inr (4, [.ref h1, .ref h2])), (h4, .inr (10, [.ref h1, .ref h2, .ref h18, .int 0, .int 0, .int 0, .int 0, .int (-1)])), (h5, .inr (2, [.ref h19, .int 0, .int 0])), (h6, .inr (3, [.ref h5, .ref h20, .ref h21, .int 0])), (h7, .inr (2, [.ref h22, .int 0, .int 0])), (h8, .inr (0, [.int 1])), (h10, .inr (5, [.ref h9, .ref h1, .ref h24, .int 0, .int 0, .int 0, .int 0, .int 0])), (h11, .inl (cS, 4, .inr (.inr (.inr (.inr (fun k => [h25, h26, h27, h28][k]?)))))), (h12, .inr (9, [.ref h1, .ref h2, .ref h29, .ref h30, .ref h31, .int 0])), (h13, .inr (9, [.ref h1, .ref h2, .ref h32, .ref h33, .ref h34, .int 0])), (h14, .inr (7, [.ref h35, .ref h36])), (h15, .inl (cI, 12, .inl (fun _ => 0))), (h16, .inr (1, [.ref h37, .int 1])), (h17, .inr (1, [.ref h38, .int 1])), (h18, .inl (cI, 5, .inl (fun _ => 0))), (h19, .inl (cI, 12, .inl (fun _ => 0))), (h20, .inr (1, [.ref h39, .int 1])), (h21, .inr (1, [.ref h40, .int 1])), (h22, .inl (cI, 12, .inl (fun _ => 0))), (h23, .inl (cI, 120, .inl (fun _ => 0))), (h24, .inl (cI, 12, .inl (fun _ => 0))), (h25, .inr (6, [.ref h41, .int (-1), .int 0])), (h26, .inr (6, [.ref h42, .int (-1), .int 0])), (h27, .inr (6, [.ref h43, .int (-1), .int 0])), (h28, .inr (6, [.ref h44, .int (-1), .int 0])), (h29, .inl (cI, 12, .inl (fun _ => 0))), (h30, .inl (cI, 12, .inl (fun _ => 0))), (h31, .inl (cI, 12, .inl (fun _ => 0))), (h32, .inl (cI, 12, .inl (fun _ => 0))), (h33, .inl (cI, 12, .inl (fun _ => 0))), (h34, .inl (cI, 12, .inl (fun _ => 0))), (h35, .inl (cI, 4, .inl (fun _ => -1))), (h36, .inl (cI, 4, .inl (fun _ => 0))), (h37, .inl (cI, 4096, .inl (fun _ => 0))), (h38, .inl (cI, 0, .inl (fun _ => 0))), (h39, .inl (cI, 4096, .inl (fun _ => 0))), (h40, .inl (cI, 0, .inl (fun _ => 0))), (h41, .inl (cI, 40, .inl (fun _ => 0))), (h42, .inl (cI, 40, .inl (fun _ => 0))), (h43, .inl (cI, 40, .inl (fun _ => 0))), (h44, .inl (cI, 40, .inl (fun _ => 0))), (h9, .inr (8, [.ref h23, .int 0]))] H := hP
  have hD : va_D A [(h0, .inr (11, [.ref h1, .ref h2, .ref h3, .ref h4, .ref h5, .ref h6, .ref h7, .int 0, .int 0, .ref h8, .ref h9, .ref h10, .ref h11, .ref h12, .ref h13, .ref h14])), (h1, .inr (2, [.ref h15, .int 0, .int 0])), (h2, .inr (3, [.ref h1, .ref h16, .ref h17, .int 0])), (h3, .inr (4, [.ref h1, .ref h2])), (h4, .inr (10, [.ref h1, .ref h2, .ref h18, .int 0, .int 0, .int 0, .int 0, .int (-1)])), (h5, .inr (2, [.ref h19, .int 0, .int 0])), (h6, .inr (3, [.ref h5, .ref h20, .ref h21, .int 0])), (h7, .inr (2, [.ref h22, .int 0, .int 0])), (h8, .inr (0, [.int 1])), (h10, .inr (5, [.ref h9, .ref h1, .ref h24, .int 0, .int 0, .int 0, .int 0, .int 0])), (h11, .inl (cS, 4, .inr (.inr (.inr (.inr (fun k => [h25, h26, h27, h28][k]?)))))), (h12, .inr (9, [.ref h1, .ref h2, .ref h29, .ref h30, .ref h31, .int 0])), (h13, .inr (9, [.ref h1, .ref h2, .ref h32, .ref h33, .ref h34, .int 0])), (h14, .inr (7, [.ref h35, .ref h36])), (h15, .inl (cI, 12, .inl (fun _ => 0))), (h16, .inr (1, [.ref h37, .int 1])), (h17, .inr (1, [.ref h38, .int 1])), (h18, .inl (cI, 5, .inl (fun _ => 0))), (h19, .inl (cI, 12, .inl (fun _ => 0))), (h20, .inr (1, [.ref h39, .int 1])), (h21, .inr (1, [.ref h40, .int 1])), (h22, .inl (cI, 12, .inl (fun _ => 0))), (h23, .inl (cI, 120, .inl (fun _ => 0))), (h24, .inl (cI, 12, .inl (fun _ => 0))), (h25, .inr (6, [.ref h41, .int (-1), .int 0])), (h26, .inr (6, [.ref h42, .int (-1), .int 0])), (h27, .inr (6, [.ref h43, .int (-1), .int 0])), (h28, .inr (6, [.ref h44, .int (-1), .int 0])), (h29, .inl (cI, 12, .inl (fun _ => 0))), (h30, .inl (cI, 12, .inl (fun _ => 0))), (h31, .inl (cI, 12, .inl (fun _ => 0))), (h32, .inl (cI, 12, .inl (fun _ => 0))), (h33, .inl (cI, 12, .inl (fun _ => 0))), (h34, .inl (cI, 12, .inl (fun _ => 0))), (h35, .inl (cI, 4, .inl (fun _ => -1))), (h36, .inl (cI, 4, .inl (fun _ => 0))), (h37, .inl (cI, 4096, .inl (fun _ => 0))), (h38, .inl (cI, 0, .inl (fun _ => 0))), (h39, .inl (cI, 4096, .inl (fun _ => 0))), (h40, .inl (cI, 0, .inl (fun _ => 0))), (h41, .inl (cI, 40, .inl (fun _ => 0))), (h42, .inl (cI, 40, .inl (fun _ => 0))), (h43, .inl (cI, 40, .inl (fun _ => 0))), (h44, .inl (cI, 40, .inl (fun _ => 0))), (h9, .inr (8, [.ref h23, .int 0]))] := hD
  subst hw
  have hP9 := hP.sub (ws' := []) [] rfl
  have hD9 := hD.sub (ws' := []) [] (by decide) rfl
  subst hAe
  exact W.iret (v := 0) hx hb hr (fun t ht hW => ⟨⟨_, (), rfl, rfl, by rw [ht]; exact hP9, hD9⟩, hS.F ht⟩) hS.2.2 dX11_wipe_7
set_option maxHeartbeats 4000000 in
set_option maxRecDepth 100000 in
theorem c_X8_byteAt_0 (l : Launch) (D : va_G) (cI cS : ClassId) (h0 h1 : Nat) : Met l yX8_byteAt wsX8_byteAt ({ frames := 0, cells := 0, slots := 0, locals := 0 }) (PS D cI cS [(h0, .inr (8, [.ref h1, .int 0]))] [.ref h0, .int 0]) (vp_Si (fun r => r = ((-1) : Int32))) 0 0 (fun _ => False) := by
  refine Met.ofW (cc := cX8_byteAt) (maxL := 2) (ret := (some .int)) (by decide) rfl ?_
  intro p e s m args below meth c s₁ B hml hv
  obtain ⟨rfl, hP, hKK⟩ := hv
  have hx := B.exec
  have hb := B.bytes
  have hr := B.returns
  have hts := atoms_spec (ws := wsX8_byteAt) B.pre
  have hown : s.vm.findClass RX8 = some m.cls := findClass_of_methodNamed B.named
  have hlocks := B.notSynchronized
  have hK := hKK.1
  have hN := hKK.2
  have hin8 : ∀ w ∈ wsX80, w ∈ wsX8_byteAt := by decide +kernel
  have hl := lv_entry ([.ref h0, .int 0]) (n := 2) (Nat.le_of_ble_eq_true rfl)
  rw [lg_entry_eq]
  generalize (lg_sl ([.ref h0, .int 0]) ++ List.replicate (2 - (lg_sl ([.ref h0, .int 0])).length) Slot.unset).toArray = ls at hl ⊢
  have hl : lv_has ls 2 [(0, .ref h0), (1, .int 0)] := hl
  refine lv_iload_n hx hb dX8_byteAt_0 rfl (lv_at hl 1 rfl) ?_
  refine lv_if_lt (tgt := 27) hx hb dX8_byteAt_1 (by decide) (fun c1830 => ?_) (fun c1830 => ?_)
  · exact absurd c1830 (by decide)
  · refine lv_iload_n hx hb dX8_byteAt_4 rfl (lv_at hl 1 rfl) ?_
    refine lv_aload_n hx hb dX8_byteAt_5 rfl (lv_at hl 0 rfl) ?_
    refine va_get (D := D) (ci := 8) (v := .int 0) (C := RX8) (T := TX8) (N := 2) hx hb hts hin8 hown hK hP 0 rfl rfl 1 (by decide) (hts (.fieldLink RX8 15 "MissedPoints$Tape" "size" "I") (by decide +kernel)) (fun _ h9 => h9) rfl dX8_byteAt_6 ?_
    refine lv_icmp_ge (tgt := 27) hx hb dX8_byteAt_9 (by decide) (fun c1831 => ?_) (fun c1831 => ?_)
    · refine lv_iconst (v := (-1)) hx hb dX8_byteAt_27 (by decide) ?_
      exact W.iret (v := (-1)) hx hb hr (fun t ht hW => ⟨_, rfl, rfl, ht⟩) (fun q hq => absurd hq List.not_mem_nil) dX8_byteAt_28
    · exact absurd c1831 (by decide)
set_option maxHeartbeats 4000000 in
set_option maxRecDepth 100000 in
theorem c_X5_tokenOf_0 (l : Launch) (D : va_G) (cI cS : ClassId) : Met l yX5_tokenOf wsX5_tokenOf ({ frames := 0, cells := 0, slots := 0, locals := 0 }) (PS D cI cS [] [.int (-1)]) (vp_Si (fun r => r = ((-1) : Int32))) 0 0 (fun _ => False) := by
  refine Met.ofW (cc := cX5_tokenOf) (maxL := 2) (ret := (some .int)) (by decide) rfl ?_
  intro p e s m args below meth c s₁ B hml hv
  obtain ⟨rfl, hP, hKK⟩ := hv
  have hx := B.exec
  have hb := B.bytes
  have hr := B.returns
  have hts := atoms_spec (ws := wsX5_tokenOf) B.pre
  have hown : s.vm.findClass RX5 = some m.cls := findClass_of_methodNamed B.named
  have hlocks := B.notSynchronized
  have hK := hKK.1
  have hN := hKK.2
  have hl := lv_entry ([.int (-1)]) (n := 2) (Nat.le_of_ble_eq_true rfl)
  rw [lg_entry_eq]
  generalize (lg_sl ([.int (-1)]) ++ List.replicate (2 - (lg_sl ([.int (-1)])).length) Slot.unset).toArray = ls at hl ⊢
  have hl : lv_has ls 2 [(0, .int (-1))] := hl
  refine lv_iload_n hx hb dX5_tokenOf_0 rfl (lv_at hl 0 rfl) ?_
  refine lv_if_ge (tgt := 6) hx hb dX5_tokenOf_1 (by decide) (fun c1835 => ?_) (fun c1835 => ?_)
  · exact absurd c1835 (by decide)
  · refine lv_iconst (v := (-1)) hx hb dX5_tokenOf_4 (by decide) ?_
    exact W.iret (v := (-1)) hx hb hr (fun t ht hW => ⟨_, rfl, rfl, ht⟩) (fun q hq => absurd hq List.not_mem_nil) dX5_tokenOf_5
set_option maxHeartbeats 4000000 in
set_option maxRecDepth 100000 in
theorem c_X5_step_0 (l : Launch) (D : va_G) (cI cS : ClassId) (sz : Nat) (h0 h1 h2 h3 h4 : Nat) : Met l yX5_step wsX5_step ({ frames := 1, cells := 0, slots := 0, locals := 40 }) (PQ D cI cS [(h0, .inr (5, [.ref h1, .ref h2, .ref h3, .int 0, .int 0, .int 0, .int 0, .int (-1)])), (h1, .inr (8, [.ref h4, .int 0]))] sz [.ref h0]) (QV D [(h0, .inr (5, [.ref h1, .ref h2, .ref h3, .int 0, .int 0, .int 0, .int 0, .int (-1)])), (h1, .inr (8, [.ref h4, .int 0]))] [(h0, .inr (5, [.ref h1, .ref h2, .ref h3, .int 0, .int 0, .int (-1), .int 0, .int (-1)])), (h1, .inr (8, [.ref h4, .int 0]))] sz) 0 0 (va_A [(h0, .inr (5, [.ref h1, .ref h2, .ref h3, .int 0, .int 0, .int 0, .int 0, .int (-1)])), (h1, .inr (8, [.ref h4, .int 0]))] sz) := by
  refine Met.ofW (cc := cX5_step) (maxL := 4) (ret := none) (by decide) rfl ?_
  intro p e s m args below meth c s₁ B hml hv
  obtain ⟨rfl, hsz, hP, hKK, hD0⟩ := hv
  have hx := B.exec
  have hb := B.bytes
  have hr := B.returns
  have hts := atoms_spec (ws := wsX5_step) B.pre
  have hown : s.vm.findClass RX5 = some m.cls := findClass_of_methodNamed B.named
  have hlocks := B.notSynchronized
  have hK := hKK.1
  have hN := hKK.2
  have hin5 : ∀ w ∈ wsX50, w ∈ wsX5_step := by decide +kernel
  subst hsz
  have hD := hD0.self (sz := s.heap.size)
  obtain ⟨A, hAe⟩ : ∃ A, A = va_A [(h0, .inr (5, [.ref h1, .ref h2, .ref h3, .int 0, .int 0, .int 0, .int 0, .int (-1)])), (h1, .inr (8, [.ref h4, .int 0]))] s.heap.size := ⟨_, rfl⟩
  rw [← hAe] at hD
  have hA : ∀ q : Nat, s.heap.size ≤ q → A q := fun q h => by rw [hAe]; exact Or.inr h
  have hS : va_S A s.heap s.heap [] := va_S.rf
  have hl := lv_entry ([.ref h0]) (n := 4) (Nat.le_of_ble_eq_true rfl)
  rw [lg_entry_eq]
  generalize (lg_sl ([.ref h0]) ++ List.replicate (4 - (lg_sl ([.ref h0])).length) Slot.unset).toArray = ls at hl ⊢
  have hl : lv_has ls 4 [(0, .ref h0)] := hl
  refine lv_iconst (v := 0) hx hb dX5_step_0 (by decide) ?_
  refine lv_istore_n (lv' := [(1, .int 0), (0, .ref h0)]) hx hb dX5_step_1 rfl hl (by decide) rfl (fun ls hl => ?_)
  refine lv_iload_n hx hb dX5_step_2 rfl (lv_at hl 0 rfl) ?_
  refine lv_bipush (v := 120) hx hb dX5_step_3 (by decide) ?_
  refine lv_icmp_ge (tgt := 40) hx hb dX5_step_5 (by decide) (fun c1829 => ?_) (fun c1829 => ?_)
  · exact absurd c1829 (by decide)
  · refine lv_aload_n hx hb dX5_step_8 rfl (lv_at hl 1 rfl) ?_
    refine va_get (D := D) (ci := 5) (v := .ref h1) (C := RX5) (T := TX5) (N := 8) hx hb hts hin5 hown hK hP 0 rfl rfl 0 (by decide) (hts (.fieldLink RX5 15 "MissedPoints$Reader" "tape" "LMissedPoints$Tape;") (by decide +kernel)) (fun _ h9 => h9) rfl dX5_step_9 ?_
    refine lv_aload_n hx hb dX5_step_12 rfl (lv_at hl 1 rfl) ?_
    refine va_get (D := D) (ci := 5) (v := .int 0) (C := RX5) (T := TX5) (N := 8) hx hb hts hin5 hown hK hP 0 rfl rfl 3 (by decide) (hts (.fieldLink RX5 23 "MissedPoints$Reader" "at" "I") (by decide +kernel)) (fun _ h9 => h9) rfl dX5_step_13 ?_
    have hPc := hP.sub (ws' := [(h1, .inr (8, [.ref h4, .int 0]))]) [1] rfl
    refine lz_sv (As := [.int 0]) (rest := []) ⟨hx, hb, hml, hown, hts⟩ (c_X8_byteAt_0 l D cI cS h1 h4) hKK hPc (ci := 8) rfl rfl (cwV 1 hts gX5_step_X8_byteAt rfl rfl rfl (by decide +kernel) ⟨Nat.le_of_ble_eq_true rfl, Nat.le_of_ble_eq_true rfl⟩) rfl hl.1 rfl (Nat.le_of_ble_eq_true rfl) dX5_step_16 ⟨Nat.le_of_ble_eq_true rfl, Nat.le_of_ble_eq_true rfl⟩ (fun r1832 hw => ?_)
    subst hw
    refine lv_bipush (v := 32) hx hb dX5_step_19 (by decide) ?_
    refine lv_icmp_ne (tgt := 40) hx hb dX5_step_21 (by decide) (fun c1833 => ?_) (fun c1833 => ?_)
    · refine lv_aload_n hx hb dX5_step_40 rfl (lv_at hl 1 rfl) ?_
      refine lv_aload_n hx hb dX5_step_41 rfl (lv_at hl 1 rfl) ?_
      refine va_get (D := D) (ci := 5) (v := .int 0) (C := RX5) (T := TX5) (N := 8) hx hb hts hin5 hown hK hP 0 rfl rfl 3 (by decide) (hts (.fieldLink RX5 23 "MissedPoints$Reader" "at" "I") (by decide +kernel)) (fun _ h9 => h9) rfl dX5_step_42 ?_
      refine va_put (D := D) (ci := 5) (v := .int 0) (ty := .int) (C := RX5) (T := TX5) (N := 8) hx hb hts hin5 tyX5 tyX5_ok nmX5 hown hK hP hD hS 0 rfl rfl 4 (by decide) (hts (.fieldLink RX5 42 "MissedPoints$Reader" "start" "I") (by decide +kernel)) (fun _ h9 => h9) rfl (by decide +kernel) rfl rfl (Nat.le_of_ble_eq_true rfl) dX5_step_45 (fun H locs hP hD hS => ?_)
      have hP : va_P D cls [(h0, .inr (5, [.ref h1, .ref h2, .ref h3, .int 0, .int 0, .int 0, .int 0, .int (-1)])), (h1, .inr (8, [.ref h4, .int 0])), (h2, .inr (2, [.ref h5, .int 0, .int 0])), (h3, .inl (cI, 12, .inl (fun _ => 0))), (h4, .inl (cI, 120, .inl (fun _ => 0))), (h5, .inl (cI, 12, .inl (fun _ => 0)))] H := hP
      have hD : va_D A [(h0, .inr (5, [.ref h1, .ref h2, .ref h3, .int 0, .int 0, .int 0, .int 0, .int (-1)])), (h1, .inr (8, [.ref h4, .int 0])), (h2, .inr (2, [.ref h5, .int 0, .int 0])), (h3, .inl (cI, 12, .inl (fun _ => 0))), (h4, .inl (cI, 120, .inl (fun _ => 0))), (h5, .inl (cI, 12, .inl (fun _ => 0)))] := hD
      refine lv_aload_n hx hb dX5_step_48 rfl (lv_at hl 1 rfl) ?_
      refine lv_iconst (v := 0) hx hb dX5_step_49 (by decide) ?_
      refine va_put (D := D) (ci := 5) (v := .int 0) (ty := .int) (C := RX5) (T := TX5) (N := 8) hx hb hts hin5 tyX5 tyX5_ok nmX5 hown hK hP hD hS 0 rfl rfl 6 (by decide) (hts (.fieldLink RX5 51 "MissedPoints$Reader" "value" "I") (by decide +kernel)) (fun _ h9 => h9) rfl (by decide +kernel) rfl rfl (Nat.le_of_ble_eq_true rfl) dX5_step_50 (fun H locs hP hD hS => ?_)
      have hP : va_P D cls [(h0, .inr (5, [.ref h1, .ref h2, .ref h3, .int 0, .int 0, .int 0, .int 0, .int (-1)])), (h1, .inr (8, [.ref h4, .int 0])), (h2, .inr (2, [.ref h5, .int 0, .int 0])), (h3, .inl (cI, 12, .inl (fun _ => 0))), (h4, .inl (cI, 120, .inl (fun _ => 0))), (h5, .inl (cI, 12, .inl (fun _ => 0)))] H := hP
      have hD : va_D A [(h0, .inr (5, [.ref h1, .ref h2, .ref h3, .int 0, .int 0, .int 0, .int 0, .int (-1)])), (h1, .inr (8, [.ref h4, .int 0])), (h2, .inr (2, [.ref h5, .int 0, .int 0])), (h3, .inl (cI, 12, .inl (fun _ => 0))), (h4, .inl (cI, 120, .inl (fun _ => 0))), (h5, .inl (cI, 12, .inl (fun _ => 0)))] := hD
      refine lv_aload_n hx hb dX5_step_53 rfl (lv_at hl 1 rfl) ?_
      refine lv_aload_n hx hb dX5_step_54 rfl (lv_at hl 1 rfl) ?_
      refine va_get (D := D) (ci := 5) (v := .ref h1) (C := RX5) (T := TX5) (N := 8) hx hb hts hin5 hown hK hP 0 rfl rfl 0 (by decide) (hts (.fieldLink RX5 15 "MissedPoints$Reader" "tape" "LMissedPoints$Tape;") (by decide +kernel)) (fun _ h9 => h9) rfl dX5_step_55 ?_
      refine lv_aload_n hx hb dX5_step_58 rfl (lv_at hl 1 rfl) ?_
      refine va_get (D := D) (ci := 5) (v := .int 0) (C := RX5) (T := TX5) (N := 8) hx hb hts hin5 hown hK hP 0 rfl rfl 3 (by decide) (hts (.fieldLink RX5 23 "MissedPoints$Reader" "at" "I") (by decide +kernel)) (fun _ h9 => h9) rfl dX5_step_59 ?_
      have hPc := hP.sub (ws' := [(h1, .inr (8, [.ref h4, .int 0]))]) [1] rfl
      refine lz_sv (As := [.int 0]) (rest := [.ref h0]) ⟨hx, hb, hml, hown, hts⟩ (c_X8_byteAt_0 l D cI cS h1 h4) hKK hPc (ci := 8) rfl rfl (cwV 1 hts gX5_step_X8_byteAt rfl rfl rfl (by decide +kernel) ⟨Nat.le_of_ble_eq_true rfl, Nat.le_of_ble_eq_true rfl⟩) rfl hl.1 rfl (Nat.le_of_ble_eq_true rfl) dX5_step_62 ⟨Nat.le_of_ble_eq_true rfl, Nat.le_of_ble_eq_true rfl⟩ (fun r1834 hw => ?_)
      subst hw
      have hPc := hP.sub (ws' := []) [] rfl
      refine lz_ss (As := [.int (-1)]) (rest := [.ref h0]) ⟨hx, hb, hml, hown, hts⟩ (c_X5_tokenOf_0 l D cI cS) hKK hPc (va_cwS 1 hts gX5_step_X5_tokenOf rfl rfl rfl (by decide +kernel) ⟨Nat.le_of_ble_eq_true rfl, Nat.le_of_ble_eq_true rfl⟩) rfl hl.1 rfl (Nat.le_of_ble_eq_true rfl) dX5_step_65 ⟨Nat.le_of_ble_eq_true rfl, Nat.le_of_ble_eq_true rfl⟩ (fun r1836 hw => ?_)
      subst hw
      refine va_put (D := D) (ci := 5) (v := .int (-1)) (ty := .int) (C := RX5) (T := TX5) (N := 8) hx hb hts hin5 tyX5 tyX5_ok nmX5 hown hK hP hD hS 0 rfl rfl 5 (by decide) (hts (.fieldLink RX5 36 "MissedPoints$Reader" "token" "I") (by decide +kernel)) (fun _ h9 => h9) rfl (by decide +kernel) rfl rfl (Nat.le_of_ble_eq_true rfl) dX5_step_68 (fun H locs hP hD hS => ?_)
      have hP : va_P D cls [(h0, .inr (5, [.ref h1, .ref h2, .ref h3, .int 0, .int 0, .int (-1), .int 0, .int (-1)])), (h1, .inr (8, [.ref h4, .int 0])), (h2, .inr (2, [.ref h5, .int 0, .int 0])), (h3, .inl (cI, 12, .inl (fun _ => 0))), (h4, .inl (cI, 120, .inl (fun _ => 0))), (h5, .inl (cI, 12, .inl (fun _ => 0)))] H := hP
      have hD : va_D A [(h0, .inr (5, [.ref h1, .ref h2, .ref h3, .int 0, .int 0, .int (-1), .int 0, .int (-1)])), (h1, .inr (8, [.ref h4, .int 0])), (h2, .inr (2, [.ref h5, .int 0, .int 0])), (h3, .inl (cI, 12, .inl (fun _ => 0))), (h4, .inl (cI, 120, .inl (fun _ => 0))), (h5, .inl (cI, 12, .inl (fun _ => 0)))] := hD
      refine lv_aload_n hx hb dX5_step_71 rfl (lv_at hl 1 rfl) ?_
      refine va_get (D := D) (ci := 5) (v := .int (-1)) (C := RX5) (T := TX5) (N := 8) hx hb hts hin5 hown hK hP 0 rfl rfl 5 (by decide) (hts (.fieldLink RX5 36 "MissedPoints$Reader" "token" "I") (by decide +kernel)) (fun _ h9 => h9) rfl dX5_step_72 ?_
      refine lv_bipush (v := (-2)) hx hb dX5_step_75 (by decide) ?_
      refine lv_icmp_eq (tgt := 103) hx hb dX5_step_77 (by decide) (fun c1837 => ?_) (fun c1837 => ?_)
      · exact absurd c1837 (by decide)
      · refine lv_aload_n hx hb dX5_step_80 rfl (lv_at hl 1 rfl) ?_
        refine lv_dup hx hb dX5_step_81 rfl ?_
        refine va_get (D := D) (ci := 5) (v := .int 0) (C := RX5) (T := TX5) (N := 8) hx hb hts hin5 hown hK hP 0 rfl rfl 3 (by decide) (hts (.fieldLink RX5 23 "MissedPoints$Reader" "at" "I") (by decide +kernel)) (fun _ h9 => h9) rfl dX5_step_82 ?_
        refine lv_aload_n hx hb dX5_step_85 rfl (lv_at hl 1 rfl) ?_
        refine va_get (D := D) (ci := 5) (v := .int (-1)) (C := RX5) (T := TX5) (N := 8) hx hb hts hin5 hown hK hP 0 rfl rfl 5 (by decide) (hts (.fieldLink RX5 36 "MissedPoints$Reader" "token" "I") (by decide +kernel)) (fun _ h9 => h9) rfl dX5_step_86 ?_
        refine lv_iconst (v := (-1)) hx hb dX5_step_89 (by decide) ?_
        refine lv_icmp_ne (tgt := 97) hx hb dX5_step_90 (by decide) (fun c1838 => ?_) (fun c1838 => ?_)
        · exact absurd c1838 (by decide)
        · refine lv_iconst (v := 0) hx hb dX5_step_93 (by decide) ?_
          refine lv_goto (tgt := 98) hx hb dX5_step_94 (by decide) ?_
          refine lv_iadd hx hb dX5_step_98 ?_
          refine lz_top (y := 0) (by decide) ?_
          refine va_put (D := D) (ci := 5) (v := .int 0) (ty := .int) (C := RX5) (T := TX5) (N := 8) hx hb hts hin5 tyX5 tyX5_ok nmX5 hown hK hP hD hS 0 rfl rfl 3 (by decide) (hts (.fieldLink RX5 23 "MissedPoints$Reader" "at" "I") (by decide +kernel)) (fun _ h9 => h9) rfl (by decide +kernel) rfl rfl (Nat.le_of_ble_eq_true rfl) dX5_step_99 (fun H locs hP hD hS => ?_)
          have hP : va_P D cls [(h0, .inr (5, [.ref h1, .ref h2, .ref h3, .int 0, .int 0, .int (-1), .int 0, .int (-1)])), (h1, .inr (8, [.ref h4, .int 0])), (h2, .inr (2, [.ref h5, .int 0, .int 0])), (h3, .inl (cI, 12, .inl (fun _ => 0))), (h4, .inl (cI, 120, .inl (fun _ => 0))), (h5, .inl (cI, 12, .inl (fun _ => 0)))] H := hP
          have hD : va_D A [(h0, .inr (5, [.ref h1, .ref h2, .ref h3, .int 0, .int 0, .int (-1), .int 0, .int (-1)])), (h1, .inr (8, [.ref h4, .int 0])), (h2, .inr (2, [.ref h5, .int 0, .int 0])), (h3, .inl (cI, 12, .inl (fun _ => 0))), (h4, .inl (cI, 120, .inl (fun _ => 0))), (h5, .inl (cI, 12, .inl (fun _ => 0)))] := hD
          have hP9 := hP.sub (ws' := [(h0, .inr (5, [.ref h1, .ref h2, .ref h3, .int 0, .int 0, .int (-1), .int 0, .int (-1)])), (h1, .inr (8, [.ref h4, .int 0]))]) [0, 1] rfl
          have hD9 := hD.sub (ws' := [(h0, .inr (5, [.ref h1, .ref h2, .ref h3, .int 0, .int 0, .int (-1), .int 0, .int (-1)])), (h1, .inr (8, [.ref h4, .int 0]))]) [0, 1] (by decide) rfl
          subst hAe
          exact W.vret hx hb hr (fun t ht hW => ⟨⟨(), rfl, trivial, by rw [ht]; exact hP9, hD9⟩, hS.F ht⟩) hS.2.2 dX5_step_102
    · exact absurd c1833 (by decide)
set_option maxHeartbeats 4000000 in
set_option maxRecDepth 100000 in
theorem c_X5_fail_0 (l : Launch) (D : va_G) (cI cS : ClassId) (sz : Nat) (h0 h1 h2 h3 : Nat) : Met l yX5_fail wsX5_fail ({ frames := 0, cells := 0, slots := 0, locals := 0 }) (PQ D cI cS [(h0, .inr (5, [.ref h1, .ref h2, .ref h3, .int 0, .int 0, .int (-1), .int 0, .int (-1)]))] sz [.ref h0]) (QV D [(h0, .inr (5, [.ref h1, .ref h2, .ref h3, .int 0, .int 0, .int (-1), .int 0, .int (-1)]))] [(h0, .inr (5, [.ref h1, .ref h2, .ref h3, .int 0, .int 0, .int (-1), .int 0, .int 0]))] sz) 0 0 (va_A [(h0, .inr (5, [.ref h1, .ref h2, .ref h3, .int 0, .int 0, .int (-1), .int 0, .int (-1)]))] sz) := by
  refine Met.ofW (cc := cX5_fail) (maxL := 1) (ret := none) (by decide) rfl ?_
  intro p e s m args below meth c s₁ B hml hv
  obtain ⟨rfl, hsz, hP, hKK, hD0⟩ := hv
  have hx := B.exec
  have hb := B.bytes
  have hr := B.returns
  have hts := atoms_spec (ws := wsX5_fail) B.pre
  have hown : s.vm.findClass RX5 = some m.cls := findClass_of_methodNamed B.named
  have hlocks := B.notSynchronized
  have hK := hKK.1
  have hN := hKK.2
  have hin5 : ∀ w ∈ wsX50, w ∈ wsX5_fail := by decide +kernel
  subst hsz
  have hD := hD0.self (sz := s.heap.size)
  obtain ⟨A, hAe⟩ : ∃ A, A = va_A [(h0, .inr (5, [.ref h1, .ref h2, .ref h3, .int 0, .int 0, .int (-1), .int 0, .int (-1)]))] s.heap.size := ⟨_, rfl⟩
  rw [← hAe] at hD
  have hA : ∀ q : Nat, s.heap.size ≤ q → A q := fun q h => by rw [hAe]; exact Or.inr h
  have hS : va_S A s.heap s.heap [] := va_S.rf
  have hl := lv_entry ([.ref h0]) (n := 1) (Nat.le_of_ble_eq_true rfl)
  rw [lg_entry_eq]
  generalize (lg_sl ([.ref h0]) ++ List.replicate (1 - (lg_sl ([.ref h0])).length) Slot.unset).toArray = ls at hl ⊢
  have hl : lv_has ls 1 [(0, .ref h0)] := hl
  refine lv_aload_n hx hb dX5_fail_0 rfl (lv_at hl 0 rfl) ?_
  refine va_get (D := D) (ci := 5) (v := .int (-1)) (C := RX5) (T := TX5) (N := 8) hx hb hts hin5 hown hK hP 0 rfl rfl 7 (by decide) (hts (.fieldLink RX5 27 "MissedPoints$Reader" "fault" "I") (by decide +kernel)) (fun _ h9 => h9) rfl dX5_fail_1 ?_
  refine lv_if_ge (tgt := 15) hx hb dX5_fail_4 (by decide) (fun c1843 => ?_) (fun c1843 => ?_)
  · exact absurd c1843 (by decide)
  · refine lv_aload_n hx hb dX5_fail_7 rfl (lv_at hl 0 rfl) ?_
    refine lv_aload_n hx hb dX5_fail_8 rfl (lv_at hl 0 rfl) ?_
    refine va_get (D := D) (ci := 5) (v := .int 0) (C := RX5) (T := TX5) (N := 8) hx hb hts hin5 hown hK hP 0 rfl rfl 4 (by decide) (hts (.fieldLink RX5 42 "MissedPoints$Reader" "start" "I") (by decide +kernel)) (fun _ h9 => h9) rfl dX5_fail_9 ?_
    refine va_put (D := D) (ci := 5) (v := .int 0) (ty := .int) (C := RX5) (T := TX5) (N := 8) hx hb hts hin5 tyX5 tyX5_ok nmX5 hown hK hP hD hS 0 rfl rfl 7 (by decide) (hts (.fieldLink RX5 27 "MissedPoints$Reader" "fault" "I") (by decide +kernel)) (fun _ h9 => h9) rfl (by decide +kernel) rfl rfl (Nat.le_of_ble_eq_true rfl) dX5_fail_12 (fun H locs hP hD hS => ?_)
    have hP : va_P D cls [(h0, .inr (5, [.ref h1, .ref h2, .ref h3, .int 0, .int 0, .int (-1), .int 0, .int 0])), (h1, .inr (8, [.ref h4, .int 0])), (h2, .inr (2, [.ref h5, .int 0, .int 0])), (h3, .inl (cI, 12, .inl (fun _ => 0))), (h4, .inl (cI, 120, .inl (fun _ => 0))), (h5, .inl (cI, 12, .inl (fun _ => 0)))] H := hP
    have hD : va_D A [(h0, .inr (5, [.ref h1, .ref h2, .ref h3, .int 0, .int 0, .int (-1), .int 0, .int 0])), (h1, .inr (8, [.ref h4, .int 0])), (h2, .inr (2, [.ref h5, .int 0, .int 0])), (h3, .inl (cI, 12, .inl (fun _ => 0))), (h4, .inl (cI, 120, .inl (fun _ => 0))), (h5, .inl (cI, 12, .inl (fun _ => 0)))] := hD
    have hP9 := hP.sub (ws' := [(h0, .inr (5, [.ref h1, .ref h2, .ref h3, .int 0, .int 0, .int (-1), .int 0, .int 0]))]) [0] rfl
    have hD9 := hD.sub (ws' := [(h0, .inr (5, [.ref h1, .ref h2, .ref h3, .int 0, .int 0, .int (-1), .int 0, .int 0]))]) [0] (by decide) rfl
    subst hAe
    exact W.vret hx hb hr (fun t ht hW => ⟨⟨(), rfl, trivial, by rw [ht]; exact hP9, hD9⟩, hS.F ht⟩) hS.2.2 dX5_fail_15
set_option maxHeartbeats 4000000 in
set_option maxRecDepth 100000 in
theorem c_X5_readItem_0 (l : Launch) (D : va_G) (cI cS : ClassId) (sz : Nat) (h0 h1 h2 h3 : Nat) : Met l yX5_readItem wsX5_readItem ({ frames := 1, cells := 0, slots := 0, locals := 40 }) (PQ D cI cS [(h0, .inr (5, [.ref h1, .ref h2, .ref h3, .int 0, .int 0, .int (-1), .int 0, .int (-1)]))] sz [.ref h0]) (QV D [(h0, .inr (5, [.ref h1, .ref h2, .ref h3, .int 0, .int 0, .int (-1), .int 0, .int (-1)]))] [(h0, .inr (5, [.ref h1, .ref h2, .ref h3, .int 0, .int 0, .int (-1), .int 0, .int 0]))] sz) 0 0 (va_A [(h0, .inr (5, [.ref h1, .ref h2, .ref h3, .int 0, .int 0, .int (-1), .int 0, .int (-1)]))] sz) := by
  refine Met.ofW (cc := cX5_readItem) (maxL := 1) (ret := none) (by decide) rfl ?_
  intro p e s m args below meth c s₁ B hml hv
  obtain ⟨rfl, hsz, hP, hKK, hD0⟩ := hv
  have hx := B.exec
  have hb := B.bytes
  have hr := B.returns
  have hts := atoms_spec (ws := wsX5_readItem) B.pre
  have hown : s.vm.findClass RX5 = some m.cls := findClass_of_methodNamed B.named
  have hlocks := B.notSynchronized
  have hK := hKK.1
  have hN := hKK.2
  have hin5 : ∀ w ∈ wsX50, w ∈ wsX5_readItem := by decide +kernel
  subst hsz
  have hD := hD0.self (sz := s.heap.size)
  obtain ⟨A, hAe⟩ : ∃ A, A = va_A [(h0, .inr (5, [.ref h1, .ref h2, .ref h3, .int 0, .int 0, .int (-1), .int 0, .int (-1)]))] s.heap.size := ⟨_, rfl⟩
  rw [← hAe] at hD
  have hA : ∀ q : Nat, s.heap.size ≤ q → A q := fun q h => by rw [hAe]; exact Or.inr h
  have hS : va_S A s.heap s.heap [] := va_S.rf
  have hl := lv_entry ([.ref h0]) (n := 1) (Nat.le_of_ble_eq_true rfl)
  rw [lg_entry_eq]
  generalize (lg_sl ([.ref h0]) ++ List.replicate (1 - (lg_sl ([.ref h0])).length) Slot.unset).toArray = ls at hl ⊢
  have hl : lv_has ls 1 [(0, .ref h0)] := hl
  refine lv_aload_n hx hb dX5_readItem_0 rfl (lv_at hl 0 rfl) ?_
  refine va_get (D := D) (ci := 5) (v := .int (-1)) (C := RX5) (T := TX5) (N := 8) hx hb hts hin5 hown hK hP 0 rfl rfl 5 (by decide) (hts (.fieldLink RX5 36 "MissedPoints$Reader" "token" "I") (by decide +kernel)) (fun _ h9 => h9) rfl dX5_readItem_1 ?_
  refine lv_bipush (v := (-2)) hx hb dX5_readItem_4 (by decide) ?_
  refine lv_icmp_ne (tgt := 16) hx hb dX5_readItem_6 (by decide) (fun c1840 => ?_) (fun c1840 => ?_)
  · refine lv_aload_n hx hb dX5_readItem_16 rfl (lv_at hl 0 rfl) ?_
    refine va_get (D := D) (ci := 5) (v := .int (-1)) (C := RX5) (T := TX5) (N := 8) hx hb hts hin5 hown hK hP 0 rfl rfl 5 (by decide) (hts (.fieldLink RX5 36 "MissedPoints$Reader" "token" "I") (by decide +kernel)) (fun _ h9 => h9) rfl dX5_readItem_17 ?_
    refine lv_bipush (v := 40) hx hb dX5_readItem_20 (by decide) ?_
    refine lv_icmp_ne (tgt := 35) hx hb dX5_readItem_22 (by decide) (fun c1841 => ?_) (fun c1841 => ?_)
    · refine lv_aload_n hx hb dX5_readItem_35 rfl (lv_at hl 0 rfl) ?_
      refine va_get (D := D) (ci := 5) (v := .int (-1)) (C := RX5) (T := TX5) (N := 8) hx hb hts hin5 hown hK hP 0 rfl rfl 5 (by decide) (hts (.fieldLink RX5 36 "MissedPoints$Reader" "token" "I") (by decide +kernel)) (fun _ h9 => h9) rfl dX5_readItem_36 ?_
      refine lv_bipush (v := 91) hx hb dX5_readItem_39 (by decide) ?_
      refine lv_icmp_ne (tgt := 54) hx hb dX5_readItem_41 (by decide) (fun c1842 => ?_) (fun c1842 => ?_)
      · refine lv_aload_n hx hb dX5_readItem_54 rfl (lv_at hl 0 rfl) ?_
        have hPc := hP.sub (ws' := [(h0, .inr (5, [.ref h1, .ref h2, .ref h3, .int 0, .int 0, .int (-1), .int 0, .int (-1)]))]) [0] rfl
        have hDc := hD.sub (ws' := [(h0, .inr (5, [.ref h1, .ref h2, .ref h3, .int 0, .int 0, .int (-1), .int 0, .int (-1)]))]) [0] (by decide) rfl
        refine lz_qv (wr := [(h1, .inr (8, [.ref h4, .int 0])), (h2, .inr (2, [.ref h5, .int 0, .int 0])), (h3, .inl (cI, 12, .inl (fun _ => 0))), (h4, .inl (cI, 120, .inl (fun _ => 0))), (h5, .inl (cI, 12, .inl (fun _ => 0)))]) (w1 := [(h0, .inr (5, [.ref h1, .ref h2, .ref h3, .int 0, .int 0, .int (-1), .int 0, .int 0]))]) (As := []) (rest := []) ⟨hx, hb, hml, hown, hts⟩ (c_X5_fail_0 l D cI cS H.size h0 h1 h2 h3) hKK hP hD hS hA [0] [1, 2, 3, 4, 5] (by decide) rfl rfl (by decide) (by decide) hPc hDc (ci := 5) rfl rfl (cwV 0 hts gX5_readItem_X5_fail rfl rfl rfl (by decide +kernel) ⟨Nat.le_of_ble_eq_true rfl, Nat.le_of_ble_eq_true rfl⟩) rfl hl.1 rfl (Nat.le_of_ble_eq_true rfl) dX5_readItem_55 ⟨Nat.le_of_ble_eq_true rfl, Nat.le_of_ble_eq_true rfl⟩ (fun H locs hP hD hS => ?_)
        have hP : va_P D cls [(h1, .inr (8, [.ref h4, .int 0])), (h2, .inr (2, [.ref h5, .int 0, .int 0])), (h3, .inl (cI, 12, .inl (fun _ => 0))), (h4, .inl (cI, 120, .inl (fun _ => 0))), (h5, .inl (cI, 12, .inl (fun _ => 0))), (h0, .inr (5, [.ref h1, .ref h2, .ref h3, .int 0, .int 0, .int (-1), .int 0, .int 0]))] H := hP
        have hD : va_D A [(h1, .inr (8, [.ref h4, .int 0])), (h2, .inr (2, [.ref h5, .int 0, .int 0])), (h3, .inl (cI, 12, .inl (fun _ => 0))), (h4, .inl (cI, 120, .inl (fun _ => 0))), (h5, .inl (cI, 12, .inl (fun _ => 0))), (h0, .inr (5, [.ref h1, .ref h2, .ref h3, .int 0, .int 0, .int (-1), .int 0, .int 0]))] := hD
        have hP9 := hP.sub (ws' := [(h0, .inr (5, [.ref h1, .ref h2, .ref h3, .int 0, .int 0, .int (-1), .int 0, .int 0]))]) [5] rfl
        have hD9 := hD.sub (ws' := [(h0, .inr (5, [.ref h1, .ref h2, .ref h3, .int 0, .int 0, .int (-1), .int 0, .int 0]))]) [5] (by decide) rfl
        subst hAe
        exact W.vret hx hb hr (fun t ht hW => ⟨⟨(), rfl, trivial, by rw [ht]; exact hP9, hD9⟩, hS.F ht⟩) hS.2.2 dX5_readItem_58
      · exact absurd c1842 (by decide)
    · exact absurd c1841 (by decide)
  · exact absurd c1840 (by decide)
set_option maxHeartbeats 4000000 in
set_option maxRecDepth 100000 in
theorem c_X5_readAll_0 (l : Launch) (D : va_G) (cI cS : ClassId) (sz : Nat) (h0 h1 h2 h3 h4 : Nat) : Met l yX5_readAll wsX5_readAll ({ frames := 2, cells := 0, slots := 0, locals := 80 }) (PQ D cI cS [(h0, .inr (5, [.ref h1, .ref h2, .ref h3, .int 0, .int 0, .int 0, .int 0, .int 0])), (h1, .inr (8, [.ref h4, .int 0])), (h3, .inl (cI, 12, .inl (fun _ => 0)))] sz [.ref h0]) (QI D [(h0, .inr (5, [.ref h1, .ref h2, .ref h3, .int 0, .int 0, .int 0, .int 0, .int 0])), (h1, .inr (8, [.ref h4, .int 0])), (h3, .inl (cI, 12, .inl (fun _ => 0)))] [(h3, .inl (cI, 12, .inl (fun _ => 0))), (h1, .inr (8, [.ref h4, .int 0])), (h0, .inr (5, [.ref h1, .ref h2, .ref h3, .int 0, .int 0, .int (-1), .int 0, .int 0]))] sz (fun r => r = (0 : Int32))) 0 0 (va_A [(h0, .inr (5, [.ref h1, .ref h2, .ref h3, .int 0, .int 0, .int 0, .int 0, .int 0])), (h1, .inr (8, [.ref h4, .int 0])), (h3, .inl (cI, 12, .inl (fun _ => 0)))] sz) := by
  refine Met.ofW (cc := cX5_readAll) (maxL := 2) (ret := (some .int)) (by decide) rfl ?_
  intro p e s m args below meth c s₁ B hml hv
  obtain ⟨rfl, hsz, hP, hKK, hD0⟩ := hv
  have hx := B.exec
  have hb := B.bytes
  have hr := B.returns
  have hts := atoms_spec (ws := wsX5_readAll) B.pre
  have hown : s.vm.findClass RX5 = some m.cls := findClass_of_methodNamed B.named
  have hlocks := B.notSynchronized
  have hK := hKK.1
  have hN := hKK.2
  have hin5 : ∀ w ∈ wsX50, w ∈ wsX5_readAll := by decide +kernel
  subst hsz
  have hD := hD0.self (sz := s.heap.size)
  obtain ⟨A, hAe⟩ : ∃ A, A = va_A [(h0, .inr (5, [.ref h1, .ref h2, .ref h3, .int 0, .int 0, .int 0, .int 0, .int 0])), (h1, .inr (8, [.ref h4, .int 0])), (h3, .inl (cI, 12, .inl (fun _ => 0)))] s.heap.size := ⟨_, rfl⟩
  rw [← hAe] at hD
  have hA : ∀ q : Nat, s.heap.size ≤ q → A q := fun q h => by rw [hAe]; exact Or.inr h
  have hS : va_S A s.heap s.heap [] := va_S.rf
  have hl := lv_entry ([.ref h0]) (n := 2) (Nat.le_of_ble_eq_true rfl)
  rw [lg_entry_eq]
  generalize (lg_sl ([.ref h0]) ++ List.replicate (2 - (lg_sl ([.ref h0])).length) Slot.unset).toArray = ls at hl ⊢
  have hl : lv_has ls 2 [(0, .ref h0)] := hl
  refine lv_iconst (v := 0) hx hb dX5_readAll_0 (by decide) ?_
  refine lv_istore_n (lv' := [(1, .int 0), (0, .ref h0)]) hx hb dX5_readAll_1 rfl hl (by decide) rfl (fun ls hl => ?_)
  refine lv_iload_n hx hb dX5_readAll_2 rfl (lv_at hl 0 rfl) ?_
  refine lv_bipush (v := 12) hx hb dX5_readAll_3 (by decide) ?_
  refine lv_icmp_ge (tgt := 21) hx hb dX5_readAll_5 (by decide) (fun c1816 => ?_) (fun c1816 => ?_)
  · exact absurd c1816 (by decide)
  · refine lv_aload_n hx hb dX5_readAll_8 rfl (lv_at hl 1 rfl) ?_
    refine va_get (D := D) (ci := 5) (v := .ref h3) (C := RX5) (T := TX5) (N := 8) hx hb hts hin5 hown hK hP 0 rfl rfl 2 (by decide) (hts (.fieldLink RX5 9 "MissedPoints$Reader" "links" "[I") (by decide +kernel)) (fun _ h9 => h9) rfl dX5_readAll_9 ?_
    refine lv_iload_n hx hb dX5_readAll_12 rfl (lv_at hl 0 rfl) ?_
    refine lv_iconst (v := 0) hx hb dX5_readAll_13 (by decide) ?_
    refine lz_astc hx hb hK hP hD hS 3 0 rfl rfl (lz_vp (x := 0) (n := 12) (by decide) (by decide)) dX5_readAll_14 (fun H locs hP hD hS => ?_)
    refine lv_iinc (v := 1) (lv' := [(1, .int 1), (0, .ref h0)]) hx hb dX5_readAll_15 hl (k := 0) rfl (by decide) (by decide) rfl (fun ls hl => ?_)
    refine lv_goto (tgt := 2) hx hb dX5_readAll_18 (by decide) ?_
    refine lv_iload_n hx hb dX5_readAll_2 rfl (lv_at hl 0 rfl) ?_
    refine lv_bipush (v := 12) hx hb dX5_readAll_3 (by decide) ?_
    refine lv_icmp_ge (tgt := 21) hx hb dX5_readAll_5 (by decide) (fun c1817 => ?_) (fun c1817 => ?_)
    · exact absurd c1817 (by decide)
    · refine lv_aload_n hx hb dX5_readAll_8 rfl (lv_at hl 1 rfl) ?_
      refine va_get (D := D) (ci := 5) (v := .ref h3) (C := RX5) (T := TX5) (N := 8) hx hb hts hin5 hown hK hP 0 rfl rfl 2 (by decide) (hts (.fieldLink RX5 9 "MissedPoints$Reader" "links" "[I") (by decide +kernel)) (fun _ h9 => h9) rfl dX5_readAll_9 ?_
      refine lv_iload_n hx hb dX5_readAll_12 rfl (lv_at hl 0 rfl) ?_
      refine lv_iconst (v := 0) hx hb dX5_readAll_13 (by decide) ?_
      refine lz_astc hx hb hK hP hD hS 3 0 rfl rfl (lz_vp (x := 1) (n := 12) (by decide) (by decide)) dX5_readAll_14 (fun H locs hP hD hS => ?_)
      refine lv_iinc (v := 2) (lv' := [(1, .int 2), (0, .ref h0)]) hx hb dX5_readAll_15 hl (k := 0) rfl (by decide) (by decide) rfl (fun ls hl => ?_)
      refine lv_goto (tgt := 2) hx hb dX5_readAll_18 (by decide) ?_
      refine lv_iload_n hx hb dX5_readAll_2 rfl (lv_at hl 0 rfl) ?_
      refine lv_bipush (v := 12) hx hb dX5_readAll_3 (by decide) ?_
      refine lv_icmp_ge (tgt := 21) hx hb dX5_readAll_5 (by decide) (fun c1818 => ?_) (fun c1818 => ?_)
      · exact absurd c1818 (by decide)
      · refine lv_aload_n hx hb dX5_readAll_8 rfl (lv_at hl 1 rfl) ?_
        refine va_get (D := D) (ci := 5) (v := .ref h3) (C := RX5) (T := TX5) (N := 8) hx hb hts hin5 hown hK hP 0 rfl rfl 2 (by decide) (hts (.fieldLink RX5 9 "MissedPoints$Reader" "links" "[I") (by decide +kernel)) (fun _ h9 => h9) rfl dX5_readAll_9 ?_
        refine lv_iload_n hx hb dX5_readAll_12 rfl (lv_at hl 0 rfl) ?_
        refine lv_iconst (v := 0) hx hb dX5_readAll_13 (by decide) ?_
        refine lz_astc hx hb hK hP hD hS 3 0 rfl rfl (lz_vp (x := 2) (n := 12) (by decide) (by decide)) dX5_readAll_14 (fun H locs hP hD hS => ?_)
        refine lv_iinc (v := 3) (lv' := [(1, .int 3), (0, .ref h0)]) hx hb dX5_readAll_15 hl (k := 0) rfl (by decide) (by decide) rfl (fun ls hl => ?_)
        refine lv_goto (tgt := 2) hx hb dX5_readAll_18 (by decide) ?_
        refine lv_iload_n hx hb dX5_readAll_2 rfl (lv_at hl 0 rfl) ?_
        refine lv_bipush (v := 12) hx hb dX5_readAll_3 (by decide) ?_
        refine lv_icmp_ge (tgt := 21) hx hb dX5_readAll_5 (by decide) (fun c1819 => ?_) (fun c1819 => ?_)
        · exact absurd c1819 (by decide)
        · refine lv_aload_n hx hb dX5_readAll_8 rfl (lv_at hl 1 rfl) ?_
          refine va_get (D := D) (ci := 5) (v := .ref h3) (C := RX5) (T := TX5) (N := 8) hx hb hts hin5 hown hK hP 0 rfl rfl 2 (by decide) (hts (.fieldLink RX5 9 "MissedPoints$Reader" "links" "[I") (by decide +kernel)) (fun _ h9 => h9) rfl dX5_readAll_9 ?_
          refine lv_iload_n hx hb dX5_readAll_12 rfl (lv_at hl 0 rfl) ?_
          refine lv_iconst (v := 0) hx hb dX5_readAll_13 (by decide) ?_
          refine lz_astc hx hb hK hP hD hS 3 0 rfl rfl (lz_vp (x := 3) (n := 12) (by decide) (by decide)) dX5_readAll_14 (fun H locs hP hD hS => ?_)
          refine lv_iinc (v := 4) (lv' := [(1, .int 4), (0, .ref h0)]) hx hb dX5_readAll_15 hl (k := 0) rfl (by decide) (by decide) rfl (fun ls hl => ?_)
          refine lv_goto (tgt := 2) hx hb dX5_readAll_18 (by decide) ?_
          refine lv_iload_n hx hb dX5_readAll_2 rfl (lv_at hl 0 rfl) ?_
          refine lv_bipush (v := 12) hx hb dX5_readAll_3 (by decide) ?_
          refine lv_icmp_ge (tgt := 21) hx hb dX5_readAll_5 (by decide) (fun c1820 => ?_) (fun c1820 => ?_)
          · exact absurd c1820 (by decide)
          · refine lv_aload_n hx hb dX5_readAll_8 rfl (lv_at hl 1 rfl) ?_
            refine va_get (D := D) (ci := 5) (v := .ref h3) (C := RX5) (T := TX5) (N := 8) hx hb hts hin5 hown hK hP 0 rfl rfl 2 (by decide) (hts (.fieldLink RX5 9 "MissedPoints$Reader" "links" "[I") (by decide +kernel)) (fun _ h9 => h9) rfl dX5_readAll_9 ?_
            refine lv_iload_n hx hb dX5_readAll_12 rfl (lv_at hl 0 rfl) ?_
            refine lv_iconst (v := 0) hx hb dX5_readAll_13 (by decide) ?_
            refine lz_astc hx hb hK hP hD hS 3 0 rfl rfl (lz_vp (x := 4) (n := 12) (by decide) (by decide)) dX5_readAll_14 (fun H locs hP hD hS => ?_)
            refine lv_iinc (v := 5) (lv' := [(1, .int 5), (0, .ref h0)]) hx hb dX5_readAll_15 hl (k := 0) rfl (by decide) (by decide) rfl (fun ls hl => ?_)
            refine lv_goto (tgt := 2) hx hb dX5_readAll_18 (by decide) ?_
            refine lv_iload_n hx hb dX5_readAll_2 rfl (lv_at hl 0 rfl) ?_
            refine lv_bipush (v := 12) hx hb dX5_readAll_3 (by decide) ?_
            refine lv_icmp_ge (tgt := 21) hx hb dX5_readAll_5 (by decide) (fun c1821 => ?_) (fun c1821 => ?_)
            · exact absurd c1821 (by decide)
            · refine lv_aload_n hx hb dX5_readAll_8 rfl (lv_at hl 1 rfl) ?_
              refine va_get (D := D) (ci := 5) (v := .ref h3) (C := RX5) (T := TX5) (N := 8) hx hb hts hin5 hown hK hP 0 rfl rfl 2 (by decide) (hts (.fieldLink RX5 9 "MissedPoints$Reader" "links" "[I") (by decide +kernel)) (fun _ h9 => h9) rfl dX5_readAll_9 ?_
              refine lv_iload_n hx hb dX5_readAll_12 rfl (lv_at hl 0 rfl) ?_
              refine lv_iconst (v := 0) hx hb dX5_readAll_13 (by decide) ?_
              refine lz_astc hx hb hK hP hD hS 3 0 rfl rfl (lz_vp (x := 5) (n := 12) (by decide) (by decide)) dX5_readAll_14 (fun H locs hP hD hS => ?_)
              refine lv_iinc (v := 6) (lv' := [(1, .int 6), (0, .ref h0)]) hx hb dX5_readAll_15 hl (k := 0) rfl (by decide) (by decide) rfl (fun ls hl => ?_)
              refine lv_goto (tgt := 2) hx hb dX5_readAll_18 (by decide) ?_
              refine lv_iload_n hx hb dX5_readAll_2 rfl (lv_at hl 0 rfl) ?_
              refine lv_bipush (v := 12) hx hb dX5_readAll_3 (by decide) ?_
              refine lv_icmp_ge (tgt := 21) hx hb dX5_readAll_5 (by decide) (fun c1822 => ?_) (fun c1822 => ?_)
              · exact absurd c1822 (by decide)
              · refine lv_aload_n hx hb dX5_readAll_8 rfl (lv_at hl 1 rfl) ?_
                refine va_get (D := D) (ci := 5) (v := .ref h3) (C := RX5) (T := TX5) (N := 8) hx hb hts hin5 hown hK hP 0 rfl rfl 2 (by decide) (hts (.fieldLink RX5 9 "MissedPoints$Reader" "links" "[I") (by decide +kernel)) (fun _ h9 => h9) rfl dX5_readAll_9 ?_
                refine lv_iload_n hx hb dX5_readAll_12 rfl (lv_at hl 0 rfl) ?_
                refine lv_iconst (v := 0) hx hb dX5_readAll_13 (by decide) ?_
                refine lz_astc hx hb hK hP hD hS 3 0 rfl rfl (lz_vp (x := 6) (n := 12) (by decide) (by decide)) dX5_readAll_14 (fun H locs hP hD hS => ?_)
                refine lv_iinc (v := 7) (lv' := [(1, .int 7), (0, .ref h0)]) hx hb dX5_readAll_15 hl (k := 0) rfl (by decide) (by decide) rfl (fun ls hl => ?_)
                refine lv_goto (tgt := 2) hx hb dX5_readAll_18 (by decide) ?_
                refine lv_iload_n hx hb dX5_readAll_2 rfl (lv_at hl 0 rfl) ?_
                refine lv_bipush (v := 12) hx hb dX5_readAll_3 (by decide) ?_
                refine lv_icmp_ge (tgt := 21) hx hb dX5_readAll_5 (by decide) (fun c1823 => ?_) (fun c1823 => ?_)
                · exact absurd c1823 (by decide)
                · refine lv_aload_n hx hb dX5_readAll_8 rfl (lv_at hl 1 rfl) ?_
                  refine va_get (D := D) (ci := 5) (v := .ref h3) (C := RX5) (T := TX5) (N := 8) hx hb hts hin5 hown hK hP 0 rfl rfl 2 (by decide) (hts (.fieldLink RX5 9 "MissedPoints$Reader" "links" "[I") (by decide +kernel)) (fun _ h9 => h9) rfl dX5_readAll_9 ?_
                  refine lv_iload_n hx hb dX5_readAll_12 rfl (lv_at hl 0 rfl) ?_
                  refine lv_iconst (v := 0) hx hb dX5_readAll_13 (by decide) ?_
                  refine lz_astc hx hb hK hP hD hS 3 0 rfl rfl (lz_vp (x := 7) (n := 12) (by decide) (by decide)) dX5_readAll_14 (fun H locs hP hD hS => ?_)
                  refine lv_iinc (v := 8) (lv' := [(1, .int 8), (0, .ref h0)]) hx hb dX5_readAll_15 hl (k := 0) rfl (by decide) (by decide) rfl (fun ls hl => ?_)
                  refine lv_goto (tgt := 2) hx hb dX5_readAll_18 (by decide) ?_
                  refine lv_iload_n hx hb dX5_readAll_2 rfl (lv_at hl 0 rfl) ?_
                  refine lv_bipush (v := 12) hx hb dX5_readAll_3 (by decide) ?_
                  refine lv_icmp_ge (tgt := 21) hx hb dX5_readAll_5 (by decide) (fun c1824 => ?_) (fun c1824 => ?_)
                  · exact absurd c1824 (by decide)
                  · refine lv_aload_n hx hb dX5_readAll_8 rfl (lv_at hl 1 rfl) ?_
                    refine va_get (D := D) (ci := 5) (v := .ref h3) (C := RX5) (T := TX5) (N := 8) hx hb hts hin5 hown hK hP 0 rfl rfl 2 (by decide) (hts (.fieldLink RX5 9 "MissedPoints$Reader" "links" "[I") (by decide +kernel)) (fun _ h9 => h9) rfl dX5_readAll_9 ?_
                    refine lv_iload_n hx hb dX5_readAll_12 rfl (lv_at hl 0 rfl) ?_
                    refine lv_iconst (v := 0) hx hb dX5_readAll_13 (by decide) ?_
                    refine lz_astc hx hb hK hP hD hS 3 0 rfl rfl (lz_vp (x := 8) (n := 12) (by decide) (by decide)) dX5_readAll_14 (fun H locs hP hD hS => ?_)
                    refine lv_iinc (v := 9) (lv' := [(1, .int 9), (0, .ref h0)]) hx hb dX5_readAll_15 hl (k := 0) rfl (by decide) (by decide) rfl (fun ls hl => ?_)
                    refine lv_goto (tgt := 2) hx hb dX5_readAll_18 (by decide) ?_
                    refine lv_iload_n hx hb dX5_readAll_2 rfl (lv_at hl 0 rfl) ?_
                    refine lv_bipush (v := 12) hx hb dX5_readAll_3 (by decide) ?_
                    refine lv_icmp_ge (tgt := 21) hx hb dX5_readAll_5 (by decide) (fun c1825 => ?_) (fun c1825 => ?_)
                    · exact absurd c1825 (by decide)
                    · refine lv_aload_n hx hb dX5_readAll_8 rfl (lv_at hl 1 rfl) ?_
                      refine va_get (D := D) (ci := 5) (v := .ref h3) (C := RX5) (T := TX5) (N := 8) hx hb hts hin5 hown hK hP 0 rfl rfl 2 (by decide) (hts (.fieldLink RX5 9 "MissedPoints$Reader" "links" "[I") (by decide +kernel)) (fun _ h9 => h9) rfl dX5_readAll_9 ?_
                      refine lv_iload_n hx hb dX5_readAll_12 rfl (lv_at hl 0 rfl) ?_
                      refine lv_iconst (v := 0) hx hb dX5_readAll_13 (by decide) ?_
                      refine lz_astc hx hb hK hP hD hS 3 0 rfl rfl (lz_vp (x := 9) (n := 12) (by decide) (by decide)) dX5_readAll_14 (fun H locs hP hD hS => ?_)
                      refine lv_iinc (v := 10) (lv' := [(1, .int 10), (0, .ref h0)]) hx hb dX5_readAll_15 hl (k := 0) rfl (by decide) (by decide) rfl (fun ls hl => ?_)
                      refine lv_goto (tgt := 2) hx hb dX5_readAll_18 (by decide) ?_
                      refine lv_iload_n hx hb dX5_readAll_2 rfl (lv_at hl 0 rfl) ?_
                      refine lv_bipush (v := 12) hx hb dX5_readAll_3 (by decide) ?_
                      refine lv_icmp_ge (tgt := 21) hx hb dX5_readAll_5 (by decide) (fun c1826 => ?_) (fun c1826 => ?_)
                      · exact absurd c1826 (by decide)
                      · refine lv_aload_n hx hb dX5_readAll_8 rfl (lv_at hl 1 rfl) ?_
                        refine va_get (D := D) (ci := 5) (v := .ref h3) (C := RX5) (T := TX5) (N := 8) hx hb hts hin5 hown hK hP 0 rfl rfl 2 (by decide) (hts (.fieldLink RX5 9 "MissedPoints$Reader" "links" "[I") (by decide +kernel)) (fun _ h9 => h9) rfl dX5_readAll_9 ?_
                        refine lv_iload_n hx hb dX5_readAll_12 rfl (lv_at hl 0 rfl) ?_
                        refine lv_iconst (v := 0) hx hb dX5_readAll_13 (by decide) ?_
                        refine lz_astc hx hb hK hP hD hS 3 0 rfl rfl (lz_vp (x := 10) (n := 12) (by decide) (by decide)) dX5_readAll_14 (fun H locs hP hD hS => ?_)
                        refine lv_iinc (v := 11) (lv' := [(1, .int 11), (0, .ref h0)]) hx hb dX5_readAll_15 hl (k := 0) rfl (by decide) (by decide) rfl (fun ls hl => ?_)
                        refine lv_goto (tgt := 2) hx hb dX5_readAll_18 (by decide) ?_
                        refine lv_iload_n hx hb dX5_readAll_2 rfl (lv_at hl 0 rfl) ?_
                        refine lv_bipush (v := 12) hx hb dX5_readAll_3 (by decide) ?_
                        refine lv_icmp_ge (tgt := 21) hx hb dX5_readAll_5 (by decide) (fun c1827 => ?_) (fun c1827 => ?_)
                        · exact absurd c1827 (by decide)
                        · refine lv_aload_n hx hb dX5_readAll_8 rfl (lv_at hl 1 rfl) ?_
                          refine va_get (D := D) (ci := 5) (v := .ref h3) (C := RX5) (T := TX5) (N := 8) hx hb hts hin5 hown hK hP 0 rfl rfl 2 (by decide) (hts (.fieldLink RX5 9 "MissedPoints$Reader" "links" "[I") (by decide +kernel)) (fun _ h9 => h9) rfl dX5_readAll_9 ?_
                          refine lv_iload_n hx hb dX5_readAll_12 rfl (lv_at hl 0 rfl) ?_
                          refine lv_iconst (v := 0) hx hb dX5_readAll_13 (by decide) ?_
                          refine lz_astc hx hb hK hP hD hS 3 0 rfl rfl (lz_vp (x := 11) (n := 12) (by decide) (by decide)) dX5_readAll_14 (fun H locs hP hD hS => ?_)
                          refine lv_iinc (v := 12) (lv' := [(1, .int 12), (0, .ref h0)]) hx hb dX5_readAll_15 hl (k := 0) rfl (by decide) (by decide) rfl (fun ls hl => ?_)
                          refine lv_goto (tgt := 2) hx hb dX5_readAll_18 (by decide) ?_
                          refine lv_iload_n hx hb dX5_readAll_2 rfl (lv_at hl 0 rfl) ?_
                          refine lv_bipush (v := 12) hx hb dX5_readAll_3 (by decide) ?_
                          refine lv_icmp_ge (tgt := 21) hx hb dX5_readAll_5 (by decide) (fun c1828 => ?_) (fun c1828 => ?_)
                          · refine lv_aload_n hx hb dX5_readAll_21 rfl (lv_at hl 1 rfl) ?_
                            refine lv_iconst (v := 0) hx hb dX5_readAll_22 (by decide) ?_
                            refine va_put (D := D) (ci := 5) (v := .int 0) (ty := .int) (C := RX5) (T := TX5) (N := 8) hx hb hts hin5 tyX5 tyX5_ok nmX5 hown hK hP hD hS 0 rfl rfl 3 (by decide) (hts (.fieldLink RX5 23 "MissedPoints$Reader" "at" "I") (by decide +kernel)) (fun _ h9 => h9) rfl (by decide +kernel) rfl rfl (Nat.le_of_ble_eq_true rfl) dX5_readAll_23 (fun H locs hP hD hS => ?_)
                            have hP : va_P D cls [(h0, .inr (5, [.ref h1, .ref h2, .ref h3, .int 0, .int 0, .int 0, .int 0, .int 0])), (h1, .inr (8, [.ref h4, .int 0])), (h2, .inr (2, [.ref h5, .int 0, .int 0])), (h3, .inl (cI, 12, .inl (fun _ => 0))), (h4, .inl (cI, 120, .inl (fun _ => 0))), (h5, .inl (cI, 12, .inl (fun _ => 0)))] H := hP
                            have hD : va_D A [(h0, .inr (5, [.ref h1, .ref h2, .ref h3, .int 0, .int 0, .int 0, .int 0, .int 0])), (h1, .inr (8, [.ref h4, .int 0])), (h2, .inr (2, [.ref h5, .int 0, .int 0])), (h3, .inl (cI, 12, .inl (fun _ => 0))), (h4, .inl (cI, 120, .inl (fun _ => 0))), (h5, .inl (cI, 12, .inl (fun _ => 0)))] := hD
                            refine lv_aload_n hx hb dX5_readAll_26 rfl (lv_at hl 1 rfl) ?_
                            refine lv_iconst (v := (-1)) hx hb dX5_readAll_27 (by decide) ?_
                            refine va_put (D := D) (ci := 5) (v := .int (-1)) (ty := .int) (C := RX5) (T := TX5) (N := 8) hx hb hts hin5 tyX5 tyX5_ok nmX5 hown hK hP hD hS 0 rfl rfl 7 (by decide) (hts (.fieldLink RX5 27 "MissedPoints$Reader" "fault" "I") (by decide +kernel)) (fun _ h9 => h9) rfl (by decide +kernel) rfl rfl (Nat.le_of_ble_eq_true rfl) dX5_readAll_28 (fun H locs hP hD hS => ?_)
                            have hP : va_P D cls [(h0, .inr (5, [.ref h1, .ref h2, .ref h3, .int 0, .int 0, .int 0, .int 0, .int (-1)])), (h1, .inr (8, [.ref h4, .int 0])), (h2, .inr (2, [.ref h5, .int 0, .int 0])), (h3, .inl (cI, 12, .inl (fun _ => 0))), (h4, .inl (cI, 120, .inl (fun _ => 0))), (h5, .inl (cI, 12, .inl (fun _ => 0)))] H := hP
                            have hD : va_D A [(h0, .inr (5, [.ref h1, .ref h2, .ref h3, .int 0, .int 0, .int 0, .int 0, .int (-1)])), (h1, .inr (8, [.ref h4, .int 0])), (h2, .inr (2, [.ref h5, .int 0, .int 0])), (h3, .inl (cI, 12, .inl (fun _ => 0))), (h4, .inl (cI, 120, .inl (fun _ => 0))), (h5, .inl (cI, 12, .inl (fun _ => 0)))] := hD
                            refine lv_aload_n hx hb dX5_readAll_31 rfl (lv_at hl 1 rfl) ?_
                            have hPc := hP.sub (ws' := [(h0, .inr (5, [.ref h1, .ref h2, .ref h3, .int 0, .int 0, .int 0, .int 0, .int (-1)])), (h1, .inr (8, [.ref h4, .int 0]))]) [0, 1] rfl
                            have hDc := hD.sub (ws' := [(h0, .inr (5, [.ref h1, .ref h2, .ref h3, .int 0, .int 0, .int 0, .int 0, .int (-1)])), (h1, .inr (8, [.ref h4, .int 0]))]) [0, 1] (by decide) rfl
                            refine lz_qv (wr := [(h2, .inr (2, [.ref h5, .int 0, .int 0])), (h3, .inl (cI, 12, .inl (fun _ => 0))), (h4, .inl (cI, 120, .inl (fun _ => 0))), (h5, .inl (cI, 12, .inl (fun _ => 0)))]) (w1 := [(h0, .inr (5, [.ref h1, .ref h2, .ref h3, .int 0, .int 0, .int (-1), .int 0, .int (-1)])), (h1, .inr (8, [.ref h4, .int 0]))]) (As := []) (rest := []) ⟨hx, hb, hml, hown, hts⟩ (c_X5_step_0 l D cI cS H.size h0 h1 h2 h3 h4) hKK hP hD hS hA [0, 1] [2, 3, 4, 5] (by decide) rfl rfl (by decide) (by decide) hPc hDc (ci := 5) rfl rfl (cwV 0 hts gX5_readAll_X5_step rfl rfl rfl (by decide +kernel) ⟨Nat.le_of_ble_eq_true rfl, Nat.le_of_ble_eq_true rfl⟩) rfl hl.1 rfl (Nat.le_of_ble_eq_true rfl) dX5_readAll_32 ⟨Nat.le_of_ble_eq_true rfl, Nat.le_of_ble_eq_true rfl⟩ (fun H locs hP hD hS => ?_)
                            have hP : va_P D cls [(h2, .inr (2, [.ref h5, .int 0, .int 0])), (h3, .inl (cI, 12, .inl (fun _ => 0))), (h4, .inl (cI, 120, .inl (fun _ => 0))), (h5, .inl (cI, 12, .inl (fun _ => 0))), (h0, .inr (5, [.ref h1, .ref h2, .ref h3, .int 0, .int 0, .int (-1), .int 0, .int (-1)])), (h1, .inr (8, [.ref h4, .int 0]))] H := hP
                            have hD : va_D A [(h2, .inr (2, [.ref h5, .int 0, .int 0])), (h3, .inl (cI, 12, .inl (fun _ => 0))), (h4, .inl (cI, 120, .inl (fun _ => 0))), (h5, .inl (cI, 12, .inl (fun _ => 0))), (h0, .inr (5, [.ref h1, .ref h2, .ref h3, .int 0, .int 0, .int (-1), .int 0, .int (-1)])), (h1, .inr (8, [.ref h4, .int 0]))] := hD
                            refine lv_aload_n hx hb dX5_readAll_35 rfl (lv_at hl 1 rfl) ?_
                            have hPc := hP.sub (ws' := [(h0, .inr (5, [.ref h1, .ref h2, .ref h3, .int 0, .int 0, .int (-1), .int 0, .int (-1)]))]) [4] rfl
                            have hDc := hD.sub (ws' := [(h0, .inr (5, [.ref h1, .ref h2, .ref h3, .int 0, .int 0, .int (-1), .int 0, .int (-1)]))]) [4] (by decide) rfl
                            refine lz_qv (wr := [(h2, .inr (2, [.ref h5, .int 0, .int 0])), (h3, .inl (cI, 12, .inl (fun _ => 0))), (h4, .inl (cI, 120, .inl (fun _ => 0))), (h5, .inl (cI, 12, .inl (fun _ => 0))), (h1, .inr (8, [.ref h4, .int 0]))]) (w1 := [(h0, .inr (5, [.ref h1, .ref h2, .ref h3, .int 0, .int 0, .int (-1), .int 0, .int 0]))]) (As := []) (rest := []) ⟨hx, hb, hml, hown, hts⟩ (c_X5_readItem_0 l D cI cS H.size h0 h1 h2 h3) hKK hP hD hS hA [4] [0, 1, 2, 3, 5] (by decide) rfl rfl (by decide) (by decide) hPc hDc (ci := 5) rfl rfl (cwV 0 hts gX5_readAll_X5_readItem rfl rfl rfl (by decide +kernel) ⟨Nat.le_of_ble_eq_true rfl, Nat.le_of_ble_eq_true rfl⟩) rfl hl.1 rfl (Nat.le_of_ble_eq_true rfl) dX5_readAll_36 ⟨Nat.le_of_ble_eq_true rfl, Nat.le_of_ble_eq_true rfl⟩ (fun H locs hP hD hS => ?_)
                            have hP : va_P D cls [(h2, .inr (2, [.ref h5, .int 0, .int 0])), (h3, .inl (cI, 12, .inl (fun _ => 0))), (h4, .inl (cI, 120, .inl (fun _ => 0))), (h5, .inl (cI, 12, .inl (fun _ => 0))), (h1, .inr (8, [.ref h4, .int 0])), (h0, .inr (5, [.ref h1, .ref h2, .ref h3, .int 0, .int 0, .int (-1), .int 0, .int 0]))] H := hP
                            have hD : va_D A [(h2, .inr (2, [.ref h5, .int 0, .int 0])), (h3, .inl (cI, 12, .inl (fun _ => 0))), (h4, .inl (cI, 120, .inl (fun _ => 0))), (h5, .inl (cI, 12, .inl (fun _ => 0))), (h1, .inr (8, [.ref h4, .int 0])), (h0, .inr (5, [.ref h1, .ref h2, .ref h3, .int 0, .int 0, .int (-1), .int 0, .int 0]))] := hD
                            refine lv_iconst (v := 0) hx hb dX5_readAll_39 (by decide) ?_
                            refine lv_istore_n (lv' := [(1, .int 0), (0, .ref h0)]) hx hb dX5_readAll_40 rfl hl (by decide) rfl (fun ls hl => ?_)
                            refine lv_iload_n hx hb dX5_readAll_41 rfl (lv_at hl 0 rfl) ?_
                            refine lv_bipush (v := 120) hx hb dX5_readAll_42 (by decide) ?_
                            refine lv_icmp_ge (tgt := 77) hx hb dX5_readAll_44 (by decide) (fun c1846 => ?_) (fun c1846 => ?_)
                            · exact absurd c1846 (by decide)
                            · refine lv_aload_n hx hb dX5_readAll_47 rfl (lv_at hl 1 rfl) ?_
                              refine va_get (D := D) (ci := 5) (v := .int 0) (C := RX5) (T := TX5) (N := 8) hx hb hts hin5 hown hK hP 5 rfl rfl 7 (by decide) (hts (.fieldLink RX5 27 "MissedPoints$Reader" "fault" "I") (by decide +kernel)) (fun _ h9 => h9) rfl dX5_readAll_48 ?_
                              refine lv_if_ge (tgt := 77) hx hb dX5_readAll_51 (by decide) (fun c1847 => ?_) (fun c1847 => ?_)
                              · refine lv_aload_n hx hb dX5_readAll_77 rfl (lv_at hl 1 rfl) ?_
                                refine va_get (D := D) (ci := 5) (v := .int (-1)) (C := RX5) (T := TX5) (N := 8) hx hb hts hin5 hown hK hP 5 rfl rfl 5 (by decide) (hts (.fieldLink RX5 36 "MissedPoints$Reader" "token" "I") (by decide +kernel)) (fun _ h9 => h9) rfl dX5_readAll_78 ?_
                                refine lv_iconst (v := (-1)) hx hb dX5_readAll_81 (by decide) ?_
                                refine lv_icmp_eq (tgt := 89) hx hb dX5_readAll_82 (by decide) (fun c1848 => ?_) (fun c1848 => ?_)
                                · refine lv_aload_n hx hb dX5_readAll_89 rfl (lv_at hl 1 rfl) ?_
                                  refine va_get (D := D) (ci := 5) (v := .int 0) (C := RX5) (T := TX5) (N := 8) hx hb hts hin5 hown hK hP 5 rfl rfl 7 (by decide) (hts (.fieldLink RX5 27 "MissedPoints$Reader" "fault" "I") (by decide +kernel)) (fun _ h9 => h9) rfl dX5_readAll_90 ?_
                                  have hP9 := hP.sub (ws' := [(h3, .inl (cI, 12, .inl (fun _ => 0))), (h1, .inr (8, [.ref h4, .int 0])), (h0, .inr (5, [.ref h1, .ref h2, .ref h3, .int 0, .int 0, .int (-1), .int 0, .int 0]))]) [1, 4, 5] rfl
                                  have hD9 := hD.sub (ws' := [(h3, .inl (cI, 12, .inl (fun _ => 0))), (h1, .inr (8, [.ref h4, .int 0])), (h0, .inr (5, [.ref h1, .ref h2, .ref h3, .int 0, .int 0, .int (-1), .int 0, .int 0]))]) [1, 4, 5] (by decide) rfl
                                  subst hAe
                                  exact W.iret (v := 0) hx hb hr (fun t ht hW => ⟨⟨_, (), rfl, rfl, by rw [ht]; exact hP9, hD9⟩, hS.F ht⟩) hS.2.2 dX5_readAll_93
                                · exact absurd c1848 (by decide)
                              · exact absurd c1847 (by decide)
                          · exact absurd c1828 (by decide)
