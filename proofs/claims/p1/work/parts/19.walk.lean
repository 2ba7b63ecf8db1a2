set_option maxRecDepth 20000 in
theorem ggX11_paint_X11_isSheet : GoodIn wsX11_paint wsX11_isSheet := goodIn_r _ [7] (by decide +kernel) (by decide +kernel)
set_option maxRecDepth 20000 in
theorem gX11_paint_X11_isSheet : GoodIn wsX11_paint (va_wsS RX11 248 yX11_isSheet wsX11_isSheet) := goodIn_app (goodIn_of _ (by decide +kernel)) ggX11_paint_X11_isSheet
set_option maxRecDepth 20000 in
theorem ggX11_paint_X11_isSort : GoodIn wsX11_paint wsX11_isSort := goodIn_r _ [10] (by decide +kernel) (by decide +kernel)
set_option maxRecDepth 20000 in
theorem gX11_paint_X11_isSort : GoodIn wsX11_paint (va_wsS RX11 259 yX11_isSort wsX11_isSort) := goodIn_app (goodIn_of _ (by decide +kernel)) ggX11_paint_X11_isSort
set_option maxRecDepth 20000 in
theorem ggX11_paint_X9_becomeFirst : GoodIn wsX11_paint wsX9_becomeFirst := goodIn_r _ [15, 16, 17, 18, 19, 20, 21, 22, 23, 24, 25, 26, 27, 28, 29, 30, 31, 32, 33, 34, 35, 36, 37, 38, 39, 40, 41, 42, 43, 44, 45, 46, 47, 48, 49, 50, 51, 52, 53, 54, 55, 56, 57, 58, 59, 60, 61, 62, 63, 64, 65, 66, 67, 68, 69, 70, 71, 72, 73, 74, 75, 76, 77, 78, 79, 80, 81, 82, 83, 84, 132, 133, 134, 135, 136, 137, 138, 139, 140, 141, 129, 130, 131, 142, 143] (by decide +kernel) (by decide +kernel)
set_option maxRecDepth 20000 in
theorem gX11_paint_X9_becomeFirst : GoodIn wsX11_paint (wsV RX11 147 RX9 yX9_becomeFirst wsX9_becomeFirst) := goodIn_app (goodIn_of _ (by decide +kernel)) ggX11_paint_X9_becomeFirst
set_option maxRecDepth 20000 in
theorem ggX11_paint_X9_writeTo : GoodIn wsX11_paint wsX9_writeTo := goodIn_r _ [88, 89, 17, 90, 91, 92, 93, 94, 95, 96, 97, 98, 99, 100, 101, 102, 103, 104, 105, 106, 107, 108, 109, 110, 111, 112, 132, 133, 134, 135, 136, 137, 129, 130, 131, 144, 145, 146] (by decide +kernel) (by decide +kernel)
set_option maxRecDepth 20000 in
theorem gX11_paint_X9_writeTo : GoodIn wsX11_paint (wsV RX11 243 RX9 yX9_writeTo wsX9_writeTo) := goodIn_app (goodIn_of _ (by decide +kernel)) ggX11_paint_X9_writeTo
theorem dX11_paint_0 : decode cX11_paint 0 = .ok (.iload_n 1, 1) := by decide +kernel
theorem dX11_paint_1 : decode cX11_paint 1 = .ok (.invokestatic 248, 3) := by decide +kernel
theorem dX11_paint_11 : decode cX11_paint 11 = .ok (.ifCond .ne 6, 3) := by decide +kernel
theorem dX11_paint_14 : decode cX11_paint 14 = .ok (.bipush (-2), 2) := by decide +kernel
theorem dX11_paint_16 : decode cX11_paint 16 = .ok (.ireturn, 1) := by decide +kernel
theorem dX11_paint_17 : decode cX11_paint 17 = .ok (.aload_n 0, 1) := by decide +kernel
theorem dX11_paint_18 : decode cX11_paint 18 = .ok (.getfield 82, 3) := by decide +kernel
theorem dX11_paint_21 : decode cX11_paint 21 = .ok (.invokevirtual 147, 3) := by decide +kernel
theorem dX11_paint_24 : decode cX11_paint 24 = .ok (.aload_n 0, 1) := by decide +kernel
theorem dX11_paint_25 : decode cX11_paint 25 = .ok (.getfield 82, 3) := by decide +kernel
theorem dX11_paint_28 : decode cX11_paint 28 = .ok (.aload_n 0, 1) := by decide +kernel
theorem dX11_paint_29 : decode cX11_paint 29 = .ok (.getfield 75, 3) := by decide +kernel
theorem dX11_paint_32 : decode cX11_paint 32 = .ok (.iload_n 1, 1) := by decide +kernel
theorem dX11_paint_33 : decode cX11_paint 33 = .ok (.aaload, 1) := by decide +kernel
theorem dX11_paint_34 : decode cX11_paint 34 = .ok (.iload_n 2, 1) := by decide +kernel
theorem dX11_paint_35 : decode cX11_paint 35 = .ok (.invokevirtual 243, 3) := by decide +kernel
theorem dX11_paint_38 : decode cX11_paint 38 = .ok (.aload_n 0, 1) := by decide +kernel
theorem dX11_paint_39 : decode cX11_paint 39 = .ok (.getfield 12, 3) := by decide +kernel
theorem dX11_paint_4 : decode cX11_paint 4 = .ok (.ifCond .eq 10, 3) := by decide +kernel
theorem dX11_paint_42 : decode cX11_paint 42 = .ok (.getfield 97, 3) := by decide +kernel
theorem dX11_paint_45 : decode cX11_paint 45 = .ok (.ireturn, 1) := by decide +kernel
theorem dX11_paint_7 : decode cX11_paint 7 = .ok (.iload_n 2, 1) := by decide +kernel
theorem dX11_paint_8 : decode cX11_paint 8 = .ok (.invokestatic 259, 3) := by decide +kernel
theorem dX8_append_0 : decode cX8_append 0 = .ok (.aload_n 0, 1) := by decide +kernel
theorem dX8_append_1 : decode cX8_append 1 = .ok (.getfield 15, 3) := by decide +kernel
theorem dX8_append_10 : decode cX8_append 10 = .ok (.getfield 9, 3) := by decide +kernel
theorem dX8_append_13 : decode cX8_append 13 = .ok (.aload_n 0, 1) := by decide +kernel
theorem dX8_append_14 : decode cX8_append 14 = .ok (.getfield 15, 3) := by decide +kernel
theorem dX8_append_17 : decode cX8_append 17 = .ok (.iload_n 1, 1) := by decide +kernel
theorem dX8_append_18 : decode cX8_append 18 = .ok (.iastore, 1) := by decide +kernel
theorem dX8_append_19 : decode cX8_append 19 = .ok (.aload_n 0, 1) := by decide +kernel
theorem dX8_append_20 : decode cX8_append 20 = .ok (.dup, 1) := by decide +kernel
theorem dX8_append_21 : decode cX8_append 21 = .ok (.getfield 15, 3) := by decide +kernel
theorem dX8_append_24 : decode cX8_append 24 = .ok (.iconst 1, 1) := by decide +kernel
theorem dX8_append_25 : decode cX8_append 25 = .ok (.iadd, 1) := by decide +kernel
theorem dX8_append_26 : decode cX8_append 26 = .ok (.putfield 15, 3) := by decide +kernel
theorem dX8_append_29 : decode cX8_append 29 = .ok (.return_, 1) := by decide +kernel
theorem dX8_append_4 : decode cX8_append 4 = .ok (.bipush 120, 2) := by decide +kernel
theorem dX8_append_6 : decode cX8_append 6 = .ok (.if_icmp .ge 23, 3) := by decide +kernel
theorem dX8_append_9 : decode cX8_append 9 = .ok (.aload_n 0, 1) := by decide +kernel
set_option maxRecDepth 20000 in
theorem ggX11_feed_X8_append : GoodIn wsX11_feed wsX8_append := goodIn_r _ [6, 7, 8, 25, 26] (by decide +kernel) (by decide +kernel)
set_option maxRecDepth 20000 in
theorem gX11_feed_X8_append : GoodIn wsX11_feed (wsV RX11 262 RX8 yX8_append wsX8_append) := goodIn_app (goodIn_of _ (by decide +kernel)) ggX11_feed_X8_append
theorem dX11_feed_0 : decode cX11_feed 0 = .ok (.iload_n 2, 1) := by decide +kernel
theorem dX11_feed_1 : decode cX11_feed 1 = .ok (.iconst 1, 1) := by decide +kernel
theorem dX11_feed_10 : decode cX11_feed 10 = .ok (.bipush (-2), 2) := by decide +kernel
theorem dX11_feed_12 : decode cX11_feed 12 = .ok (.ireturn, 1) := by decide +kernel
theorem dX11_feed_13 : decode cX11_feed 13 = .ok (.iload_n 2, 1) := by decide +kernel
theorem dX11_feed_14 : decode cX11_feed 14 = .ok (.bipush 120, 2) := by decide +kernel
theorem dX11_feed_16 : decode cX11_feed 16 = .ok (.aload_n 0, 1) := by decide +kernel
theorem dX11_feed_17 : decode cX11_feed 17 = .ok (.getfield 60, 3) := by decide +kernel
theorem dX11_feed_2 : decode cX11_feed 2 = .ok (.if_icmp .lt 8, 3) := by decide +kernel
theorem dX11_feed_20 : decode cX11_feed 20 = .ok (.getfield 140, 3) := by decide +kernel
theorem dX11_feed_23 : decode cX11_feed 23 = .ok (.isub, 1) := by decide +kernel
theorem dX11_feed_24 : decode cX11_feed 24 = .ok (.if_icmp .le 6, 3) := by decide +kernel
theorem dX11_feed_30 : decode cX11_feed 30 = .ok (.iload_n 2, 1) := by decide +kernel
theorem dX11_feed_31 : decode cX11_feed 31 = .ok (.iconst 1, 1) := by decide +kernel
theorem dX11_feed_32 : decode cX11_feed 32 = .ok (.isub, 1) := by decide +kernel
theorem dX11_feed_33 : decode cX11_feed 33 = .ok (.istore_n 3, 1) := by decide +kernel
theorem dX11_feed_34 : decode cX11_feed 34 = .ok (.iload_n 3, 1) := by decide +kernel
theorem dX11_feed_35 : decode cX11_feed 35 = .ok (.ifCond .lt 26, 3) := by decide +kernel
theorem dX11_feed_38 : decode cX11_feed 38 = .ok (.aload_n 0, 1) := by decide +kernel
theorem dX11_feed_39 : decode cX11_feed 39 = .ok (.getfield 60, 3) := by decide +kernel
theorem dX11_feed_42 : decode cX11_feed 42 = .ok (.iload_n 1, 1) := by decide +kernel
theorem dX11_feed_43 : decode cX11_feed 43 = .ok (.bipush 8, 2) := by decide +kernel
theorem dX11_feed_45 : decode cX11_feed 45 = .ok (.iload_n 3, 1) := by decide +kernel
theorem dX11_feed_46 : decode cX11_feed 46 = .ok (.imul, 1) := by decide +kernel
theorem dX11_feed_47 : decode cX11_feed 47 = .ok (.iushr, 1) := by decide +kernel
theorem dX11_feed_48 : decode cX11_feed 48 = .ok (.sipush 255, 3) := by decide +kernel
theorem dX11_feed_5 : decode cX11_feed 5 = .ok (.iload_n 2, 1) := by decide +kernel
theorem dX11_feed_51 : decode cX11_feed 51 = .ok (.iand, 1) := by decide +kernel
theorem dX11_feed_52 : decode cX11_feed 52 = .ok (.invokevirtual 262, 3) := by decide +kernel
theorem dX11_feed_55 : decode cX11_feed 55 = .ok (.iinc 3 (-1), 3) := by decide +kernel
theorem dX11_feed_58 : decode cX11_feed 58 = .ok (.goto (-24), 3) := by decide +kernel
theorem dX11_feed_6 : decode cX11_feed 6 = .ok (.iconst 4, 1) := by decide +kernel
theorem dX11_feed_61 : decode cX11_feed 61 = .ok (.aload_n 0, 1) := by decide +kernel
theorem dX11_feed_62 : decode cX11_feed 62 = .ok (.getfield 60, 3) := by decide +kernel
theorem dX11_feed_65 : decode cX11_feed 65 = .ok (.getfield 140, 3) := by decide +kernel
theorem dX11_feed_68 : decode cX11_feed 68 = .ok (.ireturn, 1) := by decide +kernel
theorem dX11_feed_7 : decode cX11_feed 7 = .ok (.if_icmp .le 6, 3) := by decide +kernel
theorem dX8_clear_0 : decode cX8_clear 0 = .ok (.aload_n 0, 1) := by decide +kernel
theorem dX8_clear_1 : decode cX8_clear 1 = .ok (.getfield 15, 3) := by decide +kernel
theorem dX8_clear_10 : decode cX8_clear 10 = .ok (.iload_n 1, 1) := by decide +kernel
theorem dX8_clear_11 : decode cX8_clear 11 = .ok (.ireturn, 1) := by decide +kernel
theorem dX8_clear_4 : decode cX8_clear 4 = .ok (.istore_n 1, 1) := by decide +kernel
theorem dX8_clear_5 : decode cX8_clear 5 = .ok (.aload_n 0, 1) := by decide +kernel
theorem dX8_clear_6 : decode cX8_clear 6 = .ok (.iconst 0, 1) := by decide +kernel
theorem dX8_clear_7 : decode cX8_clear 7 = .ok (.putfield 15, 3) := by decide +kernel
set_option maxRecDepth 20000 in
theorem ggX11_wipe_X8_clear : GoodIn wsX11_wipe wsX8_clear := goodIn_r _ [6, 7, 24, 25] (by decide +kernel) (by decide +kernel)
set_option maxRecDepth 20000 in
theorem gX11_wipe_X8_clear : GoodIn wsX11_wipe (wsV RX11 265 RX8 yX8_clear wsX8_clear) := goodIn_app (goodIn_of _ (by decide +kernel)) ggX11_wipe_X8_clear
theorem dX11_wipe_0 : decode cX11_wipe 0 = .ok (.aload_n 0, 1) := by decide +kernel
theorem dX11_wipe_1 : decode cX11_wipe 1 = .ok (.getfield 60, 3) := by decide +kernel
theorem dX11_wipe_4 : decode cX11_wipe 4 = .ok (.invokevirtual 265, 3) := by decide +kernel
theorem dX11_wipe_7 : decode cX11_wipe 7 = .ok (.ireturn, 1) := by decide +kernel
theorem dX8_byteAt_0 : decode cX8_byteAt 0 = .ok (.iload_n 1, 1) := by decide +kernel
theorem dX8_byteAt_1 : decode cX8_byteAt 1 = .ok (.ifCond .lt 26, 3) := by decide +kernel
theorem dX8_byteAt_27 : decode cX8_byteAt 27 = .ok (.iconst (-1), 1) := by decide +kernel
theorem dX8_byteAt_28 : decode cX8_byteAt 28 = .ok (.ireturn, 1) := by decide +kernel
theorem dX8_byteAt_4 : decode cX8_byteAt 4 = .ok (.iload_n 1, 1) := by decide +kernel
theorem dX8_byteAt_5 : decode cX8_byteAt 5 = .ok (.aload_n 0, 1) := by decide +kernel
theorem dX8_byteAt_6 : decode cX8_byteAt 6 = .ok (.getfield 15, 3) := by decide +kernel
theorem dX8_byteAt_9 : decode cX8_byteAt 9 = .ok (.if_icmp .ge 18, 3) := by decide +kernel
theorem dX5_tokenOf_0 : decode cX5_tokenOf 0 = .ok (.iload_n 0, 1) := by decide +kernel
theorem dX5_tokenOf_1 : decode cX5_tokenOf 1 = .ok (.ifCond .ge 5, 3) := by decide +kernel
theorem dX5_tokenOf_4 : decode cX5_tokenOf 4 = .ok (.iconst (-1), 1) := by decide +kernel
theorem dX5_tokenOf_5 : decode cX5_tokenOf 5 = .ok (.ireturn, 1) := by decide +kernel
set_option maxRecDepth 20000 in
theorem ggX5_step_X5_tokenOf : GoodIn wsX5_step wsX5_tokenOf := goodIn_r _ [16] (by decide +kernel) (by decide +kernel)
set_option maxRecDepth 20000 in
theorem gX5_step_X5_tokenOf : GoodIn wsX5_step (va_wsS RX5 54 yX5_tokenOf wsX5_tokenOf) := goodIn_app (goodIn_of _ (by decide +kernel)) ggX5_step_X5_tokenOf
set_option maxRecDepth 20000 in
theorem ggX5_step_X8_byteAt : GoodIn wsX5_step wsX8_byteAt := goodIn_r _ [10, 11, 12, 25, 26] (by decide +kernel) (by decide +kernel)
set_option maxRecDepth 20000 in
theorem gX5_step_X8_byteAt : GoodIn wsX5_step (wsV RX5 45 RX8 yX8_byteAt wsX8_byteAt) := goodIn_app (goodIn_of _ (by decide +kernel)) ggX5_step_X8_byteAt
theorem dX5_step_0 : decode cX5_step 0 = .ok (.iconst 0, 1) := by decide +kernel
theorem dX5_step_1 : decode cX5_step 1 = .ok (.istore_n 1, 1) := by decide +kernel
theorem dX5_step_102 : decode cX5_step 102 = .ok (.return_, 1) := by decide +kernel
theorem dX5_step_12 : decode cX5_step 12 = .ok (.aload_n 0, 1) := by decide +kernel
theorem dX5_step_13 : decode cX5_step 13 = .ok (.getfield 23, 3) := by decide +kernel
theorem dX5_step_16 : decode cX5_step 16 = .ok (.invokevirtual 45, 3) := by decide +kernel
theorem dX5_step_19 : decode cX5_step 19 = .ok (.bipush 32, 2) := by decide +kernel
theorem dX5_step_2 : decode cX5_step 2 = .ok (.iload_n 1, 1) := by decide +kernel
theorem dX5_step_21 : decode cX5_step 21 = .ok (.if_icmp .ne 19, 3) := by decide +kernel
theorem dX5_step_3 : decode cX5_step 3 = .ok (.bipush 120, 2) := by decide +kernel
theorem dX5_step_40 : decode cX5_step 40 = .ok (.aload_n 0, 1) := by decide +kernel
theorem dX5_step_41 : decode cX5_step 41 = .ok (.aload_n 0, 1) := by decide +kernel
theorem dX5_step_42 : decode cX5_step 42 = .ok (.getfield 23, 3) := by decide +kernel
theorem dX5_step_45 : decode cX5_step 45 = .ok (.putfield 42, 3) := by decide +kernel
theorem dX5_step_48 : decode cX5_step 48 = .ok (.aload_n 0, 1) := by decide +kernel
theorem dX5_step_49 : decode cX5_step 49 = .ok (.iconst 0, 1) := by decide +kernel
theorem dX5_step_5 : decode cX5_step 5 = .ok (.if_icmp .ge 35, 3) := by decide +kernel
theorem dX5_step_50 : decode cX5_step 50 = .ok (.putfield 51, 3) := by decide +kernel
theorem dX5_step_53 : decode cX5_step 53 = .ok (.aload_n 0, 1) := by decide +kernel
theorem dX5_step_54 : decode cX5_step 54 = .ok (.aload_n 0, 1) := by decide +kernel
theorem dX5_step_55 : decode cX5_step 55 = .ok (.getfield 15, 3) := by decide +kernel
theorem dX5_step_58 : decode cX5_step 58 = .ok (.aload_n 0, 1) := by decide +kernel
theorem dX5_step_59 : decode cX5_step 59 = .ok (.getfield 23, 3) := by decide +kernel
theorem dX5_step_62 : decode cX5_step 62 = .ok (.invokevirtual 45, 3) := by decide +kernel
theorem dX5_step_65 : decode cX5_step 65 = .ok (.invokestatic 54, 3) := by decide +kernel
theorem dX5_step_68 : decode cX5_step 68 = .ok (.putfield 36, 3) := by decide +kernel
theorem dX5_step_71 : decode cX5_step 71 = .ok (.aload_n 0, 1) := by decide +kernel
theorem dX5_step_72 : decode cX5_step 72 = .ok (.getfield 36, 3) := by decide +kernel
theorem dX5_step_75 : decode cX5_step 75 = .ok (.bipush (-2), 2) := by decide +kernel
theorem dX5_step_77 : decode cX5_step 77 = .ok (.if_icmp .eq 26, 3) := by decide +kernel
theorem dX5_step_8 : decode cX5_step 8 = .ok (.aload_n 0, 1) := by decide +kernel
theorem dX5_step_80 : decode cX5_step 80 = .ok (.aload_n 0, 1) := by decide +kernel
theorem dX5_step_81 : decode cX5_step 81 = .ok (.dup, 1) := by decide +kernel
theorem dX5_step_82 : decode cX5_step 82 = .ok (.getfield 23, 3) := by decide +kernel
theorem dX5_step_85 : decode cX5_step 85 = .ok (.aload_n 0, 1) := by decide +kernel
theorem dX5_step_86 : decode cX5_step 86 = .ok (.getfield 36, 3) := by decide +kernel
theorem dX5_step_89 : decode cX5_step 89 = .ok (.iconst (-1), 1) := by decide +kernel
theorem dX5_step_9 : decode cX5_step 9 = .ok (.getfield 15, 3) := by decide +kernel
theorem dX5_step_90 : decode cX5_step 90 = .ok (.if_icmp .ne 7, 3) := by decide +kernel
theorem dX5_step_93 : decode cX5_step 93 = .ok (.iconst 0, 1) := by decide +kernel
theorem dX5_step_94 : decode cX5_step 94 = .ok (.goto 4, 3) := by decide +kernel
theorem dX5_step_98 : decode cX5_step 98 = .ok (.iadd, 1) := by decide +kernel
theorem dX5_step_99 : decode cX5_step 99 = .ok (.putfield 23, 3) := by decide +kernel
theorem dX5_fail_0 : decode cX5_fail 0 = .ok (.aload_n 0, 1) := by decide +kernel
theorem dX5_fail_1 : decode cX5_fail 1 = .ok (.getfield 27, 3) := by decide +kernel
theorem dX5_fail_12 : decode cX5_fail 12 = .ok (.putfield 27, 3) := by decide +kernel
theorem dX5_fail_15 : decode cX5_fail 15 = .ok (.return_, 1) := by decide +kernel
theorem dX5_fail_4 : decode cX5_fail 4 = .ok (.ifCond .ge 11, 3) := by decide +kernel
theorem dX5_fail_7 : decode cX5_fail 7 = .ok (.aload_n 0, 1) := by decide +kernel
theorem dX5_fail_8 : decode cX5_fail 8 = .ok (.aload_n 0, 1) := by decide +kernel
theorem dX5_fail_9 : decode cX5_fail 9 = .ok (.getfield 42, 3) := by decide +kernel
set_option maxRecDepth 20000 in
theorem ggX5_readItem_X5_fail : GoodIn wsX5_readItem wsX5_fail := goodIn_r _ [22, 23, 24, 57, 58, 59, 60, 61, 62, 63, 64] (by decide +kernel) (by decide +kernel)
set_option maxRecDepth 20000 in
theorem gX5_readItem_X5_fail : GoodIn wsX5_readItem (wsV RX5 39 RX5 yX5_fail wsX5_fail) := goodIn_app (goodIn_of _ (by decide +kernel)) ggX5_readItem_X5_fail
theorem dX5_readItem_0 : decode cX5_readItem 0 = .ok (.aload_n 0, 1) := by decide +kernel
theorem dX5_readItem_1 : decode cX5_readItem 1 = .ok (.getfield 36, 3) := by decide +kernel
theorem dX5_readItem_16 : decode cX5_readItem 16 = .ok (.aload_n 0, 1) := by decide +kernel
theorem dX5_readItem_17 : decode cX5_readItem 17 = .ok (.getfield 36, 3) := by decide +kernel
theorem dX5_readItem_20 : decode cX5_readItem 20 = .ok (.bipush 40, 2) := by decide +kernel
theorem dX5_readItem_22 : decode cX5_readItem 22 = .ok (.if_icmp .ne 13, 3) := by decide +kernel
theorem dX5_readItem_35 : decode cX5_readItem 35 = .ok (.aload_n 0, 1) := by decide +kernel
theorem dX5_readItem_36 : decode cX5_readItem 36 = .ok (.getfield 36, 3) := by decide +kernel
theorem dX5_readItem_39 : decode cX5_readItem 39 = .ok (.bipush 91, 2) := by decide +kernel
theorem dX5_readItem_4 : decode cX5_readItem 4 = .ok (.bipush (-2), 2) := by decide +kernel
theorem dX5_readItem_41 : decode cX5_readItem 41 = .ok (.if_icmp .ne 13, 3) := by decide +kernel
theorem dX5_readItem_54 : decode cX5_readItem 54 = .ok (.aload_n 0, 1) := by decide +kernel
theorem dX5_readItem_55 : decode cX5_readItem 55 = .ok (.invokevirtual 39, 3) := by decide +kernel
theorem dX5_readItem_58 : decode cX5_readItem 58 = .ok (.return_, 1) := by decide +kernel
theorem dX5_readItem_6 : decode cX5_readItem 6 = .ok (.if_icmp .ne 10, 3) := by decide +kernel
set_option maxRecDepth 20000 in
theorem ggX5_readAll_X5_readItem : GoodIn wsX5_readAll wsX5_readItem := goodIn_r _ [26, 4, 27, 28, 29, 8, 30, 31, 32, 33, 34, 35, 12, 36, 37, 38, 39, 40, 41, 42, 43, 44, 45, 3, 11, 5, 6, 7, 9, 10, 2, 13, 14, 15, 16, 17, 18, 19, 20, 21, 22, 46, 47, 48, 49, 1, 50, 51, 52, 53, 54, 55, 56, 57, 58, 59, 60, 61, 62, 63, 64, 65, 66, 67, 68, 71, 72, 73, 69, 70] (by decide +kernel) (by decide +kernel)
set_option maxRecDepth 20000 in
theorem gX5_readAll_X5_readItem : GoodIn wsX5_readAll (wsV RX5 33 RX5 yX5_readItem wsX5_readItem) := goodIn_app (goodIn_of _ (by decide +kernel)) ggX5_readAll_X5_readItem
set_option maxRecDepth 20000 in
theorem ggX5_readAll_X5_step : GoodIn wsX5_readAll wsX5_step := goodIn_r _ [9, 10, 2, 11, 12, 4, 13, 14, 15, 16, 17, 18, 19, 20, 21, 8, 22, 61, 62, 63, 64, 65, 66, 67, 68, 69, 70] (by decide +kernel) (by decide +kernel)
set_option maxRecDepth 20000 in
theorem gX5_readAll_X5_step : GoodIn wsX5_readAll (wsV RX5 30 RX5 yX5_step wsX5_step) := goodIn_app (goodIn_of _ (by decide +kernel)) ggX5_readAll_X5_step
theorem dX5_readAll_0 : decode cX5_readAll 0 = .ok (.iconst 0, 1) := by decide +kernel
theorem dX5_readAll_1 : decode cX5_readAll 1 = .ok (.istore_n 1, 1) := by decide +kernel
theorem dX5_readAll_12 : decode cX5_readAll 12 = .ok (.iload_n 1, 1) := by decide +kernel
theorem dX5_readAll_13 : decode cX5_readAll 13 = .ok (.iconst 0, 1) := by decide +kernel
theorem dX5_readAll_14 : decode cX5_readAll 14 = .ok (.iastore, 1) := by decide +kernel
theorem dX5_readAll_15 : decode cX5_readAll 15 = .ok (.iinc 1 1, 3) := by decide +kernel
theorem dX5_readAll_18 : decode cX5_readAll 18 = .ok (.goto (-16), 3) := by decide +kernel
theorem dX5_readAll_2 : decode cX5_readAll 2 = .ok (.iload_n 1, 1) := by decide +kernel
theorem dX5_readAll_21 : decode cX5_readAll 21 = .ok (.aload_n 0, 1) := by decide +kernel
theorem dX5_readAll_22 : decode cX5_readAll 22 = .ok (.iconst 0, 1) := by decide +kernel
theorem dX5_readAll_23 : decode cX5_readAll 23 = .ok (.putfield 23, 3) := by decide +kernel
theorem dX5_readAll_26 : decode cX5_readAll 26 = .ok (.aload_n 0, 1) := by decide +kernel
theorem dX5_readAll_27 : decode cX5_readAll 27 = .ok (.iconst (-1), 1) := by decide +kernel
theorem dX5_readAll_28 : decode cX5_readAll 28 = .ok (.putfield 27, 3) := by decide +kernel
theorem dX5_readAll_3 : decode cX5_readAll 3 = .ok (.bipush 12, 2) := by decide +kernel
theorem dX5_readAll_31 : decode cX5_readAll 31 = .ok (.aload_n 0, 1) := by decide +kernel
theorem dX5_readAll_32 : decode cX5_readAll 32 = .ok (.invokevirtual 30, 3) := by decide +kernel
theorem dX5_readAll_35 : decode cX5_readAll 35 = .ok (.aload_n 0, 1) := by decide +kernel
theorem dX5_readAll_36 : decode cX5_readAll 36 = .ok (.invokevirtual 33, 3) := by decide +kernel
theorem dX5_readAll_39 : decode cX5_readAll 39 = .ok (.iconst 0, 1) := by decide +kernel
theorem dX5_readAll_40 : decode cX5_readAll 40 = .ok (.istore_n 1, 1) := by decide +kernel
theorem dX5_readAll_41 : decode cX5_readAll 41 = .ok (.iload_n 1, 1) := by decide +kernel
theorem dX5_readAll_42 : decode cX5_readAll 42 = .ok (.bipush 120, 2) := by decide +kernel
theorem dX5_readAll_44 : decode cX5_readAll 44 = .ok (.if_icmp .ge 33, 3) := by decide +kernel
theorem dX5_readAll_47 : decode cX5_readAll 47 = .ok (.aload_n 0, 1) := by decide +kernel
theorem dX5_readAll_48 : decode cX5_readAll 48 = .ok (.getfield 27, 3) := by decide +kernel
theorem dX5_readAll_5 : decode cX5_readAll 5 = .ok (.if_icmp .ge 16, 3) := by decide +kernel
theorem dX5_readAll_51 : decode cX5_readAll 51 = .ok (.ifCond .ge 26, 3) := by decide +kernel
theorem dX5_readAll_77 : decode cX5_readAll 77 = .ok (.aload_n 0, 1) := by decide +kernel
theorem dX5_readAll_78 : decode cX5_readAll 78 = .ok (.getfield 36, 3) := by decide +kernel
theorem dX5_readAll_8 : decode cX5_readAll 8 = .ok (.aload_n 0, 1) := by decide +kernel
theorem dX5_readAll_81 : decode cX5_readAll 81 = .ok (.iconst (-1), 1) := by decide +kernel
theorem dX5_readAll_82 : decode cX5_readAll 82 = .ok (.if_icmp .eq 7, 3) := by decide +kernel
theorem dX5_readAll_89 : decode cX5_readAll 89 = .ok (.aload_n 0, 1) := by decide +kernel
theorem dX5_readAll_9 : decode cX5_readAll 9 = .ok (.getfield 9, 3) := by decide +kernel
theorem dX5_readAll_90 : decode cX5_readAll 90 = .ok (.getfield 27, 3) := by decide +kernel
theorem dX5_readAll_93 : decode cX5_readAll 93 = .ok (.ireturn, 1) := by decide +kernel
set_option maxHeartbeats 4000000 in
set_option maxRecDepth 100000 in
theorem c_X6_become_1 (l : Launch) (D : va_G) (cI cS : ClassId) (sz : Nat) (h0 h1 : Nat) : Met l yX6_become wsX6_become ({ frames := 1, cells := 0, slots := 0, locals := 40 }) (PQ D cI cS [(h0, .inr (6, [.ref h1, .int (-1), .int 0])), (h1, .inl (cI, 40, .inl (fun _ => 0)))] sz [.ref h0, .int 1, .int 0]) (QV D [(h0, .inr (6, [.ref h1, .int (-1), .int 0])), (h1, .inl (cI, 40, .inl (fun _ => 0)))] [(h0, .inr (6, [.ref h1, .int 1, .int 0])), (h1, .inl (cI, 40, .inl (fun _ => 0)))] sz) 0 0 (va_A [(h0, .inr (6, [.ref h1, .int (-1), .int 0])), (h1, .inl (cI, 40, .inl (fun _ => 0)))] sz) := by
  refine Met.ofW (cc := cX6_become) (maxL := 4) (ret := none) (by decide) rfl ?_
  intro p e s m args below meth c s₁ B hml hv
  obtain ⟨rfl, hsz, hP, hKK, hD0⟩ := hv
  have hx := B.exec
  have hb := B.bytes
  have hr := B.returns
  have hts := atoms_spec (ws := wsX6_become) B.pre
  have hown : s.vm.findClass RX6 = some m.cls := findClass_of_methodNamed B.named
  have hlocks := B.notSynchronized
  have hK := hKK.1
  have hN := hKK.2
  have hin6 : ∀ w ∈ wsX60, w ∈ wsX6_become := by decide +kernel
  subst hsz
  have hD := hD0.self (sz := s.heap.size)
  obtain ⟨A, hAe⟩ : ∃ A, A = va_A [(h0, .inr (6, [.ref h1, .int (-1), .int 0])), (h1, .inl (cI, 40, .inl (fun _ => 0)))] s.heap.size := ⟨_, rfl⟩
  rw [← hAe] at hD
  have hA : ∀ q : Nat, s.heap.size ≤ q → A q := fun q h => by rw [hAe]; exact Or.inr h
  have hS : va_S A s.heap s.heap [] := va_S.rf
  have hl := lv_entry ([.ref h0, .int 1, .int 0]) (n := 4) (Nat.le_of_ble_eq_true rfl)
  rw [lg_entry_eq]
  generalize (lg_sl ([.ref h0, .int 1, .int 0]) ++ List.replicate (4 - (lg_sl ([.ref h0, .int 1, .int 0])).length) Slot.unset).toArray = ls at hl ⊢
  have hl : lv_has ls 4 [(0, .ref h0), (1, .int 1), (2, .int 0)] := hl
  refine lv_aload_n hx hb dX6_become_0 rfl (lv_at hl 0 rfl) ?_
  refine lv_iload_n hx hb dX6_become_1 rfl (lv_at hl 1 rfl) ?_
  refine va_put (D := D) (ci := 6) (v := .int 1) (ty := .int) (C := RX6) (T := TX6) (N := 3) hx hb hts hin6 tyX6 tyX6_ok nmX6 hown hK hP hD hS 0 rfl rfl 1 (by decide) (hts (.fieldLink RX6 15 "MissedPoints$Sheet" "sort" "I") (by decide +kernel)) (fun _ h9 => h9) rfl (by decide +kernel) rfl rfl (Nat.le_of_ble_eq_true rfl) dX6_become_2 (fun H locs hP hD hS => ?_)
  have hP : va_P D cls [(h0, .inr (6, [.ref h1, .int 1, .int 0])), (h1, .inl (cI, 40, .inl (fun _ => 0)))] H := hP
  have hD : va_D A [(h0, .inr (6, [.ref h1, .int 1, .int 0])), (h1, .inl (cI, 40, .inl (fun _ => 0)))] := hD
  refine lv_aload_n hx hb dX6_become_5 rfl (lv_at hl 0 rfl) ?_
  refine lv_iconst (v := 0) hx hb dX6_become_6 (by decide) ?_
  refine lv_iload_n hx hb dX6_become_7 rfl (lv_at hl 2 rfl) ?_
  refine lv_bipush (v := 40) hx hb dX6_become_8 (by decide) ?_
  refine va_mmin hx hb (by rw [hml]; exact hl.1.symm) hown (hts (.methodLink RX6 19 Lib.Math.min.name) (by decide +kernel)) (hts (.static Lib.Math.min.name) (by decide +kernel)) (hts (.initialized "java/lang/Math") (by decide +kernel)) (hts (.code Lib.Math.min.name Lib.Math.min.code 2 (some .int)) (by decide +kernel)) (Nat.le_of_ble_eq_true rfl) (Nat.le_of_ble_eq_true rfl) (Nat.le_of_ble_eq_true rfl) (Nat.le_of_ble_eq_true rfl) dX6_become_10 ?_
  refine lz_top (y := 0) (by decide) ?_
  refine va_mmax hx hb (by rw [hml]; exact hl.1.symm) hown (hts (.methodLink RX6 25 Lib.Math.max.name) (by decide +kernel)) (hts (.static Lib.Math.max.name) (by decide +kernel)) (hts (.initialized "java/lang/Math") (by decide +kernel)) (hts (.code Lib.Math.max.name Lib.Math.max.code 2 (some .int)) (by decide +kernel)) (Nat.le_of_ble_eq_true rfl) (Nat.le_of_ble_eq_true rfl) (Nat.le_of_ble_eq_true rfl) (Nat.le_of_ble_eq_true rfl) dX6_become_13 ?_
  refine lz_top (y := 0) (by decide) ?_
  refine va_put (D := D) (ci := 6) (v := .int 0) (ty := .int) (C := RX6) (T := TX6) (N := 3) hx hb hts hin6 tyX6 tyX6_ok nmX6 hown hK hP hD hS 0 rfl rfl 2 (by decide) (hts (.fieldLink RX6 28 "MissedPoints$Sheet" "size" "I") (by decide +kernel)) (fun _ h9 => h9) rfl (by decide +kernel) rfl rfl (Nat.le_of_ble_eq_true rfl) dX6_become_16 (fun H locs hP hD hS => ?_)
  have hP : va_P D cls [(h0, .inr (6, [.ref h1, .int 1, .int 0])), (h1, .inl (cI, 40, .inl (fun _ => 0)))] H := hP
  have hD : va_D A [(h0, .inr (6, [.ref h1, .int 1, .int 0])), (h1, .inl (cI, 40, .inl (fun _ => 0)))] := hD
  refine lv_iconst (v := 0) hx hb dX6_become_19 (by decide) ?_
  refine lv_istore_n (lv' := [(3, .int 0), (0, .ref h0), (1, .int 1), (2, .int 0)]) hx hb dX6_become_20 rfl hl (by decide) rfl (fun ls hl => ?_)
  refine lv_iload_n hx hb dX6_become_21 rfl (lv_at hl 0 rfl) ?_
  refine lv_bipush (v := 40) hx hb dX6_become_22 (by decide) ?_
  refine lv_icmp_ge (tgt := 40) hx hb dX6_become_24 (by decide) (fun c3481 => ?_) (fun c3481 => ?_)
  · exact absurd c3481 (by decide)
  · refine lv_aload_n hx hb dX6_become_27 rfl (lv_at hl 1 rfl) ?_
    refine va_get (D := D) (ci := 6) (v := .ref h1) (C := RX6) (T := TX6) (N := 3) hx hb hts hin6 hown hK hP 0 rfl rfl 0 (by decide) (hts (.fieldLink RX6 9 "MissedPoints$Sheet" "numbers" "[I") (by decide +kernel)) (fun _ h9 => h9) rfl dX6_become_28 ?_
    refine lv_iload_n hx hb dX6_become_31 rfl (lv_at hl 0 rfl) ?_
    refine lv_iconst (v := 0) hx hb dX6_become_32 (by decide) ?_
    refine lz_astc hx hb hK hP hD hS 1 0 rfl rfl (lz_vp (x := 0) (n := 40) (by decide) (by decide)) dX6_become_33 (fun H locs hP hD hS => ?_)
    refine lv_iinc (v := 1) (lv' := [(3, .int 1), (0, .ref h0), (1, .int 1), (2, .int 0)]) hx hb dX6_become_34 hl (k := 0) rfl (by decide) (by decide) rfl (fun ls hl => ?_)
    refine lv_goto (tgt := 21) hx hb dX6_become_37 (by decide) ?_
    refine lv_iload_n hx hb dX6_become_21 rfl (lv_at hl 0 rfl) ?_
    refine lv_bipush (v := 40) hx hb dX6_become_22 (by decide) ?_
    refine lv_icmp_ge (tgt := 40) hx hb dX6_become_24 (by decide) (fun c3482 => ?_) (fun c3482 => ?_)
    · exact absurd c3482 (by decide)
    · refine lv_aload_n hx hb dX6_become_27 rfl (lv_at hl 1 rfl) ?_
      refine va_get (D := D) (ci := 6) (v := .ref h1) (C := RX6) (T := TX6) (N := 3) hx hb hts hin6 hown hK hP 0 rfl rfl 0 (by decide) (hts (.fieldLink RX6 9 "MissedPoints$Sheet" "numbers" "[I") (by decide +kernel)) (fun _ h9 => h9) rfl dX6_become_28 ?_
      refine lv_iload_n hx hb dX6_become_31 rfl (lv_at hl 0 rfl) ?_
      refine lv_iconst (v := 0) hx hb dX6_become_32 (by decide) ?_
      refine lz_astc hx hb hK hP hD hS 1 0 rfl rfl (lz_vp (x := 1) (n := 40) (by decide) (by decide)) dX6_become_33 (fun H locs hP hD hS => ?_)
      refine lv_iinc (v := 2) (lv' := [(3, .int 2), (0, .ref h0), (1, .int 1), (2, .int 0)]) hx hb dX6_become_34 hl (k := 0) rfl (by decide) (by decide) rfl (fun ls hl => ?_)
      refine lv_goto (tgt := 21) hx hb dX6_become_37 (by decide) ?_
      refine lv_iload_n hx hb dX6_become_21 rfl (lv_at hl 0 rfl) ?_
      refine lv_bipush (v := 40) hx hb dX6_become_22 (by decide) ?_
      refine lv_icmp_ge (tgt := 40) hx hb dX6_become_24 (by decide) (fun c3483 => ?_) (fun c3483 => ?_)
      · exact absurd c3483 (by decide)
      · refine lv_aload_n hx hb dX6_become_27 rfl (lv_at hl 1 rfl) ?_
        refine va_get (D := D) (ci := 6) (v := .ref h1) (C := RX6) (T := TX6) (N := 3) hx hb hts hin6 hown hK hP 0 rfl rfl 0 (by decide) (hts (.fieldLink RX6 9 "MissedPoints$Sheet" "numbers" "[I") (by decide +kernel)) (fun _ h9 => h9) rfl dX6_become_28 ?_
        refine lv_iload_n hx hb dX6_become_31 rfl (lv_at hl 0 rfl) ?_
        refine lv_iconst (v := 0) hx hb dX6_become_32 (by decide) ?_
        refine lz_astc hx hb hK hP hD hS 1 0 rfl rfl (lz_vp (x := 2) (n := 40) (by decide) (by decide)) dX6_become_33 (fun H locs hP hD hS => ?_)
        refine lv_iinc (v := 3) (lv' := [(3, .int 3), (0, .ref h0), (1, .int 1), (2, .int 0)]) hx hb dX6_become_34 hl (k := 0) rfl (by decide) (by decide) rfl (fun ls hl => ?_)
        refine lv_goto (tgt := 21) hx hb dX6_become_37 (by decide) ?_
        refine lv_iload_n hx hb dX6_become_21 rfl (lv_at hl 0 rfl) ?_
        refine lv_bipush (v := 40) hx hb dX6_become_22 (by decide) ?_
        refine lv_icmp_ge (tgt := 40) hx hb dX6_become_24 (by decide) (fun c3484 => ?_) (fun c3484 => ?_)
        · exact absurd c3484 (by decide)
        · refine lv_aload_n hx hb dX6_become_27 rfl (lv_at hl 1 rfl) ?_
          refine va_get (D := D) (ci := 6) (v := .ref h1) (C := RX6) (T := TX6) (N := 3) hx hb hts hin6 hown hK hP 0 rfl rfl 0 (by decide) (hts (.fieldLink RX6 9 "MissedPoints$Sheet" "numbers" "[I") (by decide +kernel)) (fun _ h9 => h9) rfl dX6_become_28 ?_
          refine lv_iload_n hx hb dX6_become_31 rfl (lv_at hl 0 rfl) ?_
          refine lv_iconst (v := 0) hx hb dX6_become_32 (by decide) ?_
          refine lz_astc hx hb hK hP hD hS 1 0 rfl rfl (lz_vp (x := 3) (n := 40) (by decide) (by decide)) dX6_become_33 (fun H locs hP hD hS => ?_)
          refine lv_iinc (v := 4) (lv' := [(3, .int 4), (0, .ref h0), (1, .int 1), (2, .int 0)]) hx hb dX6_become_34 hl (k := 0) rfl (by decide) (by decide) rfl (fun ls hl => ?_)
          refine lv_goto (tgt := 21) hx hb dX6_become_37 (by decide) ?_
          refine lv_iload_n hx hb dX6_become_21 rfl (lv_at hl 0 rfl) ?_
          refine lv_bipush (v := 40) hx hb dX6_become_22 (by decide) ?_
          refine lv_icmp_ge (tgt := 40) hx hb dX6_become_24 (by decide) (fun c3485 => ?_) (fun c3485 => ?_)
          · exact absurd c3485 (by decide)
          · refine lv_aload_n hx hb dX6_become_27 rfl (lv_at hl 1 rfl) ?_
            refine va_get (D := D) (ci := 6) (v := .ref h1) (C := RX6) (T := TX6) (N := 3) hx hb hts hin6 hown hK hP 0 rfl rfl 0 (by decide) (hts (.fieldLink RX6 9 "MissedPoints$Sheet" "numbers" "[I") (by decide +kernel)) (fun _ h9 => h9) rfl dX6_become_28 ?_
            refine lv_iload_n hx hb dX6_become_31 rfl (lv_at hl 0 rfl) ?_
            refine lv_iconst (v := 0) hx hb dX6_become_32 (by decide) ?_
            refine lz_astc hx hb hK hP hD hS 1 0 rfl rfl (lz_vp (x := 4) (n := 40) (by decide) (by decide)) dX6_become_33 (fun H locs hP hD hS => ?_)
            refine lv_iinc (v := 5) (lv' := [(3, .int 5), (0, .ref h0), (1, .int 1), (2, .int 0)]) hx hb dX6_become_34 hl (k := 0) rfl (by decide) (by decide) rfl (fun ls hl => ?_)
            refine lv_goto (tgt := 21) hx hb dX6_become_37 (by decide) ?_
            refine lv_iload_n hx hb dX6_become_21 rfl (lv_at hl 0 rfl) ?_
            refine lv_bipush (v := 40) hx hb dX6_become_22 (by decide) ?_
            refine lv_icmp_ge (tgt := 40) hx hb dX6_become_24 (by decide) (fun c3486 => ?_) (fun c3486 => ?_)
            · exact absurd c3486 (by decide)
            · refine lv_aload_n hx hb dX6_become_27 rfl (lv_at hl 1 rfl) ?_
              refine va_get (D := D) (ci := 6) (v := .ref h1) (C := RX6) (T := TX6) (N := 3) hx hb hts hin6 hown hK hP 0 rfl rfl 0 (by decide) (hts (.fieldLink RX6 9 "MissedPoints$Sheet" "numbers" "[I") (by decide +kernel)) (fun _ h9 => h9) rfl dX6_become_28 ?_
              refine lv_iload_n hx hb dX6_become_31 rfl (lv_at hl 0 rfl) ?_
              refine lv_iconst (v := 0) hx hb dX6_become_32 (by decide) ?_
              refine lz_astc hx hb hK hP hD hS 1 0 rfl rfl (lz_vp (x := 5) (n := 40) (by decide) (by decide)) dX6_become_33 (fun H locs hP hD hS => ?_)
              refine lv_iinc (v := 6) (lv' := [(3, .int 6), (0, .ref h0), (1, .int 1), (2, .int 0)]) hx hb dX6_become_34 hl (k := 0) rfl (by decide) (by decide) rfl (fun ls hl => ?_)
              refine lv_goto (tgt := 21) hx hb dX6_become_37 (by decide) ?_
              refine lv_iload_n hx hb dX6_become_21 rfl (lv_at hl 0 rfl) ?_
              refine lv_bipush (v := 40) hx hb dX6_become_22 (by decide) ?_
              refine lv_icmp_ge (tgt := 40) hx hb dX6_become_24 (by decide) (fun c3487 => ?_) (fun c3487 => ?_)
              · exact absurd c3487 (by decide)
              · refine lv_aload_n hx hb dX6_become_27 rfl (lv_at hl 1 rfl) ?_
                refine va_get (D := D) (ci := 6) (v := .ref h1) (C := RX6) (T := TX6) (N := 3) hx hb hts hin6 hown hK hP 0 rfl rfl 0 (by decide) (hts (.fieldLink RX6 9 "MissedPoints$Sheet" "numbers" "[I") (by decide +kernel)) (fun _ h9 => h9) rfl dX6_become_28 ?_
                refine lv_iload_n hx hb dX6_become_31 rfl (lv_at hl 0 rfl) ?_
                refine lv_iconst (v := 0) hx hb dX6_become_32 (by decide) ?_
                refine lz_astc hx hb hK hP hD hS 1 0 rfl rfl (lz_vp (x := 6) (n := 40) (by decide) (by decide)) dX6_become_33 (fun H locs hP hD hS => ?_)
                refine lv_iinc (v := 7) (lv' := [(3, .int 7), (0, .ref h0), (1, .int 1), (2, .int 0)]) hx hb dX6_become_34 hl (k := 0) rfl (by decide) (by decide) rfl (fun ls hl => ?_)
                refine lv_goto (tgt := 21) hx hb dX6_become_37 (by decide) ?_
                refine lv_iload_n hx hb dX6_become_21 rfl (lv_at hl 0 rfl) ?_
                refine lv_bipush (v := 40) hx hb dX6_become_22 (by decide) ?_
                refine lv_icmp_ge (tgt := 40) hx hb dX6_become_24 (by decide) (fun c3488 => ?_) (fun c3488 => ?_)
                · exact absurd c3488 (by decide)
                · refine lv_aload_n hx hb dX6_become_27 rfl (lv_at hl 1 rfl) ?_
                  refine va_get (D := D) (ci := 6) (v := .ref h1) (C := RX6) (T := TX6) (N := 3) hx hb hts hin6 hown hK hP 0 rfl rfl 0 (by decide) (hts (.fieldLink RX6 9 "MissedPoints$Sheet" "numbers" "[I") (by decide +kernel)) (fun _ h9 => h9) rfl dX6_become_28 ?_
                  refine lv_iload_n hx hb dX6_become_31 rfl (lv_at hl 0 rfl) ?_
                  refine lv_iconst (v := 0) hx hb dX6_become_32 (by decide) ?_
                  refine lz_astc hx hb hK hP hD hS 1 0 rfl rfl (lz_vp (x := 7) (n := 40) (by decide) (by decide)) dX6_become_33 (fun H locs hP hD hS => ?_)
                  refine lv_iinc (v := 8) (lv' := [(3, .int 8), (0, .ref h0), (1, .int 1), (2, .int 0)]) hx hb dX6_become_34 hl (k := 0) rfl (by decide) (by decide) rfl (fun ls hl => ?_)
                  refine lv_goto (tgt := 21) hx hb dX6_become_37 (by decide) ?_
                  refine lv_iload_n hx hb dX6_become_21 rfl (lv_at hl 0 rfl) ?_
                  refine lv_bipush (v := 40) hx hb dX6_become_22 (by decide) ?_
                  refine lv_icmp_ge (tgt := 40) hx hb dX6_become_24 (by decide) (fun c3489 => ?_) (fun c3489 => ?_)
                  · exact absurd c3489 (by decide)
                  · refine lv_aload_n hx hb dX6_become_27 rfl (lv_at hl 1 rfl) ?_
                    refine va_get (D := D) (ci := 6) (v := .ref h1) (C := RX6) (T := TX6) (N := 3) hx hb hts hin6 hown hK hP 0 rfl rfl 0 (by decide) (hts (.fieldLink RX6 9 "MissedPoints$Sheet" "numbers" "[I") (by decide +kernel)) (fun _ h9 => h9) rfl dX6_become_28 ?_
                    refine lv_iload_n hx hb dX6_become_31 rfl (lv_at hl 0 rfl) ?_
                    refine lv_iconst (v := 0) hx hb dX6_become_32 (by decide) ?_
                    refine lz_astc hx hb hK hP hD hS 1 0 rfl rfl (lz_vp (x := 8) (n := 40) (by decide) (by decide)) dX6_become_33 (fun H locs hP hD hS => ?_)
                    refine lv_iinc (v := 9) (lv' := [(3, .int 9), (0, .ref h0), (1, .int 1), (2, .int 0)]) hx hb dX6_become_34 hl (k := 0) rfl (by decide) (by decide) rfl (fun ls hl => ?_)
                    refine lv_goto (tgt := 21) hx hb dX6_become_37 (by decide) ?_
                    refine lv_iload_n hx hb dX6_become_21 rfl (lv_at hl 0 rfl) ?_
                    refine lv_bipush (v := 40) hx hb dX6_become_22 (by decide) ?_
                    refine lv_icmp_ge (tgt := 40) hx hb dX6_become_24 (by decide) (fun c3490 => ?_) (fun c3490 => ?_)
                    · exact absurd c3490 (by decide)
                    · refine lv_aload_n hx hb dX6_become_27 rfl (lv_at hl 1 rfl) ?_
                      refine va_get (D := D) (ci := 6) (v := .ref h1) (C := RX6) (T := TX6) (N := 3) hx hb hts hin6 hown hK hP 0 rfl rfl 0 (by decide) (hts (.fieldLink RX6 9 "MissedPoints$Sheet" "numbers" "[I") (by decide +kernel)) (fun _ h9 => h9) rfl dX6_become_28 ?_
                      refine lv_iload_n hx hb dX6_become_31 rfl (lv_at hl 0 rfl) ?_
                      refine lv_iconst (v := 0) hx hb dX6_become_32 (by decide) ?_
                      refine lz_astc hx hb hK hP hD hS 1 0 rfl rfl (lz_vp (x := 9) (n := 40) (by decide) (by decide)) dX6_become_33 (fun H locs hP hD hS => ?_)
                      refine lv_iinc (v := 10) (lv' := [(3, .int 10), (0, .ref h0), (1, .int 1), (2, .int 0)]) hx hb dX6_become_34 hl (k := 0) rfl (by decide) (by decide) rfl (fun ls hl => ?_)
                      refine lv_goto (tgt := 21) hx hb dX6_become_37 (by decide) ?_
                      refine lv_iload_n hx hb dX6_become_21 rfl (lv_at hl 0 rfl) ?_
                      refine lv_bipush (v := 40) hx hb dX6_become_22 (by decide) ?_
                      refine lv_icmp_ge (tgt := 40) hx hb dX6_become_24 (by decide) (fun c3491 => ?_) (fun c3491 => ?_)
                      · exact absurd c3491 (by decide)
                      · refine lv_aload_n hx hb dX6_become_27 rfl (lv_at hl 1 rfl) ?_
                        refine va_get (D := D) (ci := 6) (v := .ref h1) (C := RX6) (T := TX6) (N := 3) hx hb hts hin6 hown hK hP 0 rfl rfl 0 (by decide) (hts (.fieldLink RX6 9 "MissedPoints$Sheet" "numbers" "[I") (by decide +kernel)) (fun _ h9 => h9) rfl dX6_become_28 ?_
                        refine lv_iload_n hx hb dX6_become_31 rfl (lv_at hl 0 rfl) ?_
                        refine lv_iconst (v := 0) hx hb dX6_become_32 (by decide) ?_
                        refine lz_astc hx hb hK hP hD hS 1 0 rfl rfl (lz_vp (x := 10) (n := 40) (by decide) (by decide)) dX6_become_33 (fun H locs hP hD hS => ?_)
                        refine lv_iinc (v := 11) (lv' := [(3, .int 11), (0, .ref h0), (1, .int 1), (2, .int 0)]) hx hb dX6_become_34 hl (k := 0) rfl (by decide) (by decide) rfl (fun ls hl => ?_)
                        refine lv_goto (tgt := 21) hx hb dX6_become_37 (by decide) ?_
                        refine lv_iload_n hx hb dX6_become_21 rfl (lv_at hl 0 rfl) ?_
                        refine lv_bipush (v := 40) hx hb dX6_become_22 (by decide) ?_
                        refine lv_icmp_ge (tgt := 40) hx hb dX6_become_24 (by decide) (fun c3492 => ?_) (fun c3492 => ?_)
                        · exact absurd c3492 (by decide)
                        · refine lv_aload_n hx hb dX6_become_27 rfl (lv_at hl 1 rfl) ?_
                          refine va_get (D := D) (ci := 6) (v := .ref h1) (C := RX6) (T := TX6) (N := 3) hx hb hts hin6 hown hK hP 0 rfl rfl 0 (by decide) (hts (.fieldLink RX6 9 "MissedPoints$Sheet" "numbers" "[I") (by decide +kernel)) (fun _ h9 => h9) rfl dX6_become_28 ?_
                          refine lv_iload_n hx hb dX6_become_31 rfl (lv_at hl 0 rfl) ?_
                          refine lv_iconst (v := 0) hx hb dX6_become_32 (by decide) ?_
                          refine lz_astc hx hb hK hP hD hS 1 0 rfl rfl (lz_vp (x := 11) (n := 40) (by decide) (by decide)) dX6_become_33 (fun H locs hP hD hS => ?_)
                          refine lv_iinc (v := 12) (lv' := [(3, .int 12), (0, .ref h0), (1, .int 1), (2, .int 0)]) hx hb dX6_become_34 hl (k := 0) rfl (by decide) (by decide) rfl (fun ls hl => ?_)
                          refine lv_goto (tgt := 21) hx hb dX6_become_37 (by decide) ?_
                          refine lv_iload_n hx hb dX6_become_21 rfl (lv_at hl 0 rfl) ?_
                          refine lv_bipush (v := 40) hx hb dX6_become_22 (by decide) ?_
                          refine lv_icmp_ge (tgt := 40) hx hb dX6_become_24 (by decide) (fun c3493 => ?_) (fun c3493 => ?_)
                          · exact absurd c3493 (by decide)
                          · refine lv_aload_n hx hb dX6_become_27 rfl (lv_at hl 1 rfl) ?_
                            refine va_get (D := D) (ci := 6) (v := .ref h1) (C := RX6) (T := TX6) (N := 3) hx hb hts hin6 hown hK hP 0 rfl rfl 0 (by decide) (hts (.fieldLink RX6 9 "MissedPoints$Sheet" "numbers" "[I") (by decide +kernel)) (fun _ h9 => h9) rfl dX6_become_28 ?_
                            refine lv_iload_n hx hb dX6_become_31 rfl (lv_at hl 0 rfl) ?_
                            refine lv_iconst (v := 0) hx hb dX6_become_32 (by decide) ?_
                            refine lz_astc hx hb hK hP hD hS 1 0 rfl rfl (lz_vp (x := 12) (n := 40) (by decide) (by decide)) dX6_become_33 (fun H locs hP hD hS => ?_)
                            refine lv_iinc (v := 13) (lv' := [(3, .int 13), (0, .ref h0), (1, .int 1), (2, .int 0)]) hx hb dX6_become_34 hl (k := 0) rfl (by decide) (by decide) rfl (fun ls hl => ?_)
                            refine lv_goto (tgt := 21) hx hb dX6_become_37 (by decide) ?_
                            refine lv_iload_n hx hb dX6_become_21 rfl (lv_at hl 0 rfl) ?_
                            refine lv_bipush (v := 40) hx hb dX6_become_22 (by decide) ?_
                            refine lv_icmp_ge (tgt := 40) hx hb dX6_become_24 (by decide) (fun c3494 => ?_) (fun c3494 => ?_)
                            · exact absurd c3494 (by decide)
                            · refine lv_aload_n hx hb dX6_become_27 rfl (lv_at hl 1 rfl) ?_
                              refine va_get (D := D) (ci := 6) (v := .ref h1) (C := RX6) (T := TX6) (N := 3) hx hb hts hin6 hown hK hP 0 rfl rfl 0 (by decide) (hts (.fieldLink RX6 9 "MissedPoints$Sheet" "numbers" "[I") (by decide +kernel)) (fun _ h9 => h9) rfl dX6_become_28 ?_
                              refine lv_iload_n hx hb dX6_become_31 rfl (lv_at hl 0 rfl) ?_
                              refine lv_iconst (v := 0) hx hb dX6_become_32 (by decide) ?_
                              refine lz_astc hx hb hK hP hD hS 1 0 rfl rfl (lz_vp (x := 13) (n := 40) (by decide) (by decide)) dX6_become_33 (fun H locs hP hD hS => ?_)
                              refine lv_iinc (v := 14) (lv' := [(3, .int 14), (0, .ref h0), (1, .int 1), (2, .int 0)]) hx hb dX6_become_34 hl (k := 0) rfl (by decide) (by decide) rfl (fun ls hl => ?_)
                              refine lv_goto (tgt := 21) hx hb dX6_become_37 (by decide) ?_
                              refine lv_iload_n hx hb dX6_become_21 rfl (lv_at hl 0 rfl) ?_
                              refine lv_bipush (v := 40) hx hb dX6_become_22 (by decide) ?_
                              refine lv_icmp_ge (tgt := 40) hx hb dX6_become_24 (by decide) (fun c3495 => ?_) (fun c3495 => ?_)
                              · exact absurd c3495 (by decide)
                              · refine lv_aload_n hx hb dX6_become_27 rfl (lv_at hl 1 rfl) ?_
                                refine va_get (D := D) (ci := 6) (v := .ref h1) (C := RX6) (T := TX6) (N := 3) hx hb hts hin6 hown hK hP 0 rfl rfl 0 (by decide) (hts (.fieldLink RX6 9 "MissedPoints$Sheet" "numbers" "[I") (by decide +kernel)) (fun _ h9 => h9) rfl dX6_become_28 ?_
                                refine lv_iload_n hx hb dX6_become_31 rfl (lv_at hl 0 rfl) ?_
                                refine lv_iconst (v := 0) hx hb dX6_become_32 (by decide) ?_
                                refine lz_astc hx hb hK hP hD hS 1 0 rfl rfl (lz_vp (x := 14) (n := 40) (by decide) (by decide)) dX6_become_33 (fun H locs hP hD hS => ?_)
                                refine lv_iinc (v := 15) (lv' := [(3, .int 15), (0, .ref h0), (1, .int 1), (2, .int 0)]) hx hb dX6_become_34 hl (k := 0) rfl (by decide) (by decide) rfl (fun ls hl => ?_)
                                refine lv_goto (tgt := 21) hx hb dX6_become_37 (by decide) ?_
                                refine lv_iload_n hx hb dX6_become_21 rfl (lv_at hl 0 rfl) ?_
                                refine lv_bipush (v := 40) hx hb dX6_become_22 (by decide) ?_
                                refine lv_icmp_ge (tgt := 40) hx hb dX6_become_24 (by decide) (fun c3496 => ?_) (fun c3496 => ?_)
                                · exact absurd c3496 (by decide)
                                · refine lv_aload_n hx hb dX6_become_27 rfl (lv_at hl 1 rfl) ?_
                                  refine va_get (D := D) (ci := 6) (v := .ref h1) (C := RX6) (T := TX6) (N := 3) hx hb hts hin6 hown hK hP 0 rfl rfl 0 (by decide) (hts (.fieldLink RX6 9 "MissedPoints$Sheet" "numbers" "[I") (by decide +kernel)) (fun _ h9 => h9) rfl dX6_become_28 ?_
                                  refine lv_iload_n hx hb dX6_become_31 rfl (lv_at hl 0 rfl) ?_
                                  refine lv_iconst (v := 0) hx hb dX6_become_32 (by decide) ?_
                                  refine lz_astc hx hb hK hP hD hS 1 0 rfl rfl (lz_vp (x := 15) (n := 40) (by decide) (by decide)) dX6_become_33 (fun H locs hP hD hS => ?_)
                                  refine lv_iinc (v := 16) (lv' := [(3, .int 16), (0, .ref h0), (1, .int 1), (2, .int 0)]) hx hb dX6_become_34 hl (k := 0) rfl (by decide) (by decide) rfl (fun ls hl => ?_)
                                  refine lv_goto (tgt := 21) hx hb dX6_become_37 (by decide) ?_
                                  refine lv_iload_n hx hb dX6_become_21 rfl (lv_at hl 0 rfl) ?_
                                  refine lv_bipush (v := 40) hx hb dX6_become_22 (by decide) ?_
                                  refine lv_icmp_ge (tgt := 40) hx hb dX6_become_24 (by decide) (fun c3497 => ?_) (fun c3497 => ?_)
                                  · exact absurd c3497 (by decide)
                                  · refine lv_aload_n hx hb dX6_become_27 rfl (lv_at hl 1 rfl) ?_
                                    refine va_get (D := D) (ci := 6) (v := .ref h1) (C := RX6) (T := TX6) (N := 3) hx hb hts hin6 hown hK hP 0 rfl rfl 0 (by decide) (hts (.fieldLink RX6 9 "MissedPoints$Sheet" "numbers" "[I") (by decide +kernel)) (fun _ h9 => h9) rfl dX6_become_28 ?_
                                    refine lv_iload_n hx hb dX6_become_31 rfl (lv_at hl 0 rfl) ?_
                                    refine lv_iconst (v := 0) hx hb dX6_become_32 (by decide) ?_
                                    refine lz_astc hx hb hK hP hD hS 1 0 rfl rfl (lz_vp (x := 16) (n := 40) (by decide) (by decide)) dX6_become_33 (fun H locs hP hD hS => ?_)
                                    refine lv_iinc (v := 17) (lv' := [(3, .int 17), (0, .ref h0), (1, .int 1), (2, .int 0)]) hx hb dX6_become_34 hl (k := 0) rfl (by decide) (by decide) rfl (fun ls hl => ?_)
                                    refine lv_goto (tgt := 21) hx hb dX6_become_37 (by decide) ?_
                                    refine lv_iload_n hx hb dX6_become_21 rfl (lv_at hl 0 rfl) ?_
                                    refine lv_bipush (v := 40) hx hb dX6_become_22 (by decide) ?_
                                    refine lv_icmp_ge (tgt := 40) hx hb dX6_become_24 (by decide) (fun c3498 => ?_) (fun c3498 => ?_)
                                    · exact absurd c3498 (by decide)
                                    · refine lv_aload_n hx hb dX6_become_27 rfl (lv_at hl 1 rfl) ?_
                                      refine va_get (D := D) (ci := 6) (v := .ref h1) (C := RX6) (T := TX6) (N := 3) hx hb hts hin6 hown hK hP 0 rfl rfl 0 (by decide) (hts (.fieldLink RX6 9 "MissedPoints$Sheet" "numbers" "[I") (by decide +kernel)) (fun _ h9 => h9) rfl dX6_become_28 ?_
                                      refine lv_iload_n hx hb dX6_become_31 rfl (lv_at hl 0 rfl) ?_
                                      refine lv_iconst (v := 0) hx hb dX6_become_32 (by decide) ?_
                                      refine lz_astc hx hb hK hP hD hS 1 0 rfl rfl (lz_vp (x := 17) (n := 40) (by decide) (by decide)) dX6_become_33 (fun H locs hP hD hS => ?_)
                                      refine lv_iinc (v := 18) (lv' := [(3, .int 18), (0, .ref h0), (1, .int 1), (2, .int 0)]) hx hb dX6_become_34 hl (k := 0) rfl (by decide) (by decide) rfl (fun ls hl => ?_)
                                      refine lv_goto (tgt := 21) hx hb dX6_become_37 (by decide) ?_
                                      refine lv_iload_n hx hb dX6_become_21 rfl (lv_at hl 0 rfl) ?_
                                      refine lv_bipush (v := 40) hx hb dX6_become_22 (by decide) ?_
                                      refine lv_icmp_ge (tgt := 40) hx hb dX6_become_24 (by decide) (fun c3499 => ?_) (fun c3499 => ?_)
                                      · exact absurd c3499 (by decide)
                                      · refine lv_aload_n hx hb dX6_become_27 rfl (lv_at hl 1 rfl) ?_
                                        refine va_get (D := D) (ci := 6) (v := .ref h1) (C := RX6) (T := TX6) (N := 3) hx hb hts hin6 hown hK hP 0 rfl rfl 0 (by decide) (hts (.fieldLink RX6 9 "MissedPoints$Sheet" "numbers" "[I") (by decide +kernel)) (fun _ h9 => h9) rfl dX6_become_28 ?_
                                        refine lv_iload_n hx hb dX6_become_31 rfl (lv_at hl 0 rfl) ?_
                                        refine lv_iconst (v := 0) hx hb dX6_become_32 (by decide) ?_
                                        refine lz_astc hx hb hK hP hD hS 1 0 rfl rfl (lz_vp (x := 18) (n := 40) (by decide) (by decide)) dX6_become_33 (fun H locs hP hD hS => ?_)
                                        refine lv_iinc (v := 19) (lv' := [(3, .int 19), (0, .ref h0), (1, .int 1), (2, .int 0)]) hx hb dX6_become_34 hl (k := 0) rfl (by decide) (by decide) rfl (fun ls hl => ?_)
                                        refine lv_goto (tgt := 21) hx hb dX6_become_37 (by decide) ?_
                                        refine lv_iload_n hx hb dX6_become_21 rfl (lv_at hl 0 rfl) ?_
                                        refine lv_bipush (v := 40) hx hb dX6_become_22 (by decide) ?_
                                        refine lv_icmp_ge (tgt := 40) hx hb dX6_become_24 (by decide) (fun c3500 => ?_) (fun c3500 => ?_)
                                        · exact absurd c3500 (by decide)
                                        · refine lv_aload_n hx hb dX6_become_27 rfl (lv_at hl 1 rfl) ?_
                                          refine va_get (D := D) (ci := 6) (v := .ref h1) (C := RX6) (T := TX6) (N := 3) hx hb hts hin6 hown hK hP 0 rfl rfl 0 (by decide) (hts (.fieldLink RX6 9 "MissedPoints$Sheet" "numbers" "[I") (by decide +kernel)) (fun _ h9 => h9) rfl dX6_become_28 ?_
                                          refine lv_iload_n hx hb dX6_become_31 rfl (lv_at hl 0 rfl) ?_
                                          refine lv_iconst (v := 0) hx hb dX6_become_32 (by decide) ?_
                                          refine lz_astc hx hb hK hP hD hS 1 0 rfl rfl (lz_vp (x := 19) (n := 40) (by decide) (by decide)) dX6_become_33 (fun H locs hP hD hS => ?_)
                                          refine lv_iinc (v := 20) (lv' := [(3, .int 20), (0, .ref h0), (1, .int 1), (2, .int 0)]) hx hb dX6_become_34 hl (k := 0) rfl (by decide) (by decide) rfl (fun ls hl => ?_)
                                          refine lv_goto (tgt := 21) hx hb dX6_become_37 (by decide) ?_
                                          refine lv_iload_n hx hb dX6_become_21 rfl (lv_at hl 0 rfl) ?_
                                          refine lv_bipush (v := 40) hx hb dX6_become_22 (by decide) ?_
                                          refine lv_icmp_ge (tgt := 40) hx hb dX6_become_24 (by decide) (fun c3501 => ?_) (fun c3501 => ?_)
                                          · exact absurd c3501 (by decide)
                                          · refine lv_aload_n hx hb dX6_become_27 rfl (lv_at hl 1 rfl) ?_
                                            refine va_get (D := D) (ci := 6) (v := .ref h1) (C := RX6) (T := TX6) (N := 3) hx hb hts hin6 hown hK hP 0 rfl rfl 0 (by decide) (hts (.fieldLink RX6 9 "MissedPoints$Sheet" "numbers" "[I") (by decide +kernel)) (fun _ h9 => h9) rfl dX6_become_28 ?_
                                            refine lv_iload_n hx hb dX6_become_31 rfl (lv_at hl 0 rfl) ?_
                                            refine lv_iconst (v := 0) hx hb dX6_become_32 (by decide) ?_
                                            refine lz_astc hx hb hK hP hD hS 1 0 rfl rfl (lz_vp (x := 20) (n := 40) (by decide) (by decide)) dX6_become_33 (fun H locs hP hD hS => ?_)
                                            refine lv_iinc (v := 21) (lv' := [(3, .int 21), (0, .ref h0), (1, .int 1), (2, .int 0)]) hx hb dX6_become_34 hl (k := 0) rfl (by decide) (by decide) rfl (fun ls hl => ?_)
                                            refine lv_goto (tgt := 21) hx hb dX6_become_37 (by decide) ?_
                                            refine lv_iload_n hx hb dX6_become_21 rfl (lv_at hl 0 rfl) ?_
                                            refine lv_bipush (v := 40) hx hb dX6_become_22 (by decide) ?_
                                            refine lv_icmp_ge (tgt := 40) hx hb dX6_become_24 (by decide) (fun c3502 => ?_) (fun c3502 => ?_)
                                            · exact absurd c3502 (by decide)
                                            · refine lv_aload_n hx hb dX6_become_27 rfl (lv_at hl 1 rfl) ?_
                                              refine va_get (D := D) (ci := 6) (v := .ref h1) (C := RX6) (T := TX6) (N := 3) hx hb hts hin6 hown hK hP 0 rfl rfl 0 (by decide) (hts (.fieldLink RX6 9 "MissedPoints$Sheet" "numbers" "[I") (by decide +kernel)) (fun _ h9 => h9) rfl dX6_become_28 ?_
                                              refine lv_iload_n hx hb dX6_become_31 rfl (lv_at hl 0 rfl) ?_
                                              refine lv_iconst (v := 0) hx hb dX6_become_32 (by decide) ?_
                                              refine lz_astc hx hb hK hP hD hS 1 0 rfl rfl (lz_vp (x := 21) (n := 40) (by decide) (by decide)) dX6_become_33 (fun H locs hP hD hS => ?_)
                                              refine lv_iinc (v := 22) (lv' := [(3, .int 22), (0, .ref h0), (1, .int 1), (2, .int 0)]) hx hb dX6_become_34 hl (k := 0) rfl (by decide) (by decide) rfl (fun ls hl => ?_)
                                              refine lv_goto (tgt := 21) hx hb dX6_become_37 (by decide) ?_
                                              refine lv_iload_n hx hb dX6_become_21 rfl (lv_at hl 0 rfl) ?_
                                              refine lv_bipush (v := 40) hx hb dX6_become_22 (by decide) ?_
                                              refine lv_icmp_ge (tgt := 40) hx hb dX6_become_24 (by decide) (fun c3503 => ?_) (fun c3503 => ?_)
                                              · exact absurd c3503 (by decide)
                                              · refine lv_aload_n hx hb dX6_become_27 rfl (lv_at hl 1 rfl) ?_
                                                refine va_get (D := D) (ci := 6) (v := .ref h1) (C := RX6) (T := TX6) (N := 3) hx hb hts hin6 hown hK hP 0 rfl rfl 0 (by decide) (hts (.fieldLink RX6 9 "MissedPoints$Sheet" "numbers" "[I") (by decide +kernel)) (fun _ h9 => h9) rfl dX6_become_28 ?_
                                                refine lv_iload_n hx hb dX6_become_31 rfl (lv_at hl 0 rfl) ?_
                                                refine lv_iconst (v := 0) hx hb dX6_become_32 (by decide) ?_
                                                refine lz_astc hx hb hK hP hD hS 1 0 rfl rfl (lz_vp (x := 22) (n := 40) (by decide) (by decide)) dX6_become_33 (fun H locs hP hD hS => ?_)
                                                refine lv_iinc (v := 23) (lv' := [(3, .int 23), (0, .ref h0), (1, .int 1), (2, .int 0)]) hx hb dX6_become_34 hl (k := 0) rfl (by decide) (by decide) rfl (fun ls hl => ?_)
                                                refine lv_goto (tgt := 21) hx hb dX6_become_37 (by decide) ?_
                                                refine lv_iload_n hx hb dX6_become_21 rfl (lv_at hl 0 rfl) ?_
                                                refine lv_bipush (v := 40) hx hb dX6_become_22 (by decide) ?_
                                                refine lv_icmp_ge (tgt := 40) hx hb dX6_become_24 (by decide) (fun c3504 => ?_) (fun c3504 => ?_)
                                                · exact absurd c3504 (by decide)
                                                · refine lv_aload_n hx hb dX6_become_27 rfl (lv_at hl 1 rfl) ?_
                                                  refine va_get (D := D) (ci := 6) (v := .ref h1) (C := RX6) (T := TX6) (N := 3) hx hb hts hin6 hown hK hP 0 rfl rfl 0 (by decide) (hts (.fieldLink RX6 9 "MissedPoints$Sheet" "numbers" "[I") (by decide +kernel)) (fun _ h9 => h9) rfl dX6_become_28 ?_
                                                  refine lv_iload_n hx hb dX6_become_31 rfl (lv_at hl 0 rfl) ?_
                                                  refine lv_iconst (v := 0) hx hb dX6_become_32 (by decide) ?_
                                                  refine lz_astc hx hb hK hP hD hS 1 0 rfl rfl (lz_vp (x := 23) (n := 40) (by decide) (by decide)) dX6_become_33 (fun H locs hP hD hS => ?_)
                                                  refine lv_iinc (v := 24) (lv' := [(3, .int 24), (0, .ref h0), (1, .int 1), (2, .int 0)]) hx hb dX6_become_34 hl (k := 0) rfl (by decide) (by decide) rfl (fun ls hl => ?_)
                                                  refine lv_goto (tgt := 21) hx hb dX6_become_37 (by decide) ?_
                                                  refine lv_iload_n hx hb dX6_become_21 rfl (lv_at hl 0 rfl) ?_
                                                  refine lv_bipush (v := 40) hx hb dX6_become_22 (by decide) ?_
                                                  refine lv_icmp_ge (tgt := 40) hx hb dX6_become_24 (by decide) (fun c3505 => ?_) (fun c3505 => ?_)
                                                  · exact absurd c3505 (by decide)
                                                  · refine lv_aload_n hx hb dX6_become_27 rfl (lv_at hl 1 rfl) ?_
                                                    refine va_get (D := D) (ci := 6) (v := .ref h1) (C := RX6) (T := TX6) (N := 3) hx hb hts hin6 hown hK hP 0 rfl rfl 0 (by decide) (hts (.fieldLink RX6 9 "MissedPoints$Sheet" "numbers" "[I") (by decide +kernel)) (fun _ h9 => h9) rfl dX6_become_28 ?_
                                                    refine lv_iload_n hx hb dX6_become_31 rfl (lv_at hl 0 rfl) ?_
                                                    refine lv_iconst (v := 0) hx hb dX6_become_32 (by decide) ?_
                                                    refine lz_astc hx hb hK hP hD hS 1 0 rfl rfl (lz_vp (x := 24) (n := 40) (by decide) (by decide)) dX6_become_33 (fun H locs hP hD hS => ?_)
                                                    refine lv_iinc (v := 25) (lv' := [(3, .int 25), (0, .ref h0), (1, .int 1), (2, .int 0)]) hx hb dX6_become_34 hl (k := 0) rfl (by decide) (by decide) rfl (fun ls hl => ?_)
                                                    refine lv_goto (tgt := 21) hx hb dX6_become_37 (by decide) ?_
                                                    refine lv_iload_n hx hb dX6_become_21 rfl (lv_at hl 0 rfl) ?_
                                                    refine lv_bipush (v := 40) hx hb dX6_become_22 (by decide) ?_
                                                    refine lv_icmp_ge (tgt := 40) hx hb dX6_become_24 (by decide) (fun c3506 => ?_) (fun c3506 => ?_)
                                                    · exact absurd c3506 (by decide)
                                                    · refine lv_aload_n hx hb dX6_become_27 rfl (lv_at hl 1 rfl) ?_
                                                      refine va_get (D := D) (ci := 6) (v := .ref h1) (C := RX6) (T := TX6) (N := 3) hx hb hts hin6 hown hK hP 0 rfl rfl 0 (by decide) (hts (.fieldLink RX6 9 "MissedPoints$Sheet" "numbers" "[I") (by decide +kernel)) (fun _ h9 => h9) rfl dX6_become_28 ?_
                                                      refine lv_iload_n hx hb dX6_become_31 rfl (lv_at hl 0 rfl) ?_
                                                      refine lv_iconst (v := 0) hx hb dX6_become_32 (by decide) ?_
                                                      refine lz_astc hx hb hK hP hD hS 1 0 rfl rfl (lz_vp (x := 25) (n := 40) (by decide) (by decide)) dX6_become_33 (fun H locs hP hD hS => ?_)
                                                      refine lv_iinc (v := 26) (lv' := [(3, .int 26), (0, .ref h0), (1, .int 1), (2, .int 0)]) hx hb dX6_become_34 hl (k := 0) rfl (by decide) (by decide) rfl (fun ls hl => ?_)
                                                      refine lv_goto (tgt := 21) hx hb dX6_become_37 (by decide) ?_
                                                      refine lv_iload_n hx hb dX6_become_21 rfl (lv_at hl 0 rfl) ?_
                                                      refine lv_bipush (v := 40) hx hb dX6_become_22 (by decide) ?_
                                                      refine lv_icmp_ge (tgt := 40) hx hb dX6_become_24 (by decide) (fun c3507 => ?_) (fun c3507 => ?_)
                                                      · exact absurd c3507 (by decide)
                                                      · refine lv_aload_n hx hb dX6_become_27 rfl (lv_at hl 1 rfl) ?_
                                                        refine va_get (D := D) (ci := 6) (v := .ref h1) (C := RX6) (T := TX6) (N := 3) hx hb hts hin6 hown hK hP 0 rfl rfl 0 (by decide) (hts (.fieldLink RX6 9 "MissedPoints$Sheet" "numbers" "[I") (by decide +kernel)) (fun _ h9 => h9) rfl dX6_become_28 ?_
                                                        refine lv_iload_n hx hb dX6_become_31 rfl (lv_at hl 0 rfl) ?_
                                                        refine lv_iconst (v := 0) hx hb dX6_become_32 (by decide) ?_
                                                        refine lz_astc hx hb hK hP hD hS 1 0 rfl rfl (lz_vp (x := 26) (n := 40) (by decide) (by decide)) dX6_become_33 (fun H locs hP hD hS => ?_)
                                                        refine lv_iinc (v := 27) (lv' := [(3, .int 27), (0, .ref h0), (1, .int 1), (2, .int 0)]) hx hb dX6_become_34 hl (k := 0) rfl (by decide) (by decide) rfl (fun ls hl => ?_)
                                                        refine lv_goto (tgt := 21) hx hb dX6_become_37 (by decide) ?_
                                                        refine lv_iload_n hx hb dX6_become_21 rfl (lv_at hl 0 rfl) ?_
                                                        refine lv_bipush (v := 40) hx hb dX6_become_22 (by decide) ?_
                                                        refine lv_icmp_ge (tgt := 40) hx hb dX6_become_24 (by decide) (fun c3508 => ?_) (fun c3508 => ?_)
                                                        · exact absurd c3508 (by decide)
                                                        · refine lv_aload_n hx hb dX6_become_27 rfl (lv_at hl 1 rfl) ?_
                                                          refine va_get (D := D) (ci := 6) (v := .ref h1) (C := RX6) (T := TX6) (N := 3) hx hb hts hin6 hown hK hP 0 rfl rfl 0 (by decide) (hts (.fieldLink RX6 9 "MissedPoints$Sheet" "numbers" "[I") (by decide +kernel)) (fun _ h9 => h9) rfl dX6_become_28 ?_
                                                          refine lv_iload_n hx hb dX6_become_31 rfl (lv_at hl 0 rfl) ?_
                                                          refine lv_iconst (v := 0) hx hb dX6_become_32 (by decide) ?_
                                                          refine lz_astc hx hb hK hP hD hS 1 0 rfl rfl (lz_vp (x := 27) (n := 40) (by decide) (by decide)) dX6_become_33 (fun H locs hP hD hS => ?_)
                                                          refine lv_iinc (v := 28) (lv' := [(3, .int 28), (0, .ref h0), (1, .int 1), (2, .int 0)]) hx hb dX6_become_34 hl (k := 0) rfl (by decide) (by decide) rfl (fun ls hl => ?_)
                                                          refine lv_goto (tgt := 21) hx hb dX6_become_37 (by decide) ?_
                                                          refine lv_iload_n hx hb dX6_become_21 rfl (lv_at hl 0 rfl) ?_
                                                          refine lv_bipush (v := 40) hx hb dX6_become_22 (by decide) ?_
                                                          refine lv_icmp_ge (tgt := 40) hx hb dX6_become_24 (by decide) (fun c3509 => ?_) (fun c3509 => ?_)
                                                          · exact absurd c3509 (by decide)
                                                          · refine lv_aload_n hx hb dX6_become_27 rfl (lv_at hl 1 rfl) ?_
                                                            refine va_get (D := D) (ci := 6) (v := .ref h1) (C := RX6) (T := TX6) (N := 3) hx hb hts hin6 hown hK hP 0 rfl rfl 0 (by decide) (hts (.fieldLink RX6 9 "MissedPoints$Sheet" "numbers" "[I") (by decide +kernel)) (fun _ h9 => h9) rfl dX6_become_28 ?_
                                                            refine lv_iload_n hx hb dX6_become_31 rfl (lv_at hl 0 rfl) ?_
                                                            refine lv_iconst (v := 0) hx hb dX6_become_32 (by decide) ?_
                                                            refine lz_astc hx hb hK hP hD hS 1 0 rfl rfl (lz_vp (x := 28) (n := 40) (by decide) (by decide)) dX6_become_33 (fun H locs hP hD hS => ?_)
                                                            refine lv_iinc (v := 29) (lv' := [(3, .int 29), (0, .ref h0), (1, .int 1), (2, .int 0)]) hx hb dX6_become_34 hl (k := 0) rfl (by decide) (by decide) rfl (fun ls hl => ?_)
                                                            refine lv_goto (tgt := 21) hx hb dX6_become_37 (by decide) ?_
                                                            refine lv_iload_n hx hb dX6_become_21 rfl (lv_at hl 0 rfl) ?_
                                                            refine lv_bipush (v := 40) hx hb dX6_become_22 (by decide) ?_
                                                            refine lv_icmp_ge (tgt := 40) hx hb dX6_become_24 (by decide) (fun c3510 => ?_) (fun c3510 => ?_)
                                                            · exact absurd c3510 (by decide)
                                                            · refine lv_aload_n hx hb dX6_become_27 rfl (lv_at hl 1 rfl) ?_
                                                              refine va_get (D := D) (ci := 6) (v := .ref h1) (C := RX6) (T := TX6) (N := 3) hx hb hts hin6 hown hK hP 0 rfl rfl 0 (by decide) (hts (.fieldLink RX6 9 "MissedPoints$Sheet" "numbers" "[I") (by decide +kernel)) (fun _ h9 => h9) rfl dX6_become_28 ?_
                                                              refine lv_iload_n hx hb dX6_become_31 rfl (lv_at hl 0 rfl) ?_
                                                              refine lv_iconst (v := 0) hx hb dX6_become_32 (by decide) ?_
                                                              refine lz_astc hx hb hK hP hD hS 1 0 rfl rfl (lz_vp (x := 29) (n := 40) (by decide) (by decide)) dX6_become_33 (fun H locs hP hD hS => ?_)
                                                              refine lv_iinc (v := 30) (lv' := [(3, .int 30), (0, .ref h0), (1, .int 1), (2, .int 0)]) hx hb dX6_become_34 hl (k := 0) rfl (by decide) (by decide) rfl (fun ls hl => ?_)
                                                              refine lv_goto (tgt := 21) hx hb dX6_become_37 (by decide) ?_
                                                              refine lv_iload_n hx hb dX6_become_21 rfl (lv_at hl 0 rfl) ?_
                                                              refine lv_bipush (v := 40) hx hb dX6_become_22 (by decide) ?_
                                                              refine lv_icmp_ge (tgt := 40) hx hb dX6_become_24 (by decide) (fun c3511 => ?_) (fun c3511 => ?_)
                                                              · exact absurd c3511 (by decide)
                                                              · refine lv_aload_n hx hb dX6_become_27 rfl (lv_at hl 1 rfl) ?_
                                                                refine va_get (D := D) (ci := 6) (v := .ref h1) (C := RX6) (T := TX6) (N := 3) hx hb hts hin6 hown hK hP 0 rfl rfl 0 (by decide) (hts (.fieldLink RX6 9 "MissedPoints$Sheet" "numbers" "[I") (by decide +kernel)) (fun _ h9 => h9) rfl dX6_become_28 ?_
                                                                refine lv_iload_n hx hb dX6_become_31 rfl (lv_at hl 0 rfl) ?_
                                                                refine lv_iconst (v := 0) hx hb dX6_become_32 (by decide) ?_
                                                                refine lz_astc hx hb hK hP hD hS 1 0 rfl rfl (lz_vp (x := 30) (n := 40) (by decide) (by decide)) dX6_become_33 (fun H locs hP hD hS => ?_)
                                                                refine lv_iinc (v := 31) (lv' := [(3, .int 31), (0, .ref h0), (1, .int 1), (2, .int 0)]) hx hb dX6_become_34 hl (k := 0) rfl (by decide) (by decide) rfl (fun ls hl => ?_)
                                                                refine lv_goto (tgt := 21) hx hb dX6_become_37 (by decide) ?_
                                                                refine lv_iload_n hx hb dX6_become_21 rfl (lv_at hl 0 rfl) ?_
                                                                refine lv_bipush (v := 40) hx hb dX6_become_22 (by decide) ?_
                                                                refine lv_icmp_ge (tgt := 40) hx hb dX6_become_24 (by decide) (fun c3512 => ?_) (fun c3512 => ?_)
                                                                · exact absurd c3512 (by decide)
                                                                · refine lv_aload_n hx hb dX6_become_27 rfl (lv_at hl 1 rfl) ?_
                                                                  refine va_get (D := D) (ci := 6) (v := .ref h1) (C := RX6) (T := TX6) (N := 3) hx hb hts hin6 hown hK hP 0 rfl rfl 0 (by decide) (hts (.fieldLink RX6 9 "MissedPoints$Sheet" "numbers" "[I") (by decide +kernel)) (fun _ h9 => h9) rfl dX6_become_28 ?_
                                                                  refine lv_iload_n hx hb dX6_become_31 rfl (lv_at hl 0 rfl) ?_
                                                                  refine lv_iconst (v := 0) hx hb dX6_become_32 (by decide) ?_
                                                                  refine lz_astc hx hb hK hP hD hS 1 0 rfl rfl (lz_vp (x := 31) (n := 40) (by decide) (by decide)) dX6_become_33 (fun H locs hP hD hS => ?_)
                                                                  refine lv_iinc (v := 32) (lv' := [(3, .int 32), (0, .ref h0), (1, .int 1), (2, .int 0)]) hx hb dX6_become_34 hl (k := 0) rfl (by decide) (by decide) rfl (fun ls hl => ?_)
                                                                  refine lv_goto (tgt := 21) hx hb dX6_become_37 (by decide) ?_
                                                                  refine lv_iload_n hx hb dX6_become_21 rfl (lv_at hl 0 rfl) ?_
                                                                  refine lv_bipush (v := 40) hx hb dX6_become_22 (by decide) ?_
                                                                  refine lv_icmp_ge (tgt := 40) hx hb dX6_become_24 (by decide) (fun c3513 => ?_) (fun c3513 => ?_)
                                                                  · exact absurd c3513 (by decide)
                                                                  · refine lv_aload_n hx hb dX6_become_27 rfl (lv_at hl 1 rfl) ?_
                                                                    refine va_get (D := D) (ci := 6) (v := .ref h1) (C := RX6) (T := TX6) (N := 3) hx hb hts hin6 hown hK hP 0 rfl rfl 0 (by decide) (hts (.fieldLink RX6 9 "MissedPoints$Sheet" "numbers" "[I") (by decide +kernel)) (fun _ h9 => h9) rfl dX6_become_28 ?_
                                                                    refine lv_iload_n hx hb dX6_become_31 rfl (lv_at hl 0 rfl) ?_
                                                                    refine lv_iconst (v := 0) hx hb dX6_become_32 (by decide) ?_
                                                                    refine lz_astc hx hb hK hP hD hS 1 0 rfl rfl (lz_vp (x := 32) (n := 40) (by decide) (by decide)) dX6_become_33 (fun H locs hP hD hS => ?_)
                                                                    refine lv_iinc (v := 33) (lv' := [(3, .int 33), (0, .ref h0), (1, .int 1), (2, .int 0)]) hx hb dX6_become_34 hl (k := 0) rfl (by decide) (by decide) rfl (fun ls hl => ?_)
                                                                    refine lv_goto (tgt := 21) hx hb dX6_become_37 (by decide) ?_
                                                                    refine lv_iload_n hx hb dX6_become_21 rfl (lv_at hl 0 rfl) ?_
                                                                    refine lv_bipush (v := 40) hx hb dX6_become_22 (by decide) ?_
                                                                    refine lv_icmp_ge (tgt := 40) hx hb dX6_become_24 (by decide) (fun c3514 => ?_) (fun c3514 => ?_)
                                                                    · exact absurd c3514 (by decide)
                                                                    · refine lv_aload_n hx hb dX6_become_27 rfl (lv_at hl 1 rfl) ?_
                                                                      refine va_get (D := D) (ci := 6) (v := .ref h1) (C := RX6) (T := TX6) (N := 3) hx hb hts hin6 hown hK hP 0 rfl rfl 0 (by decide) (hts (.fieldLink RX6 9 "MissedPoints$Sheet" "numbers" "[I") (by decide +kernel)) (fun _ h9 => h9) rfl dX6_become_28 ?_
                                                                      refine lv_iload_n hx hb dX6_become_31 rfl (lv_at hl 0 rfl) ?_
                                                                      refine lv_iconst (v := 0) hx hb dX6_become_32 (by decide) ?_
                                                                      refine lz_astc hx hb hK hP hD hS 1 0 rfl rfl (lz_vp (x := 33) (n := 40) (by decide) (by decide)) dX6_become_33 (fun H locs hP hD hS => ?_)
                                                                      refine lv_iinc (v := 34) (lv' := [(3, .int 34), (0, .ref h0), (1, .int 1), (2, .int 0)]) hx hb dX6_become_34 hl (k := 0) rfl (by decide) (by decide) rfl (fun ls hl => ?_)
                                                                      refine lv_goto (tgt := 21) hx hb dX6_become_37 (by decide) ?_
                                                                      refine lv_iload_n hx hb dX6_become_21 rfl (lv_at hl 0 rfl) ?_
                                                                      refine lv_bipush (v := 40) hx hb dX6_become_22 (by decide) ?_
                                                                      refine lv_icmp_ge (tgt := 40) hx hb dX6_become_24 (by decide) (fun c3515 => ?_) (fun c3515 => ?_)
                                                                      · exact absurd c3515 (by decide)
                                                                      · refine lv_aload_n hx hb dX6_become_27 rfl (lv_at hl 1 rfl) ?_
                                                                        refine va_get (D := D) (ci := 6) (v := .ref h1) (C := RX6) (T := TX6) (N := 3) hx hb hts hin6 hown hK hP 0 rfl rfl 0 (by decide) (hts (.fieldLink RX6 9 "MissedPoints$Sheet" "numbers" "[I") (by decide +kernel)) (fun _ h9 => h9) rfl dX6_become_28 ?_
                                                                        refine lv_iload_n hx hb dX6_become_31 rfl (lv_at hl 0 rfl) ?_
                                                                        refine lv_iconst (v := 0) hx hb dX6_become_32 (by decide) ?_
                                                                        refine lz_astc hx hb hK hP hD hS 1 0 rfl rfl (lz_vp (x := 34) (n := 40) (by decide) (by decide)) dX6_become_33 (fun H locs hP hD hS => ?_)
                                                                        refine lv_iinc (v := 35) (lv' := [(3, .int 35), (0, .ref h0), (1, .int 1), (2, .int 0)]) hx hb dX6_become_34 hl (k := 0) rfl (by decide) (by decide) rfl (fun ls hl => ?_)
                                                                        refine lv_goto (tgt := 21) hx hb dX6_become_37 (by decide) ?_
                                                                        refine lv_iload_n hx hb dX6_become_21 rfl (lv_at hl 0 rfl) ?_
                                                                        refine lv_bipush (v := 40) hx hb dX6_become_22 (by decide) ?_
                                                                        refine lv_icmp_ge (tgt := 40) hx hb dX6_become_24 (by decide) (fun c3516 => ?_) (fun c3516 => ?_)
                                                                        · exact absurd c3516 (by decide)
                                                                        · refine lv_aload_n hx hb dX6_become_27 rfl (lv_at hl 1 rfl) ?_
                                                                          refine va_get (D := D) (ci := 6) (v := .ref h1) (C := RX6) (T := TX6) (N := 3) hx hb hts hin6 hown hK hP 0 rfl rfl 0 (by decide) (hts (.fieldLink RX6 9 "MissedPoints$Sheet" "numbers" "[I") (by decide +kernel)) (fun _ h9 => h9) rfl dX6_become_28 ?_
                                                                          refine lv_iload_n hx hb dX6_become_31 rfl (lv_at hl 0 rfl) ?_
                                                                          refine lv_iconst (v := 0) hx hb dX6_become_32 (by decide) ?_
                                                                          refine lz_astc hx hb hK hP hD hS 1 0 rfl rfl (lz_vp (x := 35) (n := 40) (by decide) (by decide)) dX6_become_33 (fun H locs hP hD hS => ?_)
                                                                          refine lv_iinc (v := 36) (lv' := [(3, .int 36), (0, .ref h0), (1, .int 1), (2, .int 0)]) hx hb dX6_become_34 hl (k := 0) rfl (by decide) (by decide) rfl (fun ls hl => ?_)
                                                                          refine lv_goto (tgt := 21) hx hb dX6_become_37 (by decide) ?_
                                                                          refine lv_iload_n hx hb dX6_become_21 rfl (lv_at hl 0 rfl) ?_
                                                                          refine lv_bipush (v := 40) hx hb dX6_become_22 (by decide) ?_
                                                                          refine lv_icmp_ge (tgt := 40) hx hb dX6_become_24 (by decide) (fun c3517 => ?_) (fun c3517 => ?_)
                                                                          · exact absurd c3517 (by decide)
                                                                          · refine lv_aload_n hx hb dX6_become_27 rfl (lv_at hl 1 rfl) ?_
                                                                            refine va_get (D := D) (ci := 6) (v := .ref h1) (C := RX6) (T := TX6) (N := 3) hx hb hts hin6 hown hK hP 0 rfl rfl 0 (by decide) (hts (.fieldLink RX6 9 "MissedPoints$Sheet" "numbers" "[I") (by decide +kernel)) (fun _ h9 => h9) rfl dX6_become_28 ?_
                                                                            refine lv_iload_n hx hb dX6_become_31 rfl (lv_at hl 0 rfl) ?_
                                                                            refine lv_iconst (v := 0) hx hb dX6_become_32 (by decide) ?_
                                                                            refine lz_astc hx hb hK hP hD hS 1 0 rfl rfl (lz_vp (x := 36) (n := 40) (by decide) (by decide)) dX6_become_33 (fun H locs hP hD hS => ?_)
                                                                            refine lv_iinc (v := 37) (lv' := [(3, .int 37), (0, .ref h0), (1, .int 1), (2, .int 0)]) hx hb dX6_become_34 hl (k := 0) rfl (by decide) (by decide) rfl (fun ls hl => ?_)
                                                                            refine lv_goto (tgt := 21) hx hb dX6_become_37 (by decide) ?_
                                                                            refine lv_iload_n hx hb dX6_become_21 rfl (lv_at hl 0 rfl) ?_
                                                                            refine lv_bipush (v := 40) hx hb dX6_become_22 (by decide) ?_
                                                                            refine lv_icmp_ge (tgt := 40) hx hb dX6_become_24 (by decide) (fun c3518 => ?_) (fun c3518 => ?_)
                                                                            · exact absurd c3518 (by decide)
                                                                            · refine lv_aload_n hx hb dX6_become_27 rfl (lv_at hl 1 rfl) ?_
                                                                              refine va_get (D := D) (ci := 6) (v := .ref h1) (C := RX6) (T := TX6) (N := 3) hx hb hts hin6 hown hK hP 0 rfl rfl 0 (by decide) (hts (.fieldLink RX6 9 "MissedPoints$Sheet" "numbers" "[I") (by decide +kernel)) (fun _ h9 => h9) rfl dX6_become_28 ?_
                                                                              refine lv_iload_n hx hb dX6_become_31 rfl (lv_at hl 0 rfl) ?_
                                                                              refine lv_iconst (v := 0) hx hb dX6_become_32 (by decide) ?_
                                                                              refine lz_astc hx hb hK hP hD hS 1 0 rfl rfl (lz_vp (x := 37) (n := 40) (by decide) (by decide)) dX6_become_33 (fun H locs hP hD hS => ?_)
                                                                              refine lv_iinc (v := 38) (lv' := [(3, .int 38), (0, .ref h0), (1, .int 1), (2, .int 0)]) hx hb dX6_become_34 hl (k := 0) rfl (by decide) (by decide) rfl (fun ls hl => ?_)
                                                                              refine lv_goto (tgt := 21) hx hb dX6_become_37 (by decide) ?_
                                                                              refine lv_iload_n hx hb dX6_become_21 rfl (lv_at hl 0 rfl) ?_
                                                                              refine lv_bipush (v := 40) hx hb dX6_become_22 (by decide) ?_
                                                                              refine lv_icmp_ge (tgt := 40) hx hb dX6_become_24 (by decide) (fun c3519 => ?_) (fun c3519 => ?_)
                                                                              · exact absurd c3519 (by decide)
                                                                              · refine lv_aload_n hx hb dX6_become_27 rfl (lv_at hl 1 rfl) ?_
                                                                                refine va_get (D := D) (ci := 6) (v := .ref h1) (C := RX6) (T := TX6) (N := 3) hx hb hts hin6 hown hK hP 0 rfl rfl 0 (by decide) (hts (.fieldLink RX6 9 "MissedPoints$Sheet" "numbers" "[I") (by decide +kernel)) (fun _ h9 => h9) rfl dX6_become_28 ?_
                                                                                refine lv_iload_n hx hb dX6_become_31 rfl (lv_at hl 0 rfl) ?_
                                                                                refine lv_iconst (v := 0) hx hb dX6_become_32 (by decide) ?_
                                                                                refine lz_astc hx hb hK hP hD hS 1 0 rfl rfl (lz_vp (x := 38) (n := 40) (by decide) (by decide)) dX6_become_33 (fun H locs hP hD hS => ?_)
                                                                                refine lv_iinc (v := 39) (lv' := [(3, .int 39), (0, .ref h0), (1, .int 1), (2, .int 0)]) hx hb dX6_become_34 hl (k := 0) rfl (by decide) (by decide) rfl (fun ls hl => ?_)
                                                                                refine lv_goto (tgt := 21) hx hb dX6_become_37 (by decide) ?_
                                                                                refine lv_iload_n hx hb dX6_become_21 rfl (lv_at hl 0 rfl) ?_
                                                                                refine lv_bipush (v := 40) hx hb dX6_become_22 (by decide) ?_
                                                                                refine lv_icmp_ge (tgt := 40) hx hb dX6_become_24 (by decide) (fun c3520 => ?_) (fun c3520 => ?_)
                                                                                · exact absurd c3520 (by decide)
                                                                                · refine lv_aload_n hx hb dX6_become_27 rfl (lv_at hl 1 rfl) ?_
                                                                                  refine va_get (D := D) (ci := 6) (v := .ref h1) (C := RX6) (T := TX6) (N := 3) hx hb hts hin6 hown hK hP 0 rfl rfl 0 (by decide) (hts (.fieldLink RX6 9 "MissedPoints$Sheet" "numbers" "[I") (by decide +kernel)) (fun _ h9 => h9) rfl dX6_become_28 ?_
                                                                                  refine lv_iload_n hx hb dX6_become_31 rfl (lv_at hl 0 rfl) ?_
                                                                                  refine lv_iconst (v := 0) hx hb dX6_become_32 (by decide) ?_
                                                                                  refine lz_astc hx hb hK hP hD hS 1 0 rfl rfl (lz_vp (x := 39) (n := 40) (by decide) (by decide)) dX6_become_33 (fun H locs hP hD hS => ?_)
                                                                                  refine lv_iinc (v := 40) (lv' := [(3, .int 40), (0, .ref h0), (1, .int 1), (2, .int 0)]) hx hb dX6_become_34 hl (k := 0) rfl (by decide) (by decide) rfl (fun ls hl => ?_)
                                                                                  refine lv_goto (tgt := 21) hx hb dX6_become_37 (by decide) ?_
                                                                                  refine lv_iload_n hx hb dX6_become_21 rfl (lv_at hl 0 rfl) ?_
                                                                                  refine lv_bipush (v := 40) hx hb dX6_become_22 (by decide) ?_
                                                                                  refine lv_icmp_ge (tgt := 40) hx hb dX6_become_24 (by decide) (fun c3521 => ?_) (fun c3521 => ?_)
                                                                                  · have hP9 := hP.sub (ws' := [(h0, .inr (6, [.ref h1, .int 1, .int 0])), (h1, .inl (cI, 40, .inl (fun _ => 0)))]) [0, 1] rfl
                                                                                    have hD9 := hD.sub (ws' := [(h0, .inr (6, [.ref h1, .int 1, .int 0])), (h1, .inl (cI, 40, .inl (fun _ => 0)))]) [0, 1] (by decide) rfl
                                                                                    subst hAe
                                                                                    exact W.vret hx hb hr (fun t ht hW => ⟨⟨(), rfl, trivial, by rw [ht]; exact hP9, hD9⟩, hS.F ht⟩) hS.2.2 dX6_become_40
                                                                                  · exact absurd c3521 (by decide)
set_option maxHeartbeats 4000000 in
set_option maxRecDepth 100000 in
theorem c_X9_writeTo_1 (l : Launch) (D : va_G) (cI cS : ClassId) (sz : Nat) (h0 h1 h2 h3 h4 h5 h6 h7 h8 : Nat) : Met l yX9_writeTo wsX9_writeTo ({ frames := 2, cells := 0, slots := 0, locals := 80 }) (PQ D cI cS [(h0, .inr (9, [.ref h2, .ref h3, .ref h4, .ref h5, .ref h6, .int 0])), (h1, .inr (6, [.ref h7, .int (-1), .int 0])), (h2, .inr (2, [.ref h8, .int 0, .int 0])), (h7, .inl (cI, 40, .inl (fun _ => 0)))] sz [.ref h0, .ref h1, .int 1]) (QV D [(h0, .inr (9, [.ref h2, .ref h3, .ref h4, .ref h5, .ref h6, .int 0])), (h1, .inr (6, [.ref h7, .int (-1), .int 0])), (h2, .inr (2, [.ref h8, .int 0, .int 0])), (h7, .inl (cI, 40, .inl (fun _ => 0)))] [(h0, .inr (9, [.ref h2, .ref h3, .ref h4, .ref h5, .ref h6, .int 0])), (h2, .inr (2, [.ref h8, .int 0, .int 0])), (h1, .inr (6, [.ref h7, .int 1, .int 0])), (h7, .inl (cI, 40, .inl (fun _ => 0)))] sz) 0 0 (va_A [(h0, .inr (9, [.ref h2, .ref h3, .ref h4, .ref h5, .ref h6, .int 0])), (h1, .inr (6, [.ref h7, .int (-1), .int 0])), (h2, .inr (2, [.ref h8, .int 0, .int 0])), (h7, .inl (cI, 40, .inl (fun _ => 0)))] sz) := by
  refine Met.ofW (cc := cX9_writeTo) (maxL := 4) (ret := none) (by decide) rfl ?_
  intro p e s m args below meth c s₁ B hml hv
  obtain ⟨rfl, hsz, hP, hKK, hD0⟩ := hv
  have hx := B.exec
  have hb := B.bytes
  have hr := B.returns
  have hts := atoms_spec (ws := wsX9_writeTo) B.pre
  have hown : s.vm.findClass RX9 = some m.cls := findClass_of_methodNamed B.named
  have hlocks := B.notSynchronized
  have hK := hKK.1
  have hN := hKK.2
  have hin2 : ∀ w ∈ wsX20, w ∈ wsX9_writeTo := by decide +kernel
  have hin9 : ∀ w ∈ wsX90, w ∈ wsX9_writeTo := by decide +kernel
  subst hsz
  have hD := hD0.self (sz := s.heap.size)
  obtain ⟨A, hAe⟩ : ∃ A, A = va_A [(h0, .inr (9, [.ref h2, .ref h3, .ref h4, .ref h5, .ref h6, .int 0])), (h1, .inr (6, [.ref h7, .int (-1), .int 0])), (h2, .inr (2, [.ref h8, .int 0, .int 0])), (h7, .inl (cI, 40, .inl (fun _ => 0)))] s.heap.size := ⟨_, rfl⟩
  rw [← hAe] at hD
  have hA : ∀ q : Nat, s.heap.size ≤ q → A q := fun q h => by rw [hAe]; exact Or.inr h
  have hS : va_S A s.heap s.heap [] := va_S.rf
  have hl := lv_entry ([.ref h0, .ref h1, .int 1]) (n := 4) (Nat.le_of_ble_eq_true rfl)
  rw [lg_entry_eq]
  generalize (lg_sl ([.ref h0, .ref h1, .int 1]) ++ List.replicate (4 - (lg_sl ([.ref h0, .ref h1, .int 1])).length) Slot.unset).toArray = ls at hl ⊢
  have hl : lv_has ls 4 [(0, .ref h0), (1, .ref h1), (2, .int 1)] := hl
  refine lv_aload_n hx hb dX9_writeTo_0 rfl (lv_at hl 1 rfl) ?_
  refine lv_iload_n hx hb dX9_writeTo_1 rfl (lv_at hl 2 rfl) ?_
  refine lv_aload_n hx hb dX9_writeTo_2 rfl (lv_at hl 0 rfl) ?_
  refine va_get (D := D) (ci := 9) (v := .ref h2) (C := RX9) (T := TX9) (N := 6) hx hb hts hin9 hown hK hP 0 rfl rfl 0 (by decide) (hts (.fieldLink RX9 21 "MissedPoints$Told" "net" "LMissedPoints$Net;") (by decide +kernel)) (fun _ h9 => h9) rfl dX9_writeTo_3 ?_
  refine va_getN (D := D) (ci := 2) (v := .int 0) (C := RX2) (T := TX2) (N := 3) hx hb hts hin2 hown hK hP 2 rfl rfl 1 (by decide) (va_Nw.use rfl hN.2.2.2.2.2.2.2.2.2.2.2.2.2.2.2.1) (fun _ h9 => h9) rfl dX9_writeTo_6 ?_
  have hPc := hP.sub (ws' := [(h1, .inr (6, [.ref h7, .int (-1), .int 0])), (h7, .inl (cI, 40, .inl (fun _ => 0)))]) [1, 3] rfl
  have hDc := hD.sub (ws' := [(h1, .inr (6, [.ref h7, .int (-1), .int 0])), (h7, .inl (cI, 40, .inl (fun _ => 0)))]) [1, 3] (by decide) rfl
  refine lz_qv (wr := [(h0, .inr (9, [.ref h2, .ref h3, .ref h4, .ref h5, .ref h6, .int 0])), (h2, .inr (2, [.ref h8, .int 0, .int 0]))]) (w1 := [(h1, .inr (6, [.ref h7, .int 1, .int 0])), (h7, .inl (cI, 40, .inl (fun _ => 0)))]) (As := [.int 1, .int 0]) (rest := []) ⟨hx, hb, hml, hown, hts⟩ (c_X6_become_1 l D cI cS _ h1 h7) hKK hP hD hS hA [1, 3] [0, 2] (by decide) rfl rfl (by decide) (by decide) hPc hDc (ci := 6) rfl rfl (cwV 2 hts gX9_writeTo_X6_become rfl rfl rfl (by decide +kernel) ⟨Nat.le_of_ble_eq_true rfl, Nat.le_of_ble_eq_true rfl⟩) rfl hl.1 rfl (Nat.le_of_ble_eq_true rfl) dX9_writeTo_9 ⟨Nat.le_of_ble_eq_true rfl, Nat.le_of_ble_eq_true rfl⟩ (fun H locs hP hD hS => ?_)
  have hP : va_P D cls [(h0, .inr (9, [.ref h2, .ref h3, .ref h4, .ref h5, .ref h6, .int 0])), (h2, .inr (2, [.ref h8, .int 0, .int 0])), (h1, .inr (6, [.ref h7, .int 1, .int 0])), (h7, .inl (cI, 40, .inl (fun _ => 0)))] H := hP
  have hD : va_D A [(h0, .inr (9, [.ref h2, .ref h3, .ref h4, .ref h5, .ref h6, .int 0])), (h2, .inr (2, [.ref h8, .int 0, .int 0])), (h1, .inr (6, [.ref h7, .int 1, .int 0])), (h7, .inl (cI, 40, .inl (fun _ => 0)))] := hD
  refine lv_iconst (v := 0) hx hb dX9_writeTo_12 (by decide) ?_
  refine lv_istore_n (lv' := [(3, .int 0), (0, .ref h0), (1, .ref h1), (2, .int 1)]) hx hb dX9_writeTo_13 rfl hl (by decide) rfl (fun ls hl => ?_)
  refine lv_iload_n hx hb dX9_writeTo_14 rfl (lv_at hl 0 rfl) ?_
  refine lv_aload_n hx hb dX9_writeTo_15 rfl (lv_at hl 1 rfl) ?_
  refine va_get (D := D) (ci := 9) (v := .ref h2) (C := RX9) (T := TX9) (N := 6) hx hb hts hin9 hown hK hP 0 rfl rfl 0 (by decide) (hts (.fieldLink RX9 21 "MissedPoints$Told" "net" "LMissedPoints$Net;") (by decide +kernel)) (fun _ h9 => h9) rfl dX9_writeTo_16 ?_
  refine va_getN (D := D) (ci := 2) (v := .int 0) (C := RX2) (T := TX2) (N := 3) hx hb hts hin2 hown hK hP 1 rfl rfl 1 (by decide) (va_Nw.use rfl hN.2.2.2.2.2.2.2.2.2.2.2.2.2.2.2.1) (fun _ h9 => h9) rfl dX9_writeTo_19 ?_
  refine lv_icmp_ge (tgt := 42) hx hb dX9_writeTo_22 (by decide) (fun c3525 => ?_) (fun c3525 => ?_)
  · have hP9 := hP.sub (ws' := [(h0, .inr (9, [.ref h2, .ref h3, .ref h4, .ref h5, .ref h6, .int 0])), (h2, .inr (2, [.ref h8, .int 0, .int 0])), (h1, .inr (6, [.ref h7, .int 1, .int 0])), (h7, .inl (cI, 40, .inl (fun _ => 0)))]) [0, 1, 2, 3] rfl
    have hD9 := hD.sub (ws' := [(h0, .inr (9, [.ref h2, .ref h3, .ref h4, .ref h5, .ref h6, .int 0])), (h2, .inr (2, [.ref h8, .int 0, .int 0])), (h1, .inr (6, [.ref h7, .int 1, .int 0])), (h7, .inl (cI, 40, .inl (fun _ => 0)))]) [0, 1, 2, 3] (by decide) rfl
    subst hAe
    exact W.vret hx hb hr (fun t ht hW => ⟨⟨(), rfl, trivial, by rw [ht]; exact hP9, hD9⟩, hS.F ht⟩) hS.2.2 dX9_writeTo_42
  · exact absurd c3525 (by decide)
set_option maxHeartbeats 4000000 in
set_option maxRecDepth 100000 in
theorem c_X11_paint_0 (l : Launch) (D : va_G) (cI cS : ClassId) (sz : Nat) (h0 h1 h2 h3 h4 h5 h6 h7 h8 h9 h10 h11 h12 h13 h14 h15 h16 h17 h25 h26 h27 h28 h29 h30 h31 h41 h42 h43 h44 : Nat) (x0 x1 : Int32) : Met l yX11_paint wsX11_paint ({ frames := 3, cells := 0, slots := 0, locals := 120 }) (PQ D cI cS [(h0, .inr (11, [.ref h1, .ref h2, .ref h3, .ref h4, .ref h5, .ref h6, .ref h7, .int 0, .int 0, .ref h8, .ref h9, .ref h10, .ref h11, .ref h12, .ref h13, .ref h14])), (h1, .inr (2, [.ref h15, .int 0, .int 0])), (h2, .inr (3, [.ref h1, .ref h16, .ref h17, .int 0])), (h11, .inl (cS, 4, .inr (.inr (.inr (.inr (fun k => [h25, h26, h27, h28][k]?)))))), (h12, .inr (9, [.ref h1, .ref h2, .ref h29, .ref h30, .ref h31, .int 0])), (h25, .inr (6, [.ref h41, .int (-1), .int 0])), (h26, .inr (6, [.ref h42, .int (-1), .int 0])), (h27, .inr (6, [.ref h43, .int (-1), .int 0])), (h28, .inr (6, [.ref h44, .int (-1), .int 0])), (h29, .inl (cI, 12, .inl (fun _ => 0))), (h41, .inl (cI, 40, .inl (fun _ => 0))), (h42, .inl (cI, 40, .inl (fun _ => 0))), (h43, .inl (cI, 40, .inl (fun _ => 0))), (h44, .inl (cI, 40, .inl (fun _ => 0)))] sz [.ref h0, .int x0, .int x1]) (QI D [(h0, .inr (11, [.ref h1, .ref h2, .ref h3, .ref h4, .ref h5, .ref h6, .ref h7, .int 0, .int 0, .ref h8, .ref h9, .ref h10, .ref h11, .ref h12, .ref h13, .ref h14])), (h1, .inr (2, [.ref h15, .int 0, .int 0])), (h2, .inr (3, [.ref h1, .ref h16, .ref h17, .int 0])), (h11, .inl (cS, 4, .inr (.inr (.inr (.inr (fun k => [h25, h26, h27, h28][k]?)))))), (h12, .inr (9, [.ref h1, .ref h2, .ref h29, .ref h30, .ref h31, .int 0])), (h25, .inr (6, [.ref h41, .int (-1), .int 0])), (h26, .inr (6, [.ref h42, .int (-1), .int 0])), (h27, .inr (6, [.ref h43, .int (-1), .int 0])), (h28, .inr (6, [.ref h44, .int (-1), .int 0])), (h29, .inl (cI, 12, .inl (fun _ => 0))), (h41, .inl (cI, 40, .inl (fun _ => 0))), (h42, .inl (cI, 40, .inl (fun _ => 0))), (h43, .inl (cI, 40, .inl (fun _ => 0))), (h44, .inl (cI, 40, .inl (fun _ => 0)))] [] sz (fun r => r = if x0 < 0 then ((-2) : Int32) else (if (4 : Int32) ≤ x0 then ((-2) : Int32) else (if x1 = 0 then (0 : Int32) else (if x1 = 1 then (0 : Int32) else ((-2) : Int32)))))) 0 0 (va_A [(h0, .inr (11, [.ref h1, .ref h2, .ref h3, .ref h4, .ref h5, .ref h6, .ref h7, .int 0, .int 0, .ref h8, .ref h9, .ref h10, .ref h11, .ref h12, .ref h13, .ref h14])), (h1, .inr (2, [.ref h15, .int 0, .int 0])), (h2, .inr (3, [.ref h1, .ref h16, .ref h17, .int 0])), (h11, .inl (cS, 4, .inr (.inr (.inr (.inr (fun k => [h25, h26, h27, h28][k]?)))))), (h12, .inr (9, [.ref h1, .ref h2, .ref h29, .ref h30, .ref h31, .int 0])), (h25, .inr (6, [.ref h41, .int (-1), .int 0])), (h26, .inr (6, [.ref h42, .int (-1), .int 0])), (h27, .inr (6, [.ref h43, .int (-1), .int 0])), (h28, .inr (6, [.ref h44, .int (-1), .int 0])), (h29, .inl (cI, 12, .inl (fun _ => 0))), (h41, .inl (cI, 40, .inl (fun _ => 0))), (h42, .inl (cI, 40, .inl (fun _ => 0))), (h43, .inl (cI, 40, .inl (fun _ => 0))), (h44, .inl (cI, 40, .inl (fun _ => 0)))] sz) := by
  refine Met.ofW (cc := cX11_paint) (maxL := 3) (ret := (some .int)) (by decide) rfl ?_
  intro p e s m args below meth c s₁ B hml hv
  obtain ⟨rfl, hsz, hP, hKK, hD0⟩ := hv
  have hx := B.exec
  have hb := B.bytes
  have hr := B.returns
  have hts := atoms_spec (ws := wsX11_paint) B.pre
  have hown : s.vm.findClass RX11 = some m.cls := findClass_of_methodNamed B.named
  have hlocks := B.notSynchronized
  have hK := hKK.1
  have hN := hKK.2
  have hin2 : ∀ w ∈ wsX20, w ∈ wsX11_paint := by decide +kernel
  have hin11 : ∀ w ∈ wsX110, w ∈ wsX11_paint := by decide +kernel
  subst hsz
  have hD := hD0.self (sz := s.heap.size)
  obtain ⟨A, hAe⟩ : ∃ A, A = va_A [(h0, .inr (11, [.ref h1, .ref h2, .ref h3, .ref h4, .ref h5, .ref h6, .ref h7, .int 0, .int 0, .ref h8, .ref h9, .ref h10, .ref h11, .ref h12, .ref h13, .ref h14])), (h1, .inr (2, [.ref h15, .int 0, .int 0])), (h2, .inr (3, [.ref h1, .ref h16, .ref h17, .int 0])), (h11, .inl (cS, 4, .inr (.inr (.inr (.inr (fun k => [h25, h26, h27, h28][k]?)))))), (h12, .inr (9, [.ref h1, .ref h2, .ref h29, .ref h30, .ref h31, .int 0])), (h25, .inr (6, [.ref h41, .int (-1), .int 0])), (h26, .inr (6, [.ref h42, .int (-1), .int 0])), (h27, .inr (6, [.ref h43, .int (-1), .int 0])), (h28, .inr (6, [.ref h44, .int (-1), .int 0])), (h29, .inl (cI, 12, .inl (fun _ => 0))), (h41, .inl (cI, 40, .inl (fun _ => 0))), (h42, .inl (cI, 40, .inl (fun _ => 0))), (h43, .inl (cI, 40, .inl (fun _ => 0))), (h44, .inl (cI, 40, .inl (fun _ => 0)))] s.heap.size := ⟨_, rfl⟩
  rw [← hAe] at hD
  have hA : ∀ q : Nat, s.heap.size ≤ q → A q := fun q h => by rw [hAe]; exact Or.inr h
  have hS : va_S A s.heap s.heap [] := va_S.rf
  have hl := lv_entry ([.ref h0, .int x0, .int x1]) (n := 3) (Nat.le_of_ble_eq_true rfl)
  rw [lg_entry_eq]
  generalize (lg_sl ([.ref h0, .int x0, .int x1]) ++ List.replicate (3 - (lg_sl ([.ref h0, .int x0, .int x1])).length) Slot.unset).toArray = ls at hl ⊢
  have hl : lv_has ls 3 [(0, .ref h0), (1, .int x0), (2, .int x1)] := hl
  refine lv_iload_n hx hb dX11_paint_0 rfl (lv_at hl 1 rfl) ?_
  have hPc := hP.sub (ws' := []) [] rfl
  refine lz_ss (As := [.int x0]) (rest := []) ⟨hx, hb, hml, hown, hts⟩ (c_X11_isSheet_0 l D cI cS x0) hKK hPc (va_cwS 1 hts gX11_paint_X11_isSheet rfl rfl rfl (by decide +kernel) ⟨Nat.le_of_ble_eq_true rfl, Nat.le_of_ble_eq_true rfl⟩) rfl hl.1 rfl (Nat.le_of_ble_eq_true rfl) dX11_paint_1 ⟨Nat.le_of_ble_eq_true rfl, Nat.le_of_ble_eq_true rfl⟩ (fun r3533 hw => ?_)
  by_cases k3534 : x0 < 0
  · rw [if_pos k3534] at hw
    subst hw
    refine lv_if_eq (tgt := 14) hx hb dX11_paint_4 (by decide) (fun c3535 => ?_) (fun c3535 => ?_)
    · refine lv_bipush (v := (-2)) hx hb dX11_paint_14 (by decide) ?_
      have hP9 := hP.sub (ws' := []) [] rfl
      have hD9 := hD.sub (ws' := []) [] (by decide) rfl
      subst hAe
      exact W.iret (v := (-2)) hx hb hr (fun t ht hW => ⟨⟨_, (), rfl, by rw [if_pos k3534], by rw [ht]; exact hP9, hD9⟩, hS.F ht⟩) hS.2.2 dX11_paint_16
    · exact absurd c3535 (by decide)
  · rw [if_neg k3534] at hw
    by_cases k3536 : (4 : Int32) ≤ x0
    · rw [if_pos k3536] at hw
      subst hw
      refine lv_if_eq (tgt := 14) hx hb dX11_paint_4 (by decide) (fun c3537 => ?_) (fun c3537 => ?_)
      · refine lv_bipush (v := (-2)) hx hb dX11_paint_14 (by decide) ?_
        have hP9 := hP.sub (ws' := []) [] rfl
        have hD9 := hD.sub (ws' := []) [] (by decide) rfl
        subst hAe
        exact W.iret (v := (-2)) hx hb hr (fun t ht hW => ⟨⟨_, (), rfl, by rw [if_neg k3534, if_pos k3536], by rw [ht]; exact hP9, hD9⟩, hS.F ht⟩) hS.2.2 dX11_paint_16
      · exact absurd c3537 (by decide)
    · rw [if_neg k3536] at hw
      subst hw
      refine lv_if_eq (tgt := 14) hx hb dX11_paint_4 (by decide) (fun c3538 => ?_) (fun c3538 => ?_)
      · exact absurd c3538 (by decide)
      · refine lv_iload_n hx hb dX11_paint_7 rfl (lv_at hl 2 rfl) ?_
        have hPc := hP.sub (ws' := []) [] rfl
        refine lz_ss (As := [.int x1]) (rest := []) ⟨hx, hb, hml, hown, hts⟩ (c_X11_isSort_0 l D cI cS x1) hKK hPc (va_cwS 1 hts gX11_paint_X11_isSort rfl rfl rfl (by decide +kernel) ⟨Nat.le_of_ble_eq_true rfl, Nat.le_of_ble_eq_true rfl⟩) rfl hl.1 rfl (Nat.le_of_ble_eq_true rfl) dX11_paint_8 ⟨Nat.le_of_ble_eq_true rfl, Nat.le_of_ble_eq_true rfl⟩ (fun r3539 hw => ?_)
        by_cases k3540 : x1 = 0
        · rw [if_pos k3540] at hw
          subst k3540
          subst hw
          refine lv_if_ne (tgt := 17) hx hb dX11_paint_11 (by decide) (fun c3541 => ?_) (fun c3541 => ?_)
          · refine lv_aload_n hx hb dX11_paint_17 rfl (lv_at hl 0 rfl) ?_
            refine va_get (D := D) (ci := 11) (v := .ref h12) (C := RX11) (T := TX11) (N := 16) hx hb hts hin11 hown hK hP 0 rfl rfl 13 (by decide) (hts (.fieldLink RX11 82 "MissedPoints" "told" "LMissedPoints$Told;") (by decide +kernel)) (fun _ h9 => h9) rfl dX11_paint_18 ?_
            have hPc := hP.sub (ws' := [(h12, .inr (9, [.ref h1, .ref h2, .ref h29, .ref h30, .ref h31, .int 0])), (h1, .inr (2, [.ref h15, .int 0, .int 0])), (h2, .inr (3, [.ref h1, .ref h16, .ref h17, .int 0])), (h29, .inl (cI, 12, .inl (fun _ => 0)))]) [4, 1, 2, 9] rfl
            have hDc := hD.sub (ws' := [(h12, .inr (9, [.ref h1, .ref h2, .ref h29, .ref h30, .ref h31, .int 0])), (h1, .inr (2, [.ref h15, .int 0, .int 0])), (h2, .inr (3, [.ref h1, .ref h16, .ref h17, .int 0])), (h29, .inl (cI, 12, .inl (fun _ => 0)))]) [4, 1, 2, 9] (by decide) rfl
            refine lz_qv (wr := [(h0, .inr (11, [.ref h1, .ref h2, .ref h3, .ref h4, .ref h5, .ref h6, .ref h7, .int 0, .int 0, .ref h8, .ref h9, .ref h10, .ref h11, .ref h12, .ref h13, .ref h14])), (h11, .inl (cS, 4, .inr (.inr (.inr (.inr (fun k => [h25, h26, h27, h28][k]?)))))), (h25, .inr (6, [.ref h41, .int (-1), .int 0])), (h26, .inr (6, [.ref h42, .int (-1), .int 0])), (h27, .inr (6, [.ref h43, .int (-1), .int 0])), (h28, .inr (6, [.ref h44, .int (-1), .int 0])), (h41, .inl (cI, 40, .inl (fun _ => 0))), (h42, .inl (cI, 40, .inl (fun _ => 0))), (h43, .inl (cI, 40, .inl (fun _ => 0))), (h44, .inl (cI, 40, .inl (fun _ => 0)))]) (w1 := [(h12, .inr (9, [.ref h1, .ref h2, .ref h29, .ref h30, .ref h31, .int 0])), (h2, .inr (3, [.ref h1, .ref h16, .ref h17, .int 0])), (h29, .inl (cI, 12, .inl (upd (upd (upd (upd (upd (upd (upd (upd (upd (upd (upd (upd (fun _ => 0) 0 (-1)) 1 (-1)) 2 (-1)) 3 (-1)) 4 (-1)) 5 (-1)) 6 (-1)) 7 (-1)) 8 (-1)) 9 (-1)) 10 (-1)) 11 (-1)))), (h1, .inr (2, [.ref h15, .int 0, .int 0]))]) (As := []) (rest := []) ⟨hx, hb, hml, hown, hts⟩ (c_X9_becomeFirst_0 l D cI cS _ h12 h1 h2 h29 h30 h31 h15 h16 h17) hKK hP hD hS hA [4, 1, 2, 9] [0, 3, 5, 6, 7, 8, 10, 11, 12, 13] (by decide) rfl rfl (by decide) (by decide) hPc hDc (ci := 9) rfl rfl (cwV 0 hts gX11_paint_X9_becomeFirst rfl rfl rfl (by decide +kernel) ⟨Nat.le_of_ble_eq_true rfl, Nat.le_of_ble_eq_true rfl⟩) rfl hl.1 rfl (Nat.le_of_ble_eq_true rfl) dX11_paint_21 ⟨Nat.le_of_ble_eq_true rfl, Nat.le_of_ble_eq_true rfl⟩ (fun H locs hP hD hS => ?_)
            have hP : va_P D cls [(h0, .inr (11, [.ref h1, .ref h2, .ref h3, .ref h4, .ref h5, .ref h6, .ref h7, .int 0, .int 0, .ref h8, .ref h9, .ref h10, .ref h11, .ref h12, .ref h13, .ref h14])), (h11, .inl (cS, 4, .inr (.inr (.inr (.inr (fun k => [h25, h26, h27, h28][k]?)))))), (h25, .inr (6, [.ref h41, .int (-1), .int 0])), (h26, .inr (6, [.ref h42, .int (-1), .int 0])), (h27, .inr (6, [.ref h43, .int (-1), .int 0])), (h28, .inr (6, [.ref h44, .int (-1), .int 0])), (h41, .inl (cI, 40, .inl (fun _ => 0))), (h42, .inl (cI, 40, .inl (fun _ => 0))), (h43, .inl (cI, 40, .inl (fun _ => 0))), (h44, .inl (cI, 40, .inl (fun _ => 0))), (h12, .inr (9, [.ref h1, .ref h2, .ref h29, .ref h30, .ref h31, .int 0])), (h2, .inr (3, [.ref h1, .ref h16, .ref h17, .int 0])), (h29, .inl (cI, 12, .inl (upd (upd (upd (upd (upd (upd (upd (upd (upd (upd (upd (upd (fun _ => 0) 0 (-1)) 1 (-1)) 2 (-1)) 3 (-1)) 4 (-1)) 5 (-1)) 6 (-1)) 7 (-1)) 8 (-1)) 9 (-1)) 10 (-1)) 11 (-1)))), (h1, .inr (2, [.ref h15, .int 0, .int 0]))] H := hP
            have hD : va_D A [(h0, .inr (11, [.ref h1, .ref h2, .ref h3, .ref h4, .ref h5, .ref h6, .ref h7, .int 0, .int 0, .ref h8, .ref h9, .ref h10, .ref h11, .ref h12, .ref h13, .ref h14])), (h11, .inl (cS, 4, .inr (.inr (.inr (.inr (fun k => [h25, h26, h27, h28][k]?)))))), (h25, .inr (6, [.ref h41, .int (-1), .int 0])), (h26, .inr (6, [.ref h42, .int (-1), .int 0])), (h27, .inr (6, [.ref h43, .int (-1), .int 0])), (h28, .inr (6, [.ref h44, .int (-1), .int 0])), (h41, .inl (cI, 40, .inl (fun _ => 0))), (h42, .inl (cI, 40, .inl (fun _ => 0))), (h43, .inl (cI, 40, .inl (fun _ => 0))), (h44, .inl (cI, 40, .inl (fun _ => 0))), (h12, .inr (9, [.ref h1, .ref h2, .ref h29, .ref h30, .ref h31, .int 0])), (h2, .inr (3, [.ref h1, .ref h16, .ref h17, .int 0])), (h29, .inl (cI, 12, .inl (upd (upd (upd (upd (upd (upd (upd (upd (upd (upd (upd (upd (fun _ => 0) 0 (-1)) 1 (-1)) 2 (-1)) 3 (-1)) 4 (-1)) 5 (-1)) 6 (-1)) 7 (-1)) 8 (-1)) 9 (-1)) 10 (-1)) 11 (-1)))), (h1, .inr (2, [.ref h15, .int 0, .int 0]))] := hD
            refine lv_aload_n hx hb dX11_paint_24 rfl (lv_at hl 0 rfl) ?_
            refine va_get (D := D) (ci := 11) (v := .ref h12) (C := RX11) (T := TX11) (N := 16) hx hb hts hin11 hown hK hP 0 rfl rfl 13 (by decide) (hts (.fieldLink RX11 82 "MissedPoints" "told" "LMissedPoints$Told;") (by decide +kernel)) (fun _ h9 => h9) rfl dX11_paint_25 ?_
            refine lv_aload_n hx hb dX11_paint_28 rfl (lv_at hl 0 rfl) ?_
            refine va_get (D := D) (ci := 11) (v := .ref h11) (C := RX11) (T := TX11) (N := 16) hx hb hts hin11 hown hK hP 0 rfl rfl 12 (by decide) (hts (.fieldLink RX11 75 "MissedPoints" "sheets" "[LMissedPoints$Sheet;") (by decide +kernel)) (fun _ h9 => h9) rfl dX11_paint_29 ?_
            refine lv_iload_n hx hb dX11_paint_32 rfl (lv_at hl 1 rfl) ?_
            by_cases k3543 : x0 = 0
            · subst k3543
              refine va_aldq hx hb hK hP 1 1 rfl rfl (lz_vp (x := 0) (n := 4) (by decide) (by decide)) dX11_paint_33 ?_
              refine lz_va (y := .ref h25) rfl ?_
              refine lv_iload_n hx hb dX11_paint_34 rfl (lv_at hl 2 rfl) ?_
              have hPc := hP.sub (ws' := [(h12, .inr (9, [.ref h1, .ref h2, .ref h29, .ref h30, .ref h31, .int 0])), (h25, .inr (6, [.ref h41, .int (-1), .int 0])), (h1, .inr (2, [.ref h15, .int 0, .int 0])), (h41, .inl (cI, 40, .inl (fun _ => 0)))]) [10, 2, 13, 6] rfl
              have hDc := hD.sub (ws' := [(h12, .inr (9, [.ref h1, .ref h2, .ref h29, .ref h30, .ref h31, .int 0])), (h25, .inr (6, [.ref h41, .int (-1), .int 0])), (h1, .inr (2, [.ref h15, .int 0, .int 0])), (h41, .inl (cI, 40, .inl (fun _ => 0)))]) [10, 2, 13, 6] (by decide) rfl
              refine lz_qv (wr := [(h0, .inr (11, [.ref h1, .ref h2, .ref h3, .ref h4, .ref h5, .ref h6, .ref h7, .int 0, .int 0, .ref h8, .ref h9, .ref h10, .ref h11, .ref h12, .ref h13, .ref h14])), (h11, .inl (cS, 4, .inr (.inr (.inr (.inr (fun k => [h25, h26, h27, h28][k]?)))))), (h26, .inr (6, [.ref h42, .int (-1), .int 0])), (h27, .inr (6, [.ref h43, .int (-1), .int 0])), (h28, .inr (6, [.ref h44, .int (-1), .int 0])), (h42, .inl (cI, 40, .inl (fun _ => 0))), (h43, .inl (cI, 40, .inl (fun _ => 0))), (h44, .inl (cI, 40, .inl (fun _ => 0))), (h2, .inr (3, [.ref h1, .ref h16, .ref h17, .int 0])), (h29, .inl (cI, 12, .inl (upd (upd (upd (upd (upd (upd (upd (upd (upd (upd (upd (upd (fun _ => 0) 0 (-1)) 1 (-1)) 2 (-1)) 3 (-1)) 4 (-1)) 5 (-1)) 6 (-1)) 7 (-1)) 8 (-1)) 9 (-1)) 10 (-1)) 11 (-1))))]) (w1 := [(h12, .inr (9, [.ref h1, .ref h2, .ref h29, .ref h30, .ref h31, .int 0])), (h1, .inr (2, [.ref h15, .int 0, .int 0])), (h25, .inr (6, [.ref h41, .int 0, .int 0])), (h41, .inl (cI, 40, .inl (fun _ => 0)))]) (As := [.ref h25, .int 0]) (rest := []) ⟨hx, hb, hml, hown, hts⟩ (c_X9_writeTo_0 l D cI cS _ h12 h25 h1 h2 h29 h30 h31 h41 h15) hKK hP hD hS hA [10, 2, 13, 6] [0, 1, 3, 4, 5, 7, 8, 9, 11, 12] (by decide) rfl rfl (by decide) (by decide) hPc hDc (ci := 9) rfl rfl (cwV 2 hts gX11_paint_X9_writeTo rfl rfl rfl (by decide +kernel) ⟨Nat.le_of_ble_eq_true rfl, Nat.le_of_ble_eq_true rfl⟩) rfl hl.1 rfl (Nat.le_of_ble_eq_true rfl) dX11_paint_35 ⟨Nat.le_of_ble_eq_true rfl, Nat.le_of_ble_eq_true rfl⟩ (fun H locs hP hD hS => ?_)
              have hP : va_P D cls [(h0, .inr (11, [.ref h1, .ref h2, .ref h3, .ref h4, .ref h5, .ref h6, .ref h7, .int 0, .int 0, .ref h8, .ref h9, .ref h10, .ref h11, .ref h12, .ref h13, .ref h14])), (h11, .inl (cS, 4, .inr (.inr (.inr (.inr (fun k => [h25, h26, h27, h28][k]?)))))), (h26, .inr (6, [.ref h42, .int (-1), .int 0])), (h27, .inr (6, [.ref h43, .int (-1), .int 0])), (h28, .inr (6, [.ref h44, .int (-1), .int 0])), (h42, .inl (cI, 40, .inl (fun _ => 0))), (h43, .inl (cI, 40, .inl (fun _ => 0))), (h44, .inl (cI, 40, .inl (fun _ => 0))), (h2, .inr (3, [.ref h1, .ref h16, .ref h17, .int 0])), (h29, .inl (cI, 12, .inl (upd (upd (upd (upd (upd (upd (upd (upd (upd (upd (upd (upd (fun _ => 0) 0 (-1)) 1 (-1)) 2 (-1)) 3 (-1)) 4 (-1)) 5 (-1)) 6 (-1)) 7 (-1)) 8 (-1)) 9 (-1)) 10 (-1)) 11 (-1)))), (h12, .inr (9, [.ref h1, .ref h2, .ref h29, .ref h30, .ref h31, .int 0])), (h1, .inr (2, [.ref h15, .int 0, .int 0])), (h25, .inr (6, [.ref h41, .int 0, .int 0])), (h41, .inl (cI, 40, .inl (fun _ => 0)))] H := hP
              have hD : va_D A [(h0, .inr (11, [.ref h1, .ref h2, .ref h3, .ref h4, .ref h5, .ref h6, .ref h7, .int 0, .int 0, .ref h8, .ref h9, .ref h10, .ref h11, .ref h12, .ref h13, .ref h14])), (h11, .inl (cS, 4, .inr (.inr (.inr (.inr (fun k => [h25, h26, h27, h28][k]?)))))), (h26, .inr (6, [.ref h42, .int (-1), .int 0])), (h27, .inr (6, [.ref h43, .int (-1), .int 0])), (h28, .inr (6, [.ref h44, .int (-1), .int 0])), (h42, .inl (cI, 40, .inl (fun _ => 0))), (h43, .inl (cI, 40, .inl (fun _ => 0))), (h44, .inl (cI, 40, .inl (fun _ => 0))), (h2, .inr (3, [.ref h1, .ref h16, .ref h17, .int 0])), (h29, .inl (cI, 12, .inl (upd (upd (upd (upd (upd (upd (upd (upd (upd (upd (upd (upd (fun _ => 0) 0 (-1)) 1 (-1)) 2 (-1)) 3 (-1)) 4 (-1)) 5 (-1)) 6 (-1)) 7 (-1)) 8 (-1)) 9 (-1)) 10 (-1)) 11 (-1)))), (h12, .inr (9, [.ref h1, .ref h2, .ref h29, .ref h30, .ref h31, .int 0])), (h1, .inr (2, [.ref h15, .int 0, .int 0])), (h25, .inr (6, [.ref h41, .int 0, .int 0])), (h41, .inl (cI, 40, .inl (fun _ => 0)))] := hD
              refine lv_aload_n hx hb dX11_paint_38 rfl (lv_at hl 0 rfl) ?_
              refine va_get (D := D) (ci := 11) (v := .ref h1) (C := RX11) (T := TX11) (N := 16) hx hb hts hin11 hown hK hP 0 rfl rfl 0 (by decide) (hts (.fieldLink RX11 12 "MissedPoints" "net" "LMissedPoints$Net;") (by decide +kernel)) (fun _ h9 => h9) rfl dX11_paint_39 ?_
              refine va_getN (D := D) (ci := 2) (v := .int 0) (C := RX2) (T := TX2) (N := 3) hx hb hts hin2 hown hK hP 11 rfl rfl 1 (by decide) (va_Nw.use rfl hN.2.2.2.2.2.2.2.2.2.1) (fun _ h9 => h9) rfl dX11_paint_42 ?_
              have hP9 := hP.sub (ws' := []) [] rfl
              have hD9 := hD.sub (ws' := []) [] (by decide) rfl
              subst hAe
              exact W.iret (v := 0) hx hb hr (fun t ht hW => ⟨⟨_, (), rfl, by rw [if_neg k3534, if_neg k3536, if_pos rfl], by rw [ht]; exact hP9, hD9⟩, hS.F ht⟩) hS.2.2 dX11_paint_45
            · by_cases k3545 : x0 = 1
              · subst k3545
                refine va_aldq hx hb hK hP 1 1 rfl rfl (lz_vp (x := 1) (n := 4) (by decide) (by decide)) dX11_paint_33 ?_
                refine lz_va (y := .ref h26) rfl ?_
                refine lv_iload_n hx hb dX11_paint_34 rfl (lv_at hl 2 rfl) ?_
                have hPc := hP.sub (ws' := [(h12, .inr (9, [.ref h1, .ref h2, .ref h29, .ref h30, .ref h31, .int 0])), (h26, .inr (6, [.ref h42, .int (-1), .int 0])), (h1, .inr (2, [.ref h15, .int 0, .int 0])), (h42, .inl (cI, 40, .inl (fun _ => 0)))]) [10, 3, 13, 7] rfl
                have hDc := hD.sub (ws' := [(h12, .inr (9, [.ref h1, .ref h2, .ref h29, .ref h30, .ref h31, .int 0])), (h26, .inr (6, [.ref h42, .int (-1), .int 0])), (h1, .inr (2, [.ref h15, .int 0, .int 0])), (h42, .inl (cI, 40, .inl (fun _ => 0)))]) [10, 3, 13, 7] (by decide) rfl
                refine lz_qv (wr := [(h0, .inr (11, [.ref h1, .ref h2, .ref h3, .ref h4, .ref h5, .ref h6, .ref h7, .int 0, .int 0, .ref h8, .ref h9, .ref h10, .ref h11, .ref h12, .ref h13, .ref h14])), (h11, .inl (cS, 4, .inr (.inr (.inr (.inr (fun k => [h25, h26, h27, h28][k]?)))))), (h25, .inr (6, [.ref h41, .int (-1), .int 0])), (h27, .inr (6, [.ref h43, .int (-1), .int 0])), (h28, .inr (6, [.ref h44, .int (-1), .int 0])), (h41, .inl (cI, 40, .inl (fun _ => 0))), (h43, .inl (cI, 40, .inl (fun _ => 0))), (h44, .inl (cI, 40, .inl (fun _ => 0))), (h2, .inr (3, [.ref h1, .ref h16, .ref h17, .int 0])), (h29, .inl (cI, 12, .inl (upd (upd (upd (upd (upd (upd (upd (upd (upd (upd (upd (upd (fun _ => 0) 0 (-1)) 1 (-1)) 2 (-1)) 3 (-1)) 4 (-1)) 5 (-1)) 6 (-1)) 7 (-1)) 8 (-1)) 9 (-1)) 10 (-1)) 11 (-1))))]) (w1 := [(h12, .inr (9, [.ref h1, .ref h2, .ref h29, .ref h30, .ref h31, .int 0])), (h1, .inr (2, [.ref h15, .int 0, .int 0])), (h26, .inr (6, [.ref h42, .int 0, .int 0])), (h42, .inl (cI, 40, .inl (fun _ => 0)))]) (As := [.ref h26, .int 0]) (rest := []) ⟨hx, hb, hml, hown, hts⟩ (c_X9_writeTo_0 l D cI cS _ h12 h26 h1 h2 h29 h30 h31 h42 h15) hKK hP hD hS hA [10, 3, 13, 7] [0, 1, 2, 4, 5, 6, 8, 9, 11, 12] (by decide) rfl rfl (by decide) (by decide) hPc hDc (ci := 9) rfl rfl (cwV 2 hts gX11_paint_X9_writeTo rfl rfl rfl (by decide +kernel) ⟨Nat.le_of_ble_eq_true rfl, Nat.le_of_ble_eq_true rfl⟩) rfl hl.1 rfl (Nat.le_of_ble_eq_true rfl) dX11_paint_35 ⟨Nat.le_of_ble_eq_true rfl, Nat.le_of_ble_eq_true rfl⟩ (fun H locs hP hD hS => ?_)
                have hP : va_P D cls [(h0, .inr (11, [.ref h1, .ref h2, .ref h3, .ref h4, .ref h5, .ref h6, .ref h7, .int 0, .int 0, .ref h8, .ref h9, .ref h10, .ref h11, .ref h12, .ref h13, .ref h14])), (h11, .inl (cS, 4, .inr (.inr (.inr (.inr (fun k => [h25, h26, h27, h28][k]?)))))), (h25, .inr (6, [.ref h41, .int (-1), .int 0])), (h27, .inr (6, [.ref h43, .int (-1), .int 0])), (h28, .inr (6, [.ref h44, .int (-1), .int 0])), (h41, .inl (cI, 40, .inl (fun _ => 0))), (h43, .inl (cI, 40, .inl (fun _ => 0))), (h44, .inl (cI, 40, .inl (fun _ => 0))), (h2, .inr (3, [.ref h1, .ref h16, .ref h17, .int 0])), (h29, .inl (cI, 12, .inl (upd (upd (upd (upd (upd (upd (upd (upd (upd (upd (upd (upd (fun _ => 0) 0 (-1)) 1 (-1)) 2 (-1)) 3 (-1)) 4 (-1)) 5 (-1)) 6 (-1)) 7 (-1)) 8 (-1)) 9 (-1)) 10 (-1)) 11 (-1)))), (h12, .inr (9, [.ref h1, .ref h2, .ref h29, .ref h30, .ref h31, .int 0])), (h1, .inr (2, [.ref h15, .int 0, .int 0])), (h26, .inr (6, [.ref h42, .int 0, .int 0])), (h42, .inl (cI, 40, .inl (fun _ => 0)))] H := hP
                have hD : va_D A [(h0, .inr (11, [.ref h1, .ref h2, .ref h3, .ref h4, .ref h5, .ref h6, .ref h7, .int 0, .int 0, .ref h8, .ref h9, .ref h10, .ref h11, .ref h12, .ref h13, .ref h14])), (h11, .inl (cS, 4, .inr (.inr (.inr (.inr (fun k => [h25, h26, h27, h28][k]?)))))), (h25, .inr (6, [.ref h41, .int (-1), .int 0])), (h27, .inr (6, [.ref h43, .int (-1), .int 0])), (h28, .inr (6, [.ref h44, .int (-1), .int 0])), (h41, .inl (cI, 40, .inl (fun _ => 0))), (h43, .inl (cI, 40, .inl (fun _ => 0))), (h44, .inl (cI, 40, .inl (fun _ => 0))), (h2, .inr (3, [.ref h1, .ref h16, .ref h17, .int 0])), (h29, .inl (cI, 12, .inl (upd (upd (upd (upd (upd (upd (upd (upd (upd (upd (upd (upd (fun _ => 0) 0 (-1)) 1 (-1)) 2 (-1)) 3 (-1)) 4 (-1)) 5 (-1)) 6 (-1)) 7 (-1)) 8 (-1)) 9 (-1)) 10 (-1)) 11 (-1)))), (h12, .inr (9, [.ref h1, .ref h2, .ref h29, .ref h30, .ref h31, .int 0])), (h1, .inr (2, [.ref h15, .int 0, .int 0])), (h26, .inr (6, [.ref h42, .int 0, .int 0])), (h42, .inl (cI, 40, .inl (fun _ => 0)))] := hD
                refine lv_aload_n hx hb dX11_paint_38 rfl (lv_at hl 0 rfl) ?_
                refine va_get (D := D) (ci := 11) (v := .ref h1) (C := RX11) (T := TX11) (N := 16) hx hb hts hin11 hown hK hP 0 rfl rfl 0 (by decide) (hts (.fieldLink RX11 12 "MissedPoints" "net" "LMissedPoints$Net;") (by decide +kernel)) (fun _ h9 => h9) rfl dX11_paint_39 ?_
                refine va_getN (D := D) (ci := 2) (v := .int 0) (C := RX2) (T := TX2) (N := 3) hx hb hts hin2 hown hK hP 11 rfl rfl 1 (by decide) (va_Nw.use rfl hN.2.2.2.2.2.2.2.2.2.1) (fun _ h9 => h9) rfl dX11_paint_42 ?_
                have hP9 := hP.sub (ws' := []) [] rfl
                have hD9 := hD.sub (ws' := []) [] (by decide) rfl
                subst hAe
                exact W.iret (v := 0) hx hb hr (fun t ht hW => ⟨⟨_, (), rfl, by rw [if_neg k3534, if_neg k3536, if_pos rfl], by rw [ht]; exact hP9, hD9⟩, hS.F ht⟩) hS.2.2 dX11_paint_45
              · by_cases k3547 : x0 = 2
                · subst k3547
                  refine va_aldq hx hb hK hP 1 1 rfl rfl (lz_vp (x := 2) (n := 4) (by decide) (by decide)) dX11_paint_33 ?_
                  refine lz_va (y := .ref h27) rfl ?_
                  refine lv_iload_n hx hb dX11_paint_34 rfl (lv_at hl 2 rfl) ?_
                  have hPc := hP.sub (ws' := [(h12, .inr (9, [.ref h1, .ref h2, .ref h29, .ref h30, .ref h31, .int 0])), (h27, .inr (6, [.ref h43, .int (-1), .int 0])), (h1, .inr (2, [.ref h15, .int 0, .int 0])), (h43, .inl (cI, 40, .inl (fun _ => 0)))]) [10, 4, 13, 8] rfl
                  have hDc := hD.sub (ws' := [(h12, .inr (9, [.ref h1, .ref h2, .ref h29, .ref h30, .ref h31, .int 0])), (h27, .inr (6, [.ref h43, .int (-1), .int 0])), (h1, .inr (2, [.ref h15, .int 0, .int 0])), (h43, .inl (cI, 40, .inl (fun _ => 0)))]) [10, 4, 13, 8] (by decide) rfl
                  refine lz_qv (wr := [(h0, .inr (11, [.ref h1, .ref h2, .ref h3, .ref h4, .ref h5, .ref h6, .ref h7, .int 0, .int 0, .ref h8, .ref h9, .ref h10, .ref h11, .ref h12, .ref h13, .ref h14])), (h11, .inl (cS, 4, .inr (.inr (.inr (.inr (fun k => [h25, h26, h27, h28][k]?)))))), (h25, .inr (6, [.ref h41, .int (-1), .int 0])), (h26, .inr (6, [.ref h42, .int (-1), .int 0])), (h28, .inr (6, [.ref h44, .int (-1), .int 0])), (h41, .inl (cI, 40, .inl (fun _ => 0))), (h42, .inl (cI, 40, .inl (fun _ => 0))), (h44, .inl (cI, 40, .inl (fun _ => 0))), (h2, .inr (3, [.ref h1, .ref h16, .ref h17, .int 0])), (h29, .inl (cI, 12, .inl (upd (upd (upd (upd (upd (upd (upd (upd (upd (upd (upd (upd (fun _ => 0) 0 (-1)) 1 (-1)) 2 (-1)) 3 (-1)) 4 (-1)) 5 (-1)) 6 (-1)) 7 (-1)) 8 (-1)) 9 (-1)) 10 (-1)) 11 (-1))))]) (w1 := [(h12, .inr (9, [.ref h1, .ref h2, .ref h29, .ref h30, .ref h31, .int 0])), (h1, .inr (2, [.ref h15, .int 0, .int 0])), (h27, .inr (6, [.ref h43, .int 0, .int 0])), (h43, .inl (cI, 40, .inl (fun _ => 0)))]) (As := [.ref h27, .int 0]) (rest := []) ⟨hx, hb, hml, hown, hts⟩ (c_X9_writeTo_0 l D cI cS _ h12 h27 h1 h2 h29 h30 h31 h43 h15) hKK hP hD hS hA [10, 4, 13, 8] [0, 1, 2, 3, 5, 6, 7, 9, 11, 12] (by decide) rfl rfl (by decide) (by decide) hPc hDc (ci := 9) rfl rfl (cwV 2 hts gX11_paint_X9_writeTo rfl rfl rfl (by decide +kernel) ⟨Nat.le_of_ble_eq_true rfl, Nat.le_of_ble_eq_true rfl⟩) rfl hl.1 rfl (Nat.le_of_ble_eq_true rfl) dX11_paint_35 ⟨Nat.le_of_ble_eq_true rfl, Nat.le_of_ble_eq_true rfl⟩ (fun H locs hP hD hS => ?_)
                  have hP : va_P D cls [(h0, .inr (11, [.ref h1, .ref h2, .ref h3, .ref h4, .ref h5, .ref h6, .ref h7, .int 0, .int 0, .ref h8, .ref h9, .ref h10, .ref h11, .ref h12, .ref h13, .ref h14])), (h11, .inl (cS, 4, .inr (.inr (.inr (.inr (fun k => [h25, h26, h27, h28][k]?)))))), (h25, .inr (6, [.ref h41, .int (-1), .int 0])), (h26, .inr (6, [.ref h42, .int (-1), .int 0])), (h28, .inr (6, [.ref h44, .int (-1), .int 0])), (h41, .inl (cI, 40, .inl (fun _ => 0))), (h42, .inl (cI, 40, .inl (fun _ => 0))), (h44, .inl (cI, 40, .inl (fun _ => 0))), (h2, .inr (3, [.ref h1, .ref h16, .ref h17, .int 0])), (h29, .inl (cI, 12, .inl (upd (upd (upd (upd (upd (upd (upd (upd (upd (upd (upd (upd (fun _ => 0) 0 (-1)) 1 (-1)) 2 (-1)) 3 (-1)) 4 (-1)) 5 (-1)) 6 (-1)) 7 (-1)) 8 (-1)) 9 (-1)) 10 (-1)) 11 (-1)))), (h12, .inr (9, [.ref h1, .ref h2, .ref h29, .ref h30, .ref h31, .int 0])), (h1, .inr (2, [.ref h15, .int 0, .int 0])), (h27, .inr (6, [.ref h43, .int 0, .int 0])), (h43, .inl (cI, 40, .inl (fun _ => 0)))] H := hP
                  have hD : va_D A [(h0, .inr (11, [.ref h1, .ref h2, .ref h3, .ref h4, .ref h5, .ref h6, .ref h7, .int 0, .int 0, .ref h8, .ref h9, .ref h10, .ref h11, .ref h12, .ref h13, .ref h14])), (h11, .inl (cS, 4, .inr (.inr (.inr (.inr (fun k => [h25, h26, h27, h28][k]?)))))), (h25, .inr (6, [.ref h41, .int (-1), .int 0])), (h26, .inr (6, [.ref h42, .int (-1), .int 0])), (h28, .inr (6, [.ref h44, .int (-1), .int 0])), (h41, .inl (cI, 40, .inl (fun _ => 0))), (h42, .inl (cI, 40, .inl (fun _ => 0))), (h44, .inl (cI, 40, .inl (fun _ => 0))), (h2, .inr (3, [.ref h1, .ref h16, .ref h17, .int 0])), (h29, .inl (cI, 12, .inl (upd (upd (upd (upd (upd (upd (upd (upd (upd (upd (upd (upd (fun _ => 0) 0 (-1)) 1 (-1)) 2 (-1)) 3 (-1)) 4 (-1)) 5 (-1)) 6 (-1)) 7 (-1)) 8 (-1)) 9 (-1)) 10 (-1)) 11 (-1)))), (h12, .inr (9, [.ref h1, .ref h2, .ref h29, .ref h30, .ref h31, .int 0])), (h1, .inr (2, [.ref h15, .int 0, .int 0])), (h27, .inr (6, [.ref h43, .int 0, .int 0])), (h43, .inl (cI, 40, .inl (fun _ => 0)))] := hD
                  refine lv_aload_n hx hb dX11_paint_38 rfl (lv_at hl 0 rfl) ?_
                  refine va_get (D := D) (ci := 11) (v := .ref h1) (C := RX11) (T := TX11) (N := 16) hx hb hts hin11 hown hK hP 0 rfl rfl 0 (by decide) (hts (.fieldLink RX11 12 "MissedPoints" "net" "LMissedPoints$Net;") (by decide +kernel)) (fun _ h9 => h9) rfl dX11_paint_39 ?_
                  refine va_getN (D := D) (ci := 2) (v := .int 0) (C := RX2) (T := TX2) (N := 3) hx hb hts hin2 hown hK hP 11 rfl rfl 1 (by decide) (va_Nw.use rfl hN.2.2.2.2.2.2.2.2.2.1) (fun _ h9 => h9) rfl dX11_paint_42 ?_
                  have hP9 := hP.sub (ws' := []) [] rfl
                  have hD9 := hD.sub (ws' := []) [] (by decide) rfl
                  subst hAe
                  exact W.iret (v := 0) hx hb hr (fun t ht hW => ⟨⟨_, (), rfl, by rw [if_neg k3534, if_neg k3536, if_pos rfl], by rw [ht]; exact hP9, hD9⟩, hS.F ht⟩) hS.2.2 dX11_paint_45
                · obtain rfl : x0 = 3 := by have zf1 := mt (lz_lt x0 (0 : Int32)).mpr k3534; have zf2 := mt (lz_le (4 : Int32) x0).mpr k3536; have zf3 := mt (lz_eq x0 (0 : Int32)).mpr k3543; have zf4 := mt (lz_eq x0 (1 : Int32)).mpr k3545; have zf5 := mt (lz_eq x0 (2 : Int32)).mpr k3547; have zn0 : (0 : Int32).toInt = 0 := (by decide); have zn1 : (1 : Int32).toInt = 1 := (by decide); have zn2 : (2 : Int32).toInt = 2 := (by decide); have zn3 : (3 : Int32).toInt = 3 := (by decide); have zn4 : (4 : Int32).toInt = 4 := (by decide); rw [lz_eq]; omega
                  refine va_aldq hx hb hK hP 1 1 rfl rfl (lz_vp (x := 3) (n := 4) (by decide) (by decide)) dX11_paint_33 ?_
                  refine lz_va (y := .ref h28) rfl ?_
                  refine lv_iload_n hx hb dX11_paint_34 rfl (lv_at hl 2 rfl) ?_
                  have hPc := hP.sub (ws' := [(h12, .inr (9, [.ref h1, .ref h2, .ref h29, .ref h30, .ref h31, .int 0])), (h28, .inr (6, [.ref h44, .int (-1), .int 0])), (h1, .inr (2, [.ref h15, .int 0, .int 0])), (h44, .inl (cI, 40, .inl (fun _ => 0)))]) [10, 5, 13, 9] rfl
                  have hDc := hD.sub (ws' := [(h12, .inr (9, [.ref h1, .ref h2, .ref h29, .ref h30, .ref h31, .int 0])), (h28, .inr (6, [.ref h44, .int (-1), .int 0])), (h1, .inr (2, [.ref h15, .int 0, .int 0])), (h44, .inl (cI, 40, .inl (fun _ => 0)))]) [10, 5, 13, 9] (by decide) rfl
                  refine lz_qv (wr := [(h0, .inr (11, [.ref h1, .ref h2, .ref h3, .ref h4, .ref h5, .ref h6, .ref h7, .int 0, .int 0, .ref h8, .ref h9, .ref h10, .ref h11, .ref h12, .ref h13, .ref h14])), (h11, .inl (cS, 4, .inr (.inr (.inr (.inr (fun k => [h25, h26, h27, h28][k]?)))))), (h25, .inr (6, [.ref h41, .int (-1), .int 0])), (h26, .inr (6, [.ref h42, .int (-1), .int 0])), (h27, .inr (6, [.ref h43, .int (-1), .int 0])), (h41, .inl (cI, 40, .inl (fun _ => 0))), (h42, .inl (cI, 40, .inl (fun _ => 0))), (h43, .inl (cI, 40, .inl (fun _ => 0))), (h2, .inr (3, [.ref h1, .ref h16, .ref h17, .int 0])), (h29, .inl (cI, 12, .inl (upd (upd (upd (upd (upd (upd (upd (upd (upd (upd (upd (upd (fun _ => 0) 0 (-1)) 1 (-1)) 2 (-1)) 3 (-1)) 4 (-1)) 5 (-1)) 6 (-1)) 7 (-1)) 8 (-1)) 9 (-1)) 10 (-1)) 11 (-1))))]) (w1 := [(h12, .inr (9, [.ref h1, .ref h2, .ref h29, .ref h30, .ref h31, .int 0])), (h1, .inr (2, [.ref h15, .int 0, .int 0])), (h28, .inr (6, [.ref h44, .int 0, .int 0])), (h44, .inl (cI, 40, .inl (fun _ => 0)))]) (As := [.ref h28, .int 0]) (rest := []) ⟨hx, hb, hml, hown, hts⟩ (c_X9_writeTo_0 l D cI cS _ h12 h28 h1 h2 h29 h30 h31 h44 h15) hKK hP hD hS hA [10, 5, 13, 9] [0, 1, 2, 3, 4, 6, 7, 8, 11, 12] (by decide) rfl rfl (by decide) (by decide) hPc hDc (ci := 9) rfl rfl (cwV 2 hts gX11_paint_X9_writeTo rfl rfl rfl (by decide +kernel) ⟨Nat.le_of_ble_eq_true rfl, Nat.le_of_ble_eq_true rfl⟩) rfl hl.1 rfl (Nat.le_of_ble_eq_true rfl) dX11_paint_35 ⟨Nat.le_of_ble_eq_true rfl, Nat.le_of_ble_eq_true rfl⟩ (fun H locs hP hD hS => ?_)
                  have hP : va_P D cls [(h0, .inr (11, [.ref h1, .ref h2, .ref h3, .ref h4, .ref h5, .ref h6, .ref h7, .int 0, .int 0, .ref h8, .ref h9, .ref h10, .ref h11, .ref h12, .ref h13, .ref h14])), (h11, .inl (cS, 4, .inr (.inr (.inr (.inr (fun k => [h25, h26, h27, h28][k]?)))))), (h25, .inr (6, [.ref h41, .int (-1), .int 0])), (h26, .inr (6, [.ref h42, .int (-1), .int 0])), (h27, .inr (6, [.ref h43, .int (-1), .int 0])), (h41, .inl (cI, 40, .inl (fun _ => 0))), (h42, .inl (cI, 40, .inl (fun _ => 0))), (h43, .inl (cI, 40, .inl (fun _ => 0))), (h2, .inr (3, [.ref h1, .ref h16, .ref h17, .int 0])), (h29, .inl (cI, 12, .inl (upd (upd (upd (upd (upd (upd (upd (upd (upd (upd (upd (upd (fun _ => 0) 0 (-1)) 1 (-1)) 2 (-1)) 3 (-1)) 4 (-1)) 5 (-1)) 6 (-1)) 7 (-1)) 8 (-1)) 9 (-1)) 10 (-1)) 11 (-1)))), (h12, .inr (9, [.ref h1, .ref h2, .ref h29, .ref h30, .ref h31, .int 0])), (h1, .inr (2, [.ref h15, .int 0, .int 0])), (h28, .inr (6, [.ref h44, .int 0, .int 0])), (h44, .inl (cI, 40, .inl (fun _ => 0)))] H := hP
                  have hD : va_D A [(h0, .inr (11, [.ref h1, .ref h2, .ref h3, .ref h4, .ref h5, .ref h6, .ref h7, .int 0, .int 0, .ref h8, .ref h9, .ref h10, .ref h11, .ref h12, .ref h13, .ref h14])), (h11, .inl (cS, 4, .inr (.inr (.inr (.inr (fun k => [h25, h26, h27, h28][k]?)))))), (h25, .inr (6, [.ref h41, .int (-1), .int 0])), (h26, .inr (6, [.ref h42, .int (-1), .int 0])), (h27, .inr (6, [.ref h43, .int (-1), .int 0])), (h41, .inl (cI, 40, .inl (fun _ => 0))), (h42, .inl (cI, 40, .inl (fun _ => 0))), (h43, .inl (cI, 40, .inl (fun _ => 0))), (h2, .inr (3, [.ref h1, .ref h16, .ref h17, .int 0])), (h29, .inl (cI, 12, .inl (upd (upd (upd (upd (upd (upd (upd (upd (upd (upd (upd (upd (fun _ => 0) 0 (-1)) 1 (-1)) 2 (-1)) 3 (-1)) 4 (-1)) 5 (-1)) 6 (-1)) 7 (-1)) 8 (-1)) 9 (-1)) 10 (-1)) 11 (-1)))), (h12, .inr (9, [.ref h1, .ref h2, .ref h29, .ref h30, .ref h31, .int 0])), (h1, .inr (2, [.ref h15, .int 0, .int 0])), (h28, .inr (6, [.ref h44, .int 0, .int 0])), (h44, .inl (cI, 40, .inl (fun _ => 0)))] := hD
                  refine lv_aload_n hx hb dX11_paint_38 rfl (lv_at hl 0 rfl) ?_
                  refine va_get (D := D) (ci := 11) (v := .ref h1) (C := RX11) (T := TX11) (N := 16) hx hb hts hin11 hown hK hP 0 rfl rfl 0 (by decide) (hts (.fieldLink RX11 12 "MissedPoints" "net" "LMissedPoints$Net;") (by decide +kernel)) (fun _ h9 => h9) rfl dX11_paint_39 ?_
                  refine va_getN (D := D) (ci := 2) (v := .int 0) (C := RX2) (T := TX2) (N := 3) hx hb hts hin2 hown hK hP 11 rfl rfl 1 (by decide) (va_Nw.use rfl hN.2.2.2.2.2.2.2.2.2.1) (fun _ h9 => h9) rfl dX11_paint_42 ?_
                  have hP9 := hP.sub (ws' := []) [] rfl
                  have hD9 := hD.sub (ws' := []) [] (by decide) rfl
                  subst hAe
                  exact W.iret (v := 0) hx hb hr (fun t ht hW => ⟨⟨_, (), rfl, by rw [if_neg k3534, if_neg k3536, if_pos rfl], by rw [ht]; exact hP9, hD9⟩, hS.F ht⟩) hS.2.2 dX11_paint_45
          · exact absurd c3541 (by decide)
        · rw [if_neg k3540] at hw
          by_cases k3550 : x1 = 1
          · rw [if_pos k3550] at hw
            subst k3550
            subst hw
            refine lv_if_ne (tgt := 17) hx hb dX11_paint_11 (by decide) (fun c3551 => ?_) (fun c3551 => ?_)
            · refine lv_aload_n hx hb dX11_paint_17 rfl (lv_at hl 0 rfl) ?_
              refine va_get (D := D) (ci := 11) (v := .ref h12) (C := RX11) (T := TX11) (N := 16) hx hb hts hin11 hown hK hP 0 rfl rfl 13 (by decide) (hts (.fieldLink RX11 82 "MissedPoints" "told" "LMissedPoints$Told;") (by decide +kernel)) (fun _ h9 => h9) rfl dX11_paint_18 ?_
              have hPc := hP.sub (ws' := [(h12, .inr (9, [.ref h1, .ref h2, .ref h29, .ref h30, .ref h31, .int 0])), (h1, .inr (2, [.ref h15, .int 0, .int 0])), (h2, .inr (3, [.ref h1, .ref h16, .ref h17, .int 0])), (h29, .inl (cI, 12, .inl (fun _ => 0)))]) [4, 1, 2, 9] rfl
              have hDc := hD.sub (ws' := [(h12, .inr (9, [.ref h1, .ref h2, .ref h29, .ref h30, .ref h31, .int 0])), (h1, .inr (2, [.ref h15, .int 0, .int 0])), (h2, .inr (3, [.ref h1, .ref h16, .ref h17, .int 0])), (h29, .inl (cI, 12, .inl (fun _ => 0)))]) [4, 1, 2, 9] (by decide) rfl
              refine lz_qv (wr := [(h0, .inr (11, [.ref h1, .ref h2, .ref h3, .ref h4, .ref h5, .ref h6, .ref h7, .int 0, .int 0, .ref h8, .ref h9, .ref h10, .ref h11, .ref h12, .ref h13, .ref h14])), (h11, .inl (cS, 4, .inr (.inr (.inr (.inr (fun k => [h25, h26, h27, h28][k]?)))))), (h25, .inr (6, [.ref h41, .int (-1), .int 0])), (h26, .inr (6, [.ref h42, .int (-1), .int 0])), (h27, .inr (6, [.ref h43, .int (-1), .int 0])), (h28, .inr (6, [.ref h44, .int (-1), .int 0])), (h41, .inl (cI, 40, .inl (fun _ => 0))), (h42, .inl (cI, 40, .inl (fun _ => 0))), (h43, .inl (cI, 40, .inl (fun _ => 0))), (h44, .inl (cI, 40, .inl (fun _ => 0)))]) (w1 := [(h12, .inr (9, [.ref h1, .ref h2, .ref h29, .ref h30, .ref h31, .int 0])), (h2, .inr (3, [.ref h1, .ref h16, .ref h17, .int 0])), (h29, .inl (cI, 12, .inl (upd (upd (upd (upd (upd (upd (upd (upd (upd (upd (upd (upd (fun _ => 0) 0 (-1)) 1 (-1)) 2 (-1)) 3 (-1)) 4 (-1)) 5 (-1)) 6 (-1)) 7 (-1)) 8 (-1)) 9 (-1)) 10 (-1)) 11 (-1)))), (h1, .inr (2, [.ref h15, .int 0, .int 0]))]) (As := []) (rest := []) ⟨hx, hb, hml, hown, hts⟩ (c_X9_becomeFirst_0 l D cI cS _ h12 h1 h2 h29 h30 h31 h15 h16 h17) hKK hP hD hS hA [4, 1, 2, 9] [0, 3, 5, 6, 7, 8, 10, 11, 12, 13] (by decide) rfl rfl (by decide) (by decide) hPc hDc (ci := 9) rfl rfl (cwV 0 hts gX11_paint_X9_becomeFirst rfl rfl rfl (by decide +kernel) ⟨Nat.le_of_ble_eq_true rfl, Nat.le_of_ble_eq_true rfl⟩) rfl hl.1 rfl (Nat.le_of_ble_eq_true rfl) dX11_paint_21 ⟨Nat.le_of_ble_eq_true rfl, Nat.le_of_ble_eq_true rfl⟩ (fun H locs hP hD hS => ?_)
              have hP : va_P D cls [(h0, .inr (11, [.ref h1, .ref h2, .ref h3, .ref h4, .ref h5, .ref h6, .ref h7, .int 0, .int 0, .ref h8, .ref h9, .ref h10, .ref h11, .ref h12, .ref h13, .ref h14])), (h11, .inl (cS, 4, .inr (.inr (.inr (.inr (fun k => [h25, h26, h27, h28][k]?)))))), (h25, .inr (6, [.ref h41, .int (-1), .int 0])), (h26, .inr (6, [.ref h42, .int (-1), .int 0])), (h27, .inr (6, [.ref h43, .int (-1), .int 0])), (h28, .inr (6, [.ref h44, .int (-1), .int 0])), (h41, .inl (cI, 40, .inl (fun _ => 0))), (h42, .inl (cI, 40, .inl (fun _ => 0))), (h43, .inl (cI, 40, .inl (fun _ => 0))), (h44, .inl (cI, 40, .inl (fun _ => 0))), (h12, .inr (9, [.ref h1, .ref h2, .ref h29, .ref h30, .ref h31, .int 0])), (h2, .inr (3, [.ref h1, .ref h16, .ref h17, .int 0])), (h29, .inl (cI, 12, .inl (upd (upd (upd (upd (upd (upd (upd (upd (upd (upd (upd (upd (fun _ => 0) 0 (-1)) 1 (-1)) 2 (-1)) 3 (-1)) 4 (-1)) 5 (-1)) 6 (-1)) 7 (-1)) 8 (-1)) 9 (-1)) 10 (-1)) 11 (-1)))), (h1, .inr (2, [.ref h15, .int 0, .int 0]))] H := hP
              have hD : va_D A [(h0, .inr (11, [.ref h1, .ref h2, .ref h3, .ref h4, .ref h5, .ref h6, .ref h7, .int 0, .int 0, .ref h8, .ref h9, .ref h10, .ref h11, .ref h12, .ref h13, .ref h14])), (h11, .inl (cS, 4, .inr (.inr (.inr (.inr (fun k => [h25, h26, h27, h28][k]?)))))), (h25, .inr (6, [.ref h41, .int (-1), .int 0])), (h26, .inr (6, [.ref h42, .int (-1), .int 0])), (h27, .inr (6, [.ref h43, .int (-1), .int 0])), (h28, .inr (6, [.ref h44, .int (-1), .int 0])), (h41, .inl (cI, 40, .inl (fun _ => 0))), (h42, .inl (cI, 40, .inl (fun _ => 0))), (h43, .inl (cI, 40, .inl (fun _ => 0))), (h44, .inl (cI, 40, .inl (fun _ => 0))), (h12, .inr (9, [.ref h1, .ref h2, .ref h29, .ref h30, .ref h31, .int 0])), (h2, .inr (3, [.ref h1, .ref h16, .ref h17, .int 0])), (h29, .inl (cI, 12, .inl (upd (upd (upd (upd (upd (upd (upd (upd (upd (upd (upd (upd (fun _ => 0) 0 (-1)) 1 (-1)) 2 (-1)) 3 (-1)) 4 (-1)) 5 (-1)) 6 (-1)) 7 (-1)) 8 (-1)) 9 (-1)) 10 (-1)) 11 (-1)))), (h1, .inr (2, [.ref h15, .int 0, .int 0]))] := hD
              refine lv_aload_n hx hb dX11_paint_24 rfl (lv_at hl 0 rfl) ?_
              refine va_get (D := D) (ci := 11) (v := .ref h12) (C := RX11) (T := TX11) (N := 16) hx hb hts hin11 hown hK hP 0 rfl rfl 13 (by decide) (hts (.fieldLink RX11 82 "MissedPoints" "told" "LMissedPoints$Told;") (by decide +kernel)) (fun _ h9 => h9) rfl dX11_paint_25 ?_
              refine lv_aload_n hx hb dX11_paint_28 rfl (lv_at hl 0 rfl) ?_
              refine va_get (D := D) (ci := 11) (v := .ref h11) (C := RX11) (T := TX11) (N := 16) hx hb hts hin11 hown hK hP 0 rfl rfl 12 (by decide) (hts (.fieldLink RX11 75 "MissedPoints" "sheets" "[LMissedPoints$Sheet;") (by decide +kernel)) (fun _ h9 => h9) rfl dX11_paint_29 ?_
              refine lv_iload_n hx hb dX11_paint_32 rfl (lv_at hl 1 rfl) ?_
              by_cases k3553 : x0 = 0
              · subst k3553
                refine va_aldq hx hb hK hP 1 1 rfl rfl (lz_vp (x := 0) (n := 4) (by decide) (by decide)) dX11_paint_33 ?_
                refine lz_va (y := .ref h25) rfl ?_
                refine lv_iload_n hx hb dX11_paint_34 rfl (lv_at hl 2 rfl) ?_
                have hPc := hP.sub (ws' := [(h12, .inr (9, [.ref h1, .ref h2, .ref h29, .ref h30, .ref h31, .int 0])), (h25, .inr (6, [.ref h41, .int (-1), .int 0])), (h1, .inr (2, [.ref h15, .int 0, .int 0])), (h41, .inl (cI, 40, .inl (fun _ => 0)))]) [10, 2, 13, 6] rfl
                have hDc := hD.sub (ws' := [(h12, .inr (9, [.ref h1, .ref h2, .ref h29, .ref h30, .ref h31, .int 0])), (h25, .inr (6, [.ref h41, .int (-1), .int 0])), (h1, .inr (2, [.ref h15, .int 0, .int 0])), (h41, .inl (cI, 40, .inl (fun _ => 0)))]) [10, 2, 13, 6] (by decide) rfl
                refine lz_qv (wr := [(h0, .inr (11, [.ref h1, .ref h2, .ref h3, .ref h4, .ref h5, .ref h6, .ref h7, .int 0, .int 0, .ref h8, .ref h9, .ref h10, .ref h11, .ref h12, .ref h13, .ref h14])), (h11, .inl (cS, 4, .inr (.inr (.inr (.inr (fun k => [h25, h26, h27, h28][k]?)))))), (h26, .inr (6, [.ref h42, .int (-1), .int 0])), (h27, .inr (6, [.ref h43, .int (-1), .int 0])), (h28, .inr (6, [.ref h44, .int (-1), .int 0])), (h42, .inl (cI, 40, .inl (fun _ => 0))), (h43, .inl (cI, 40, .inl (fun _ => 0))), (h44, .inl (cI, 40, .inl (fun _ => 0))), (h2, .inr (3, [.ref h1, .ref h16, .ref h17, .int 0])), (h29, .inl (cI, 12, .inl (upd (upd (upd (upd (upd (upd (upd (upd (upd (upd (upd (upd (fun _ => 0) 0 (-1)) 1 (-1)) 2 (-1)) 3 (-1)) 4 (-1)) 5 (-1)) 6 (-1)) 7 (-1)) 8 (-1)) 9 (-1)) 10 (-1)) 11 (-1))))]) (w1 := [(h12, .inr (9, [.ref h1, .ref h2, .ref h29, .ref h30, .ref h31, .int 0])), (h1, .inr (2, [.ref h15, .int 0, .int 0])), (h25, .inr (6, [.ref h41, .int 1, .int 0])), (h41, .inl (cI, 40, .inl (fun _ => 0)))]) (As := [.ref h25, .int 1]) (rest := []) ⟨hx, hb, hml, hown, hts⟩ (c_X9_writeTo_1 l D cI cS _ h12 h25 h1 h2 h29 h30 h31 h41 h15) hKK hP hD hS hA [10, 2, 13, 6] [0, 1, 3, 4, 5, 7, 8, 9, 11, 12] (by decide) rfl rfl (by decide) (by decide) hPc hDc (ci := 9) rfl rfl (cwV 2 hts gX11_paint_X9_writeTo rfl rfl rfl (by decide +kernel) ⟨Nat.le_of_ble_eq_true rfl, Nat.le_of_ble_eq_true rfl⟩) rfl hl.1 rfl (Nat.le_of_ble_eq_true rfl) dX11_paint_35 ⟨Nat.le_of_ble_eq_true rfl, Nat.le_of_ble_eq_true rfl⟩ (fun H locs hP hD hS => ?_)
                have hP : va_P D cls [(h0, .inr (11, [.ref h1, .ref h2, .ref h3, .ref h4, .ref h5, .ref h6, .ref h7, .int 0, .int 0, .ref h8, .ref h9, .ref h10, .ref h11, .ref h12, .ref h13, .ref h14])), (h11, .inl (cS, 4, .inr (.inr (.inr (.inr (fun k => [h25, h26, h27, h28][k]?)))))), (h26, .inr (6, [.ref h42, .int (-1), .int 0])), (h27, .inr (6, [.ref h43, .int (-1), .int 0])), (h28, .inr (6, [.ref h44, .int (-1), .int 0])), (h42, .inl (cI, 40, .inl (fun _ => 0))), (h43, .inl (cI, 40, .inl (fun _ => 0))), (h44, .inl (cI, 40, .inl (fun _ => 0))), (h2, .inr (3, [.ref h1, .ref h16, .ref h17, .int 0])), (h29, .inl (cI, 12, .inl (upd (upd (upd (upd (upd (upd (upd (upd (upd (upd (upd (upd (fun _ => 0) 0 (-1)) 1 (-1)) 2 (-1)) 3 (-1)) 4 (-1)) 5 (-1)) 6 (-1)) 7 (-1)) 8 (-1)) 9 (-1)) 10 (-1)) 11 (-1)))), (h12, .inr (9, [.ref h1, .ref h2, .ref h29, .ref h30, .ref h31, .int 0])), (h1, .inr (2, [.ref h15, .int 0, .int 0])), (h25, .inr (6, [.ref h41, .int 1, .int 0])), (h41, .inl (cI, 40, .inl (fun _ => 0)))] H := hP
                have hD : va_D A [(h0, .inr (11, [.ref h1, .ref h2, .ref h3, .ref h4, .ref h5, .ref h6, .ref h7, .int 0, .int 0, .ref h8, .ref h9, .ref h10, .ref h11, .ref h12, .ref h13, .ref h14])), (h11, .inl (cS, 4, .inr (.inr (.inr (.inr (fun k => [h25, h26, h27, h28][k]?)))))), (h26, .inr (6, [.ref h42, .int (-1), .int 0])), (h27, .inr (6, [.ref h43, .int (-1), .int 0])), (h28, .inr (6, [.ref h44, .int (-1), .int 0])), (h42, .inl (cI, 40, .inl (fun _ => 0))), (h43, .inl (cI, 40, .inl (fun _ => 0))), (h44, .inl (cI, 40, .inl (fun _ => 0))), (h2, .inr (3, [.ref h1, .ref h16, .ref h17, .int 0])), (h29, .inl (cI, 12, .inl (upd (upd (upd (upd (upd (upd (upd (upd (upd (upd (upd (upd (fun _ => 0) 0 (-1)) 1 (-1)) 2 (-1)) 3 (-1)) 4 (-1)) 5 (-1)) 6 (-1)) 7 (-1)) 8 (-1)) 9 (-1)) 10 (-1)) 11 (-1)))), (h12, .inr (9, [.ref h1, .ref h2, .ref h29, .ref h30, .ref h31, .int 0])), (h1, .inr (2, [.ref h15, .int 0, .int 0])), (h25, .inr (6, [.ref h41, .int 1, .int 0])), (h41, .inl (cI, 40, .inl (fun _ => 0)))] := hD
                refine lv_aload_n hx hb dX11_paint_38 rfl (lv_at hl 0 rfl) ?_
                refine va_get (D := D) (ci := 11) (v := .ref h1) (C := RX11) (T := TX11) (N := 16) hx hb hts hin11 hown hK hP 0 rfl rfl 0 (by decide) (hts (.fieldLink RX11 12 "MissedPoints" "net" "LMissedPoints$Net;") (by decide +kernel)) (fun _ h9 => h9) rfl dX11_paint_39 ?_
                refine va_getN (D := D) (ci := 2) (v := .int 0) (C := RX2) (T := TX2) (N := 3) hx hb hts hin2 hown hK hP 11 rfl rfl 1 (by decide) (va_Nw.use rfl hN.2.2.2.2.2.2.2.2.2.1) (fun _ h9 => h9) rfl dX11_paint_42 ?_
                have hP9 := hP.sub (ws' := []) [] rfl
                have hD9 := hD.sub (ws' := []) [] (by decide) rfl
                subst hAe
                exact W.iret (v := 0) hx hb hr (fun t ht hW => ⟨⟨_, (), rfl, by rw [if_neg k3534, if_neg k3536, if_neg k3540, if_pos rfl], by rw [ht]; exact hP9, hD9⟩, hS.F ht⟩) hS.2.2 dX11_paint_45
              · by_cases k3555 : x0 = 1
                · subst k3555
                  refine va_aldq hx hb hK hP 1 1 rfl rfl (lz_vp (x := 1) (n := 4) (by decide) (by decide)) dX11_paint_33 ?_
                  refine lz_va (y := .ref h26) rfl ?_
                  refine lv_iload_n hx hb dX11_paint_34 rfl (lv_at hl 2 rfl) ?_
                  have hPc := hP.sub (ws' := [(h12, .inr (9, [.ref h1, .ref h2, .ref h29, .ref h30, .ref h31, .int 0])), (h26, .inr (6, [.ref h42, .int (-1), .int 0])), (h1, .inr (2, [.ref h15, .int 0, .int 0])), (h42, .inl (cI, 40, .inl (fun _ => 0)))]) [10, 3, 13, 7] rfl
                  have hDc := hD.sub (ws' := [(h12, .inr (9, [.ref h1, .ref h2, .ref h29, .ref h30, .ref h31, .int 0])), (h26, .inr (6, [.ref h42, .int (-1), .int 0])), (h1, .inr (2, [.ref h15, .int 0, .int 0])), (h42, .inl (cI, 40, .inl (fun _ => 0)))]) [10, 3, 13, 7] (by decide) rfl
                  refine lz_qv (wr := [(h0, .inr (11, [.ref h1, .ref h2, .ref h3, .ref h4, .ref h5, .ref h6, .ref h7, .int 0, .int 0, .ref h8, .ref h9, .ref h10, .ref h11, .ref h12, .ref h13, .ref h14])), (h11, .inl (cS, 4, .inr (.inr (.inr (.inr (fun k => [h25, h26, h27, h28][k]?)))))), (h25, .inr (6, [.ref h41, .int (-1), .int 0])), (h27, .inr (6, [.ref h43, .int (-1), .int 0])), (h28, .inr (6, [.ref h44, .int (-1), .int 0])), (h41, .inl (cI, 40, .inl (fun _ => 0))), (h43, .inl (cI, 40, .inl (fun _ => 0))), (h44, .inl (cI, 40, .inl (fun _ => 0))), (h2, .inr (3, [.ref h1, .ref h16, .ref h17, .int 0])), (h29, .inl (cI, 12, .inl (upd (upd (upd (upd (upd (upd (upd (upd (upd (upd (upd (upd (fun _ => 0) 0 (-1)) 1 (-1)) 2 (-1)) 3 (-1)) 4 (-1)) 5 (-1)) 6 (-1)) 7 (-1)) 8 (-1)) 9 (-1)) 10 (-1)) 11 (-1))))]) (w1 := [(h12, .inr (9, [.ref h1, .ref h2, .ref h29, .ref h30, .ref h31, .int 0])), (h1, .inr (2, [.ref h15, .int 0, .int 0])), (h26, .inr (6, [.ref h42, .int 1, .int 0])), (h42, .inl (cI, 40, .inl (fun _ => 0)))]) (As := [.ref h26, .int 1]) (rest := []) ⟨hx, hb, hml, hown, hts⟩ (c_X9_writeTo_1 l D cI cS _ h12 h26 h1 h2 h29 h30 h31 h42 h15) hKK hP hD hS hA [10, 3, 13, 7] [0, 1, 2, 4, 5, 6, 8, 9, 11, 12] (by decide) rfl rfl (by decide) (by decide) hPc hDc (ci := 9) rfl rfl (cwV 2 hts gX11_paint_X9_writeTo rfl rfl rfl (by decide +kernel) ⟨Nat.le_of_ble_eq_true rfl, Nat.le_of_ble_eq_true rfl⟩) rfl hl.1 rfl (Nat.le_of_ble_eq_true rfl) dX11_paint_35 ⟨Nat.le_of_ble_eq_true rfl, Nat.le_of_ble_eq_true rfl⟩ (fun H locs hP hD hS => ?_)
                  have hP : va_P D cls [(h0, .inr (11, [.ref h1, .ref h2, .ref h3, .ref h4, .ref h5, .ref h6, .ref h7, .int 0, .int 0, .ref h8, .ref h9, .ref h10, .ref h11, .ref h12, .ref h13, .ref h14])), (h11, .inl (cS, 4, .inr (.inr (.inr (.inr (fun k => [h25, h26, h27, h28][k]?)))))), (h25, .inr (6, [.ref h41, .int (-1), .int 0])), (h27, .inr (6, [.ref h43, .int (-1), .int 0])), (h28, .inr (6, [.ref h44, .int (-1), .int 0])), (h41, .inl (cI, 40, .inl (fun _ => 0))), (h43, .inl (cI, 40, .inl (fun _ => 0))), (h44, .inl (cI, 40, .inl (fun _ => 0))), (h2, .inr (3, [.ref h1, .ref h16, .ref h17, .int 0])), (h29, .inl (cI, 12, .inl (upd (upd (upd (upd (upd (upd (upd (upd (upd (upd (upd (upd (fun _ => 0) 0 (-1)) 1 (-1)) 2 (-1)) 3 (-1)) 4 (-1)) 5 (-1)) 6 (-1)) 7 (-1)) 8 (-1)) 9 (-1)) 10 (-1)) 11 (-1)))), (h12, .inr (9, [.ref h1, .ref h2, .ref h29, .ref h30, .ref h31, .int 0])), (h1, .inr (2, [.ref h15, .int 0, .int 0])), (h26, .inr (6, [.ref h42, .int 1, .int 0])), (h42, .inl (cI, 40, .inl (fun _ => 0)))] H := hP
                  have hD : va_D A [(h0, .inr (11, [.ref h1, .ref h2, .ref h3, .ref h4, .ref h5, .ref h6, .ref h7, .int 0, .int 0, .ref h8, .ref h9, .ref h10, .ref h11, .ref h12, .ref h13, .ref h14])), (h11, .inl (cS, 4, .inr (.inr (.inr (.inr (fun k => [h25, h26, h27, h28][k]?)))))), (h25, .inr (6, [.ref h41, .int (-1), .int 0])), (h27, .inr (6, [.ref h43, .int (-1), .int 0])), (h28, .inr (6, [.ref h44, .int (-1), .int 0])), (h41, .inl (cI, 40, .inl (fun _ => 0))), (h43, .inl (cI, 40, .inl (fun _ => 0))), (h44, .inl (cI, 40, .inl (fun _ => 0))), (h2, .inr (3, [.ref h1, .ref h16, .ref h17, .int 0])), (h29, .inl (cI, 12, .inl (upd (upd (upd (upd (upd (upd (upd (upd (upd (upd (upd (upd (fun _ => 0) 0 (-1)) 1 (-1)) 2 (-1)) 3 (-1)) 4 (-1)) 5 (-1)) 6 (-1)) 7 (-1)) 8 (-1)) 9 (-1)) 10 (-1)) 11 (-1)))), (h12, .inr (9, [.ref h1, .ref h2, .ref h29, .ref h30, .ref h31, .int 0])), (h1, .inr (2, [.ref h15, .int 0, .int 0])), (h26, .inr (6, [.ref h42, .int 1, .int 0])), (h42, .inl (cI, 40, .inl (fun _ => 0)))] := hD
                  refine lv_aload_n hx hb dX11_paint_38 rfl (lv_at hl 0 rfl) ?_
                  refine va_get (D := D) (ci := 11) (v := .ref h1) (C := RX11) (T := TX11) (N := 16) hx hb hts hin11 hown hK hP 0 rfl rfl 0 (by decide) (hts (.fieldLink RX11 12 "MissedPoints" "net" "LMissedPoints$Net;") (by decide +kernel)) (fun _ h9 => h9) rfl dX11_paint_39 ?_
                  refine va_getN (D := D) (ci := 2) (v := .int 0) (C := RX2) (T := TX2) (N := 3) hx hb hts hin2 hown hK hP 11 rfl rfl 1 (by decide) (va_Nw.use rfl hN.2.2.2.2.2.2.2.2.2.1) (fun _ h9 => h9) rfl dX11_paint_42 ?_
                  have hP9 := hP.sub (ws' := []) [] rfl
                  have hD9 := hD.sub (ws' := []) [] (by decide) rfl
                  subst hAe
                  exact W.iret (v := 0) hx hb hr (fun t ht hW => ⟨⟨_, (), rfl, by rw [if_neg k3534, if_neg k3536, if_neg k3540, if_pos rfl], by rw [ht]; exact hP9, hD9⟩, hS.F ht⟩) hS.2.2 dX11_paint_45
                · by_cases k3557 : x0 = 2
                  · subst k3557
                    refine va_aldq hx hb hK hP 1 1 rfl rfl (lz_vp (x := 2) (n := 4) (by decide) (by decide)) dX11_paint_33 ?_
                    refine lz_va (y := .ref h27) rfl ?_
                    refine lv_iload_n hx hb dX11_paint_34 rfl (lv_at hl 2 rfl) ?_
                    have hPc := hP.sub (ws' := [(h12, .inr (9, [.ref h1, .ref h2, .ref h29, .ref h30, .ref h31, .int 0])), (h27, .inr (6, [.ref h43, .int (-1), .int 0])), (h1, .inr (2, [.ref h15, .int 0, .int 0])), (h43, .inl (cI, 40, .inl (fun _ => 0)))]) [10, 4, 13, 8] rfl
                    have hDc := hD.sub (ws' := [(h12, .inr (9, [.ref h1, .ref h2, .ref h29, .ref h30, .ref h31, .int 0])), (h27, .inr (6, [.ref h43, .int (-1), .int 0])), (h1, .inr (2, [.ref h15, .int 0, .int 0])), (h43, .inl (cI, 40, .inl (fun _ => 0)))]) [10, 4, 13, 8] (by decide) rfl
                    refine lz_qv (wr := [(h0, .inr (11, [.ref h1, .ref h2, .ref h3, .ref h4, .ref h5, .ref h6, .ref h7, .int 0, .int 0, .ref h8, .ref h9, .ref h10, .ref h11, .ref h12, .ref h13, .ref h14])), (h11, .inl (cS, 4, .inr (.inr (.inr (.inr (fun k => [h25, h26, h27, h28][k]?)))))), (h25, .inr (6, [.ref h41, .int (-1), .int 0])), (h26, .inr (6, [.ref h42, .int (-1), .int 0])), (h28, .inr (6, [.ref h44, .int (-1), .int 0])), (h41, .inl (cI, 40, .inl (fun _ => 0))), (h42, .inl (cI, 40, .inl (fun _ => 0))), (h44, .inl (cI, 40, .inl (fun _ => 0))), (h2, .inr (3, [.ref h1, .ref h16, .ref h17, .int 0])), (h29, .inl (cI, 12, .inl (upd (upd (upd (upd (upd (upd (upd (upd (upd (upd (upd (upd (fun _ => 0) 0 (-1)) 1 (-1)) 2 (-1)) 3 (-1)) 4 (-1)) 5 (-1)) 6 (-1)) 7 (-1)) 8 (-1)) 9 (-1)) 10 (-1)) 11 (-1))))]) (w1 := [(h12, .inr (9, [.ref h1, .ref h2, .ref h29, .ref h30, .ref h31, .int 0])), (h1, .inr (2, [.ref h15, .int 0, .int 0])), (h27, .inr (6, [.ref h43, .int 1, .int 0])), (h43, .inl (cI, 40, .inl (fun _ => 0)))]) (As := [.ref h27, .int 1]) (rest := []) ⟨hx, hb, hml, hown, hts⟩ (c_X9_writeTo_1 l D cI cS _ h12 h27 h1 h2 h29 h30 h31 h43 h15) hKK hP hD hS hA [10, 4, 13, 8] [0, 1, 2, 3, 5, 6, 7, 9, 11, 12] (by decide) rfl rfl (by decide) (by decide) hPc hDc (ci := 9) rfl rfl (cwV 2 hts gX11_paint_X9_writeTo rfl rfl rfl (by decide +kernel) ⟨Nat.le_of_ble_eq_true rfl, Nat.le_of_ble_eq_true rfl⟩) rfl hl.1 rfl (Nat.le_of_ble_eq_true rfl) dX11_paint_35 ⟨Nat.le_of_ble_eq_true rfl, Nat.le_of_ble_eq_true rfl⟩ (fun H locs hP hD hS => ?_)
                    have hP : va_P D cls [(h0, .inr (11, [.ref h1, .ref h2, .ref h3, .ref h4, .ref h5, .ref h6, .ref h7, .int 0, .int 0, .ref h8, .ref h9, .ref h10, .ref h11, .ref h12, .ref h13, .ref h14])), (h11, .inl (cS, 4, .inr (.inr (.inr (.inr (fun k => [h25, h26, h27, h28][k]?)))))), (h25, .inr (6, [.ref h41, .int (-1), .int 0])), (h26, .inr (6, [.ref h42, .int (-1), .int 0])), (h28, .inr (6, [.ref h44, .int (-1), .int 0])), (h41, .inl (cI, 40, .inl (fun _ => 0))), (h42, .inl (cI, 40, .inl (fun _ => 0))), (h44, .inl (cI, 40, .inl (fun _ => 0))), (h2, .inr (3, [.ref h1, .ref h16, .ref h17, .int 0])), (h29, .inl (cI, 12, .inl (upd (upd (upd (upd (upd (upd (upd (upd (upd (upd (upd (upd (fun _ => 0) 0 (-1)) 1 (-1)) 2 (-1)) 3 (-1)) 4 (-1)) 5 (-1)) 6 (-1)) 7 (-1)) 8 (-1)) 9 (-1)) 10 (-1)) 11 (-1)))), (h12, .inr (9, [.ref h1, .ref h2, .ref h29, .ref h30, .ref h31, .int 0])), (h1, .inr (2, [.ref h15, .int 0, .int 0])), (h27, .inr (6, [.ref h43, .int 1, .int 0])), (h43, .inl (cI, 40, .inl (fun _ => 0)))] H := hP
                    have hD : va_D A [(h0, .inr (11, [.ref h1, .ref h2, .ref h3, .ref h4, .ref h5, .ref h6, .ref h7, .int 0, .int 0, .ref h8, .ref h9, .ref h10, .ref h11, .ref h12, .ref h13, .ref h14])), (h11, .inl (cS, 4, .inr (.inr (.inr (.inr (fun k => [h25, h26, h27, h28][k]?)))))), (h25, .inr (6, [.ref h41, .int (-1), .int 0])), (h26, .inr (6, [.ref h42, .int (-1), .int 0])), (h28, .inr (6, [.ref h44, .int (-1), .int 0])), (h41, .inl (cI, 40, .inl (fun _ => 0))), (h42, .inl (cI, 40, .inl (fun _ => 0))), (h44, .inl (cI, 40, .inl (fun _ => 0))), (h2, .inr (3, [.ref h1, .ref h16, .ref h17, .int 0])), (h29, .inl (cI, 12, .inl (upd (upd (upd (upd (upd (upd (upd (upd (upd (upd (upd (upd (fun _ => 0) 0 (-1)) 1 (-1)) 2 (-1)) 3 (-1)) 4 (-1)) 5 (-1)) 6 (-1)) 7 (-1)) 8 (-1)) 9 (-1)) 10 (-1)) 11 (-1)))), (h12, .inr (9, [.ref h1, .ref h2, .ref h29, .ref h30, .ref h31, .int 0])), (h1, .inr (2, [.ref h15, .int 0, .int 0])), (h27, .inr (6, [.ref h43, .int 1, .int 0])), (h43, .inl (cI, 40, .inl (fun _ => 0)))] := hD
                    refine lv_aload_n hx hb dX11_paint_38 rfl (lv_at hl 0 rfl) ?_
                    refine va_get (D := D) (ci := 11) (v := .ref h1) (C := RX11) (T := TX11) (N := 16) hx hb hts hin11 hown hK hP 0 rfl rfl 0 (by decide) (hts (.fieldLink RX11 12 "MissedPoints" "net" "LMissedPoints$Net;") (by decide +kernel)) (fun _ h9 => h9) rfl dX11_paint_39 ?_
                    refine va_getN (D := D) (ci := 2) (v := .int 0) (C := RX2) (T := TX2) (N := 3) hx hb hts hin2 hown hK hP 11 rfl rfl 1 (by decide) (va_Nw.use rfl hN.2.2.2.2.2.2.2.2.2.1) (fun _ h9 => h9) rfl dX11_paint_42 ?_
                    have hP9 := hP.sub (ws' := []) [] rfl
                    have hD9 := hD.sub (ws' := []) [] (by decide) rfl
                    subst hAe
                    exact W.iret (v := 0) hx hb hr (fun t ht hW => ⟨⟨_, (), rfl, by rw [if_neg k3534, if_neg k3536, if_neg k3540, if_pos rfl], by rw [ht]; exact hP9, hD9⟩, hS.F ht⟩) hS.2.2 dX11_paint_45
                  · obtain rfl : x0 = 3 := by have zf1 := mt (lz_lt x0 (0 : Int32)).mpr k3534; have zf2 := mt (lz_le (4 : Int32) x0).mpr k3536; have zf3 := mt (lz_eq (1 : Int32) (0 : Int32)).mpr k3540; have zf4 := mt (lz_eq x0 (0 : Int32)).mpr k3553; have zf5 := mt (lz_eq x0 (1 : Int32)).mpr k3555; have zf6 := mt (lz_eq x0 (2 : Int32)).mpr k3557; have zn0 : (0 : Int32).toInt = 0 := (by decide); have zn1 : (1 : Int32).toInt = 1 := (by decide); have zn2 : (2 : Int32).toInt = 2 := (by decide); have zn3 : (3 : Int32).toInt = 3 := (by decide); have zn4 : (4 : Int32).toInt = 4 := (by decide); rw [lz_eq]; omega
                    refine va_aldq hx hb hK hP 1 1 rfl rfl (lz_vp (x := 3) (n := 4) (by decide) (by decide)) dX11_paint_33 ?_
                    refine lz_va (y := .ref h28) rfl ?_
                    refine lv_iload_n hx hb dX11_paint_34 rfl (lv_at hl 2 rfl) ?_
                    have hPc := hP.sub (ws' := [(h12, .inr (9, [.ref h1, .ref h2, .ref h29, .ref h30, .ref h31, .int 0])), (h28, .inr (6, [.ref h44, .int (-1), .int 0])), (h1, .inr (2, [.ref h15, .int 0, .int 0])), (h44, .inl (cI, 40, .inl (fun _ => 0)))]) [10, 5, 13, 9] rfl
                    have hDc := hD.sub (ws' := [(h12, .inr (9, [.ref h1, .ref h2, .ref h29, .ref h30, .ref h31, .int 0])), (h28, .inr (6, [.ref h44, .int (-1), .int 0])), (h1, .inr (2, [.ref h15, .int 0, .int 0])), (h44, .inl (cI, 40, .inl (fun _ => 0)))]) [10, 5, 13, 9] (by decide) rfl
                    refine lz_qv (wr := [(h0, .inr (11, [.ref h1, .ref h2, .ref h3, .ref h4, .ref h5, .ref h6, .ref h7, .int 0, .int 0, .ref h8, .ref h9, .ref h10, .ref h11, .ref h12, .ref h13, .ref h14])), (h11, .inl (cS, 4, .inr (.inr (.inr (.inr (fun k => [h25, h26, h27, h28][k]?)))))), (h25, .inr (6, [.ref h41, .int (-1), .int 0])), (h26, .inr (6, [.ref h42, .int (-1), .int 0])), (h27, .inr (6, [.ref h43, .int (-1), .int 0])), (h41, .inl (cI, 40, .inl (fun _ => 0))), (h42, .inl (cI, 40, .inl (fun _ => 0))), (h43, .inl (cI, 40, .inl (fun _ => 0))), (h2, .inr (3, [.ref h1, .ref h16, .ref h17, .int 0])), (h29, .inl (cI, 12, .inl (upd (upd (upd (upd (upd (upd (upd (upd (upd (upd (upd (upd (fun _ => 0) 0 (-1)) 1 (-1)) 2 (-1)) 3 (-1)) 4 (-1)) 5 (-1)) 6 (-1)) 7 (-1)) 8 (-1)) 9 (-1)) 10 (-1)) 11 (-1))))]) (w1 := [(h12, .inr (9, [.ref h1, .ref h2, .ref h29, .ref h30, .ref h31, .int 0])), (h1, .inr (2, [.ref h15, .int 0, .int 0])), (h28, .inr (6, [.ref h44, .int 1, .int 0])), (h44, .inl (cI, 40, .inl (fun _ => 0)))]) (As := [.ref h28, .int 1]) (rest := []) ⟨hx, hb, hml, hown, hts⟩ (c_X9_writeTo_1 l D cI cS _ h12 h28 h1 h2 h29 h30 h31 h44 h15) hKK hP hD hS hA [10, 5, 13, 9] [0, 1, 2, 3, 4, 6, 7, 8, 11, 12] (by decide) rfl rfl (by decide) (by decide) hPc hDc (ci := 9) rfl rfl (cwV 2 hts gX11_paint_X9_writeTo rfl rfl rfl (by decide +kernel) ⟨Nat.le_of_ble_eq_true rfl, Nat.le_of_ble_eq_true rfl⟩) rfl hl.1 rfl (Nat.le_of_ble_eq_true rfl) dX11_paint_35 ⟨Nat.le_of_ble_eq_true rfl, Nat.le_of_ble_eq_true rfl⟩ (fun H locs hP hD hS => ?_)
                    have hP : va_P D cls [(h0, .inr (11, [.ref h1, .ref h2, .ref h3, .ref h4, .ref h5, .ref h6, .ref h7, .int 0, .int 0, .ref h8, .ref h9, .ref h10, .ref h11, .ref h12, .ref h13, .ref h14])), (h11, .inl (cS, 4, .inr (.inr (.inr (.inr (fun k => [h25, h26, h27, h28][k]?)))))), (h25, .inr (6, [.ref h41, .int (-1), .int 0])), (h26, .inr (6, [.ref h42, .int (-1), .int 0])), (h27, .inr (6, [.ref h43, .int (-1), .int 0])), (h41, .inl (cI, 40, .inl (fun _ => 0))), (h42, .inl (cI, 40, .inl (fun _ => 0))), (h43, .inl (cI, 40, .inl (fun _ => 0))), (h2, .inr (3, [.ref h1, .ref h16, .ref h17, .int 0])), (h29, .inl (cI, 12, .inl (upd (upd (upd (upd (upd (upd (upd (upd (upd (upd (upd (upd (fun _ => 0) 0 (-1)) 1 (-1)) 2 (-1)) 3 (-1)) 4 (-1)) 5 (-1)) 6 (-1)) 7 (-1)) 8 (-1)) 9 (-1)) 10 (-1)) 11 (-1)))), (h12, .inr (9, [.ref h1, .ref h2, .ref h29, .ref h30, .ref h31, .int 0])), (h1, .inr (2, [.ref h15, .int 0, .int 0])), (h28, .inr (6, [.ref h44, .int 1, .int 0])), (h44, .inl (cI, 40, .inl (fun _ => 0)))] H := hP
                    have hD : va_D A [(h0, .inr (11, [.ref h1, .ref h2, .ref h3, .ref h4, .ref h5, .ref h6, .ref h7, .int 0, .int 0, .ref h8, .ref h9, .ref h10, .ref h11, .ref h12, .ref h13, .ref h14])), (h11, .inl (cS, 4, .inr (.inr (.inr (.inr (fun k => [h25, h26, h27, h28][k]?)))))), (h25, .inr (6, [.ref h41, .int (-1), .int 0])), (h26, .inr (6, [.ref h42, .int (-1), .int 0])), (h27, .inr (6, [.ref h43, .int (-1), .int 0])), (h41, .inl (cI, 40, .inl (fun _ => 0))), (h42, .inl (cI, 40, .inl (fun _ => 0))), (h43, .inl (cI, 40, .inl (fun _ => 0))), (h2, .inr (3, [.ref h1, .ref h16, .ref h17, .int 0])), (h29, .inl (cI, 12, .inl (upd (upd (upd (upd (upd (upd (upd (upd (upd (upd (upd (upd (fun _ => 0) 0 (-1)) 1 (-1)) 2 (-1)) 3 (-1)) 4 (-1)) 5 (-1)) 6 (-1)) 7 (-1)) 8 (-1)) 9 (-1)) 10 (-1)) 11 (-1)))), (h12, .inr (9, [.ref h1, .ref h2, .ref h29, .ref h30, .ref h31, .int 0])), (h1, .inr (2, [.ref h15, .int 0, .int 0])), (h28, .inr (6, [.ref h44, .int 1, .int 0])), (h44, .inl (cI, 40, .inl (fun _ => 0)))] := hD
                    refine lv_aload_n hx hb dX11_paint_38 rfl (lv_at hl 0 rfl) ?_
                    refine va_get (D := D) (ci := 11) (v := .ref h1) (C := RX11) (T := TX11) (N := 16) hx hb hts hin11 hown hK hP 0 rfl rfl 0 (by decide) (hts (.fieldLink RX11 12 "MissedPoints" "net" "LMissedPoints$Net;") (by decide +kernel)) (fun _ h9 => h9) rfl dX11_paint_39 ?_
                    refine va_getN (D := D) (ci := 2) (v := .int 0) (C := RX2) (T := TX2) (N := 3) hx hb hts hin2 hown hK hP 11 rfl rfl 1 (by decide) (va_Nw.use rfl hN.2.2.2.2.2.2.2.2.2.1) (fun _ h9 => h9) rfl dX11_paint_42 ?_
                    have hP9 := hP.sub (ws' := []) [] rfl
                    have hD9 := hD.sub (ws' := []) [] (by decide) rfl
                    subst hAe
                    exact W.iret (v := 0) hx hb hr (fun t ht hW => ⟨⟨_, (), rfl, by rw [if_neg k3534, if_neg k3536, if_neg k3540, if_pos rfl], by rw [ht]; exact hP9, hD9⟩, hS.F ht⟩) hS.2.2 dX11_paint_45
            · exact absurd c3551 (by decide)
          · rw [if_neg k3550] at hw
            subst hw
            refine lv_if_ne (tgt := 17) hx hb dX11_paint_11 (by decide) (fun c3560 => ?_) (fun c3560 => ?_)
            · exact absurd c3560 (by decide)
            · refine lv_bipush (v := (-2)) hx hb dX11_paint_14 (by decide) ?_
              have hP9 := hP.sub (ws' := []) [] rfl
              have hD9 := hD.sub (ws' := []) [] (by decide) rfl
              subst hAe
              exact W.iret (v := (-2)) hx hb hr (fun t ht hW => ⟨⟨_, (), rfl, by rw [if_neg k3534, if_neg k3536, if_neg k3540, if_neg k3550], by rw [ht]; exact hP9, hD9⟩, hS.F ht⟩) hS.2.2 dX11_paint_16
set_option maxHeartbeats 4000000 in
set_option maxRecDepth 100000 in
theorem c_X8_append_0 (l : Launch) (D : va_G) (cI cS : ClassId) (sz : Nat) (h0 h1 : Nat) (x0 : Int32) : Met l yX8_append wsX8_append ({ frames := 0, cells := 0, slots := 0, locals := 0 }) (PQ D cI cS [(h0, .inr (8, [.ref h1, .int 0])), (h1, .inl (cI, 120, .inl (fun _ => 0)))] sz [.ref h0, .int x0]) (QV D [(h0, .inr (8, [.ref h1, .int 0])), (h1, .inl (cI, 120, .inl (fun _ => 0)))] [(h0, .inr (8, [.ref h1, .int 1])), (h1, .inl (cI, 120, .inl (upd (fun _ => 0) 0 x0)))] sz) 0 0 (va_A [(h0, .inr (8, [.ref h1, .int 0])), (h1, .inl (cI, 120, .inl (fun _ => 0)))] sz) := by
  refine Met.ofW (cc := cX8_append) (maxL := 2) (ret := none) (by decide) rfl ?_
  intro p e s m args below meth c s₁ B hml hv
  obtain ⟨rfl, hsz, hP, hKK, hD0⟩ := hv
  have hx := B.exec
  have hb := B.bytes
  have hr := B.returns
  have hts := atoms_spec (ws := wsX8_append) B.pre
  have hown : s.vm.findClass RX8 = some m.cls := findClass_of_methodNamed B.named
  have hlocks := B.notSynchronized
  have hK := hKK.1
  have hN := hKK.2
  have hin8 : ∀ w ∈ wsX80, w ∈ wsX8_append := by decide +kernel
  subst hsz
  have hD := hD0.self (sz := s.heap.size)
  obtain ⟨A, hAe⟩ : ∃ A, A = va_A [(h0, .inr (8, [.ref h1, .int 0])), (h1, .inl (cI, 120, .inl (fun _ => 0)))] s.heap.size := ⟨_, rfl⟩
  rw [← hAe] at hD
  have hA : ∀ q : Nat, s.heap.size ≤ q → A q := fun q h => by rw [hAe]; exact Or.inr h
  have hS : va_S A s.heap s.heap [] := va_S.rf
  have hl := lv_entry ([.ref h0, .int x0]) (n := 2) (Nat.le_of_ble_eq_true rfl)
  rw [lg_entry_eq]
  generalize (lg_sl ([.ref h0, .int x0]) ++ List.replicate (2 - (lg_sl ([.ref h0, .int x0])).length) Slot.unset).toArray = ls at hl ⊢
  have hl : lv_has ls 2 [(0, .ref h0), (1, .int x0)] := hl
  refine lv_aload_n hx hb dX8_append_0 rfl (lv_at hl 0 rfl) ?_
  refine va_get (D := D) (ci := 8) (v := .int 0) (C := RX8) (T := TX8) (N := 2) hx hb hts hin8 hown hK hP 0 rfl rfl 1 (by decide) (hts (.fieldLink RX8 15 "MissedPoints$Tape" "size" "I") (by decide +kernel)) (fun _ h9 => h9) rfl dX8_append_1 ?_
  refine lv_bipush (v := 120) hx hb dX8_append_4 (by decide) ?_
  refine lv_icmp_ge (tgt := 29) hx hb dX8_append_6 (by decide) (fun c3567 => ?_) (fun c3567 => ?_)
  · exact absurd c3567 (by decide)
  · refine lv_aload_n hx hb dX8_append_9 rfl (lv_at hl 0 rfl) ?_
    refine va_get (D := D) (ci := 8) (v := .ref h1) (C := RX8) (T := TX8) (N := 2) hx hb hts hin8 hown hK hP 0 rfl rfl 0 (by decide) (hts (.fieldLink RX8 9 "MissedPoints$Tape" "bytes" "[I") (by decide +kernel)) (fun _ h9 => h9) rfl dX8_append_10 ?_
    refine lv_aload_n hx hb dX8_append_13 rfl (lv_at hl 0 rfl) ?_
    refine va_get (D := D) (ci := 8) (v := .int 0) (C := RX8) (T := TX8) (N := 2) hx hb hts hin8 hown hK hP 0 rfl rfl 1 (by decide) (hts (.fieldLink RX8 15 "MissedPoints$Tape" "size" "I") (by decide +kernel)) (fun _ h9 => h9) rfl dX8_append_14 ?_
    refine lv_iload_n hx hb dX8_append_17 rfl (lv_at hl 1 rfl) ?_
    refine va_iast hx hb hK hP hD hS 1 0 rfl rfl (lz_vp (x := 0) (n := 120) (by decide) (by decide)) dX8_append_18 (fun H locs hP hD hS => ?_)
    have hP : va_P D cls [(h0, .inr (8, [.ref h1, .int 0])), (h1, .inl (cI, 120, .inl (upd (fun _ => 0) 0 x0)))] H := hP
    have hD : va_D A [(h0, .inr (8, [.ref h1, .int 0])), (h1, .inl (cI, 120, .inl (upd (fun _ => 0) 0 x0)))] := hD
    refine lv_aload_n hx hb dX8_append_19 rfl (lv_at hl 0 rfl) ?_
    refine lv_dup hx hb dX8_append_20 rfl ?_
    refine va_get (D := D) (ci := 8) (v := .int 0) (C := RX8) (T := TX8) (N := 2) hx hb hts hin8 hown hK hP 0 rfl rfl 1 (by decide) (hts (.fieldLink RX8 15 "MissedPoints$Tape" "size" "I") (by decide +kernel)) (fun _ h9 => h9) rfl dX8_append_21 ?_
    refine lv_iconst (v := 1) hx hb dX8_append_24 (by decide) ?_
    refine lv_iadd hx hb dX8_append_25 ?_
    refine lz_top (y := 1) (by decide) ?_
    refine va_put (D := D) (ci := 8) (v := .int 1) (ty := .int) (C := RX8) (T := TX8) (N := 2) hx hb hts hin8 tyX8 tyX8_ok nmX8 hown hK hP hD hS 0 rfl rfl 1 (by decide) (hts (.fieldLink RX8 15 "MissedPoints$Tape" "size" "I") (by decide +kernel)) (fun _ h9 => h9) rfl (by decide +kernel) rfl rfl (Nat.le_of_ble_eq_true rfl) dX8_append_26 (fun H locs hP hD hS => ?_)
    have hP : va_P D cls [(h0, .inr (8, [.ref h1, .int 1])), (h1, .inl (cI, 120, .inl (upd (fun _ => 0) 0 x0)))] H := hP
    have hD : va_D A [(h0, .inr (8, [.ref h1, .int 1])), (h1, .inl (cI, 120, .inl (upd (fun _ => 0) 0 x0)))] := hD
    have hP9 := hP.sub (ws' := [(h0, .inr (8, [.ref h1, .int 1])), (h1, .inl (cI, 120, .inl (upd (fun _ => 0) 0 x0)))]) [0, 1] rfl
    have hD9 := hD.sub (ws' := [(h0, .inr (8, [.ref h1, .int 1])), (h1, .inl (cI, 120, .inl (upd (fun _ => 0) 0 x0)))]) [0, 1] (by decide) rfl
    subst hAe
    exact W.vret hx hb hr (fun t ht hW => ⟨⟨(), rfl, trivial, by rw [ht]; exact hP9, hD9⟩, hS.F ht⟩) hS.2.2 dX8_append_29
set_option maxHeartbeats 4000000 in
set_option maxRecDepth 100000 in
theorem c_X8_append_1 (l : Launch) (D : va_G) (cI cS : ClassId) (sz : Nat) (h0 h1 : Nat) (f0 : Nat → Int32) (x0 : Int32) : Met l yX8_append wsX8_append ({ frames := 0, cells := 0, slots := 0, locals := 0 }) (PQ D cI cS [(h0, .inr (8, [.ref h1, .int 1])), (h1, .inl (cI, 120, .inl f0))] sz [.ref h0, .int x0]) (QV D [(h0, .inr (8, [.ref h1, .int 1])), (h1, .inl (cI, 120, .inl f0))] [(h0, .inr (8, [.ref h1, .int 2])), (h1, .inl (cI, 120, .inl (upd f0 1 x0)))] sz) 0 0 (va_A [(h0, .inr (8, [.ref h1, .int 1])), (h1, .inl (cI, 120, .inl f0))] sz) := by
  refine Met.ofW (cc := cX8_append) (maxL := 2) (ret := none) (by decide) rfl ?_
  intro p e s m args below meth c s₁ B hml hv
  obtain ⟨rfl, hsz, hP, hKK, hD0⟩ := hv
  have hx := B.exec
  have hb := B.bytes
  have hr := B.returns
  have hts := atoms_spec (ws := wsX8_append) B.pre
  have hown : s.vm.findClass RX8 = some m.cls := findClass_of_methodNamed B.named
  have hlocks := B.notSynchronized
  have hK := hKK.1
  have hN := hKK.2
  have hin8 : ∀ w ∈ wsX80, w ∈ wsX8_append := by decide +kernel
  subst hsz
  have hD := hD0.self (sz := s.heap.size)
  obtain ⟨A, hAe⟩ : ∃ A, A = va_A [(h0, .inr (8, [.ref h1, .int 1])), (h1, .inl (cI, 120, .inl f0))] s.heap.size := ⟨_, rfl⟩
  rw [← hAe] at hD
  have hA : ∀ q : Nat, s.heap.size ≤ q → A q := fun q h => by rw [hAe]; exact Or.inr h
  have hS : va_S A s.heap s.heap [] := va_S.rf
  have hl := lv_entry ([.ref h0, .int x0]) (n := 2) (Nat.le_of_ble_eq_true rfl)
  rw [lg_entry_eq]
  generalize (lg_sl ([.ref h0, .int x0]) ++ List.replicate (2 - (lg_sl ([.ref h0, .int x0])).length) Slot.unset).toArray = ls at hl ⊢
  have hl : lv_has ls 2 [(0, .ref h0), (1, .int x0)] := hl
  refine lv_aload_n hx hb dX8_append_0 rfl (lv_at hl 0 rfl) ?_
  refine va_get (D := D) (ci := 8) (v := .int 1) (C := RX8) (T := TX8) (N := 2) hx hb hts hin8 hown hK hP 0 rfl rfl 1 (by decide) (hts (.fieldLink RX8 15 "MissedPoints$Tape" "size" "I") (by decide +kernel)) (fun _ h9 => h9) rfl dX8_append_1 ?_
  refine lv_bipush (v := 120) hx hb dX8_append_4 (by decide) ?_
  refine lv_icmp_ge (tgt := 29) hx hb dX8_append_6 (by decide) (fun c3575 => ?_) (fun c3575 => ?_)
  · exact absurd c3575 (by decide)
  · refine lv_aload_n hx hb dX8_append_9 rfl (lv_at hl 0 rfl) ?_
    refine va_get (D := D) (ci := 8) (v := .ref h1) (C := RX8) (T := TX8) (N := 2) hx hb hts hin8 hown hK hP 0 rfl rfl 0 (by decide) (hts (.fieldLink RX8 9 "MissedPoints$Tape" "bytes" "[I") (by decide +kernel)) (fun _ h9 => h9) rfl dX8_append_10 ?_
    refine lv_aload_n hx hb dX8_append_13 rfl (lv_at hl 0 rfl) ?_
    refine va_get (D := D) (ci := 8) (v := .int 1) (C := RX8) (T := TX8) (N := 2) hx hb hts hin8 hown hK hP 0 rfl rfl 1 (by decide) (hts (.fieldLink RX8 15 "MissedPoints$Tape" "size" "I") (by decide +kernel)) (fun _ h9 => h9) rfl dX8_append_14 ?_
    refine lv_iload_n hx hb dX8_append_17 rfl (lv_at hl 1 rfl) ?_
    refine va_iast hx hb hK hP hD hS 1 0 rfl rfl (lz_vp (x := 1) (n := 120) (by decide) (by decide)) dX8_append_18 (fun H locs hP hD hS => ?_)
    have hP : va_P D cls [(h0, .inr (8, [.ref h1, .int 1])), (h1, .inl (cI, 120, .inl (upd f0 1 x0)))] H := hP
    have hD : va_D A [(h0, .inr (8, [.ref h1, .int 1])), (h1, .inl (cI, 120, .inl (upd f0 1 x0)))] := hD
    refine lv_aload_n hx hb dX8_append_19 rfl (lv_at hl 0 rfl) ?_
    refine lv_dup hx hb dX8_append_20 rfl ?_
    refine va_get (D := D) (ci := 8) (v := .int 1) (C := RX8) (T := TX8) (N := 2) hx hb hts hin8 hown hK hP 0 rfl rfl 1 (by decide) (hts (.fieldLink RX8 15 "MissedPoints$Tape" "size" "I") (by decide +kernel)) (fun _ h9 => h9) rfl dX8_append_21 ?_
    refine lv_iconst (v := 1) hx hb dX8_append_24 (by decide) ?_
    refine lv_iadd hx hb dX8_append_25 ?_
    refine lz_top (y := 2) (by decide) ?_
    refine va_put (D := D) (ci := 8) (v := .int 2) (ty := .int) (C := RX8) (T := TX8) (N := 2) hx hb hts hin8 tyX8 tyX8_ok nmX8 hown hK hP hD hS 0 rfl rfl 1 (by decide) (hts (.fieldLink RX8 15 "MissedPoints$Tape" "size" "I") (by decide +kernel)) (fun _ h9 => h9) rfl (by decide +kernel) rfl rfl (Nat.le_of_ble_eq_true rfl) dX8_append_26 (fun H locs hP hD hS => ?_)
    have hP : va_P D cls [(h0, .inr (8, [.ref h1, .int 2])), (h1, .inl (cI, 120, .inl (upd f0 1 x0)))] H := hP
    have hD : va_D A [(h0, .inr (8, [.ref h1, .int 2])), (h1, .inl (cI, 120, .inl (upd f0 1 x0)))] := hD
    have hP9 := hP.sub (ws' := [(h0, .inr (8, [.ref h1, .int 2])), (h1, .inl (cI, 120, .inl (upd f0 1 x0)))]) [0, 1] rfl
    have hD9 := hD.sub (ws' := [(h0, .inr (8, [.ref h1, .int 2])), (h1, .inl (cI, 120, .inl (upd f0 1 x0)))]) [0, 1] (by decide) rfl
    subst hAe
    exact W.vret hx hb hr (fun t ht hW => ⟨⟨(), rfl, trivial, by rw [ht]; exact hP9, hD9⟩, hS.F ht⟩) hS.2.2 dX8_append_29
set_option maxHeartbeats 4000000 in
set_option maxRecDepth 100000 in
theorem c_X8_append_2 (l : Launch) (D : va_G) (cI cS : ClassId) (sz : Nat) (h0 h1 : Nat) (f0 : Nat → Int32) (x0 : Int32) : Met l yX8_append wsX8_append ({ frames := 0, cells := 0, slots := 0, locals := 0 }) (PQ D cI cS [(h0, .inr (8, [.ref h1, .int 2])), (h1, .inl (cI, 120, .inl f0))] sz [.ref h0, .int x0]) (QV D [(h0, .inr (8, [.ref h1, .int 2])), (h1, .inl (cI, 120, .inl f0))] [(h0, .inr (8, [.ref h1, .int 3])), (h1, .inl (cI, 120, .inl (upd f0 2 x0)))] sz) 0 0 (va_A [(h0, .inr (8, [.ref h1, .int 2])), (h1, .inl (cI, 120, .inl f0))] sz) := by
  refine Met.ofW (cc := cX8_append) (maxL := 2) (ret := none) (by decide) rfl ?_
  intro p e s m args below meth c s₁ B hml hv
  obtain ⟨rfl, hsz, hP, hKK, hD0⟩ := hv
  have hx := B.exec
  have hb := B.bytes
  have hr := B.returns
  have hts := atoms_spec (ws := wsX8_append) B.pre
  have hown : s.vm.findClass RX8 = some m.cls := findClass_of_methodNamed B.named
  have hlocks := B.notSynchronized
  have hK := hKK.1
  have hN := hKK.2
  have hin8 : ∀ w ∈ wsX80, w ∈ wsX8_append := by decide +kernel
  subst hsz
  have hD := hD0.self (sz := s.heap.size)
  obtain ⟨A, hAe⟩ : ∃ A, A = va_A [(h0, .inr (8, [.ref h1, .int 2])), (h1, .inl (cI, 120, .inl f0))] s.heap.size := ⟨_, rfl⟩
  rw [← hAe] at hD
  have hA : ∀ q : Nat, s.heap.size ≤ q → A q := fun q h => by rw [hAe]; exact Or.inr h
  have hS : va_S A s.heap s.heap [] := va_S.rf
  have hl := lv_entry ([.ref h0, .int x0]) (n := 2) (Nat.le_of_ble_eq_true rfl)
  rw [lg_entry_eq]
  generalize (lg_sl ([.ref h0, .int x0]) ++ List.replicate (2 - (lg_sl ([.ref h0, .int x0])).length) Slot.unset).toArray = ls at hl ⊢
  have hl : lv_has ls 2 [(0, .ref h0), (1, .int x0)] := hl
  refine lv_aload_n hx hb dX8_append_0 rfl (lv_at hl 0 rfl) ?_
  refine va_get (D := D) (ci := 8) (v := .int 2) (C := RX8) (T := TX8) (N := 2) hx hb hts hin8 hown hK hP 0 rfl rfl 1 (by decide) (hts (.fieldLink RX8 15 "MissedPoints$Tape" "size" "I") (by decide +kernel)) (fun _ h9 => h9) rfl dX8_append_1 ?_
  refine lv_bipush (v := 120) hx hb dX8_append_4 (by decide) ?_
  refine lv_icmp_ge (tgt := 29) hx hb dX8_append_6 (by decide) (fun c3585 => ?_) (fun c3585 => ?_)
  · exact absurd c3585 (by decide)
  · refine lv_aload_n hx hb dX8_append_9 rfl (lv_at hl 0 rfl) ?_
    refine va_get (D := D) (ci := 8) (v := .ref h1) (C := RX8) (T := TX8) (N := 2) hx hb hts hin8 hown hK hP 0 rfl rfl 0 (by decide) (hts (.fieldLink RX8 9 "MissedPoints$Tape" "bytes" "[I") (by decide +kernel)) (fun _ h9 => h9) rfl dX8_append_10 ?_
    refine lv_aload_n hx hb dX8_append_13 rfl (lv_at hl 0 rfl) ?_
    refine va_get (D := D) (ci := 8) (v := .int 2) (C := RX8) (T := TX8) (N := 2) hx hb hts hin8 hown hK hP 0 rfl rfl 1 (by decide) (hts (.fieldLink RX8 15 "MissedPoints$Tape" "size" "I") (by decide +kernel)) (fun _ h9 => h9) rfl dX8_append_14 ?_
    refine lv_iload_n hx hb dX8_append_17 rfl (lv_at hl 1 rfl) ?_
    refine va_iast hx hb hK hP hD hS 1 0 rfl rfl (lz_vp (x := 2) (n := 120) (by decide) (by decide)) dX8_append_18 (fun H locs hP hD hS => ?_)
    have hP : va_P D cls [(h0, .inr (8, [.ref h1, .int 2])), (h1, .inl (cI, 120, .inl (upd f0 2 x0)))] H := hP
    have hD : va_D A [(h0, .inr (8, [.ref h1, .int 2])), (h1, .inl (cI, 120, .inl (upd f0 2 x0)))] := hD
    refine lv_aload_n hx hb dX8_append_19 rfl (lv_at hl 0 rfl) ?_
    refine lv_dup hx hb dX8_append_20 rfl ?_
    refine va_get (D := D) (ci := 8) (v := .int 2) (C := RX8) (T := TX8) (N := 2) hx hb hts hin8 hown hK hP 0 rfl rfl 1 (by decide) (hts (.fieldLink RX8 15 "MissedPoints$Tape" "size" "I") (by decide +kernel)) (fun _ h9 => h9) rfl dX8_append_21 ?_
    refine lv_iconst (v := 1) hx hb dX8_append_24 (by decide) ?_
    refine lv_iadd hx hb dX8_append_25 ?_
    refine lz_top (y := 3) (by decide) ?_
    refine va_put (D := D) (ci := 8) (v := .int 3) (ty := .int) (C := RX8) (T := TX8) (N := 2) hx hb hts hin8 tyX8 tyX8_ok nmX8 hown hK hP hD hS 0 rfl rfl 1 (by decide) (hts (.fieldLink RX8 15 "MissedPoints$Tape" "size" "I") (by decide +kernel)) (fun _ h9 => h9) rfl (by decide +kernel) rfl rfl (Nat.le_of_ble_eq_true rfl) dX8_append_26 (fun H locs hP hD hS => ?_)
    have hP : va_P D cls [(h0, .inr (8, [.ref h1, .int 3])), (h1, .inl (cI, 120, .inl (upd f0 2 x0)))] H := hP
    have hD : va_D A [(h0, .inr (8, [.ref h1, .int 3])), (h1, .inl (cI, 120, .inl (upd f0 2 x0)))] := hD
    have hP9 := hP.sub (ws' := [(h0, .inr (8, [.ref h1, .int 3])), (h1, .inl (cI, 120, .inl (upd f0 2 x0)))]) [0, 1] rfl
    have hD9 := hD.sub (ws' := [(h0, .inr (8, [.ref h1, .int 3])), (h1, .inl (cI, 120, .inl (upd f0 2 x0)))]) [0, 1] (by decide) rfl
    subst hAe
    exact W.vret hx hb hr (fun t ht hW => ⟨⟨(), rfl, trivial, by rw [ht]; exact hP9, hD9⟩, hS.F ht⟩) hS.2.2 dX8_append_29
set_option maxHeartbeats 4000000 in
set_option maxRecDepth 100000 in
theorem c_X8_append_3 (l : Launch) (D : va_G) (cI cS : ClassId) (sz : Nat) (h0 h1 : Nat) (f0 : Nat → Int32) (x0 : Int32) : Met l yX8_append wsX8_append ({ frames := 0, cells := 0, slots := 0, locals := 0 }) (PQ D cI cS [(h0, .inr (8, [.ref h1, .int 3])), (h1, .inl (cI, 120, .inl f0))] sz [.ref h0, .int x0]) (QV D [(h0, .inr (8, [.ref h1, .int 3])), (h1, .inl (cI, 120, .inl f0))] [(h0, .inr (8, [.ref h1, .int 4])), (h1, .inl (cI, 120, .inl (upd f0 3 x0)))] sz) 0 0 (va_A [(h0, .inr (8, [.ref h1, .int 3])), (h1, .inl (cI, 120, .inl f0))] sz) := by
  refine Met.ofW (cc := cX8_append) (maxL := 2) (ret := none) (by decide) rfl ?_
  intro p e s m args below meth c s₁ B hml hv
  obtain ⟨rfl, hsz, hP, hKK, hD0⟩ := hv
  have hx := B.exec
  have hb := B.bytes
  have hr := B.returns
  have hts := atoms_spec (ws := wsX8_append) B.pre
  have hown : s.vm.findClass RX8 = some m.cls := findClass_of_methodNamed B.named
  have hlocks := B.notSynchronized
  have hK := hKK.1
  have hN := hKK.2
  have hin8 : ∀ w ∈ wsX80, w ∈ wsX8_append := by decide +kernel
  subst hsz
  have hD := hD0.self (sz := s.heap.size)
  obtain ⟨A, hAe⟩ : ∃ A, A = va_A [(h0, .inr (8, [.ref h1, .int 3])), (h1, .inl (cI, 120, .inl f0))] s.heap.size := ⟨_, rfl⟩
  rw [← hAe] at hD
  have hA : ∀ q : Nat, s.heap.size ≤ q → A q := fun q h => by rw [hAe]; exact Or.inr h
  have hS : va_S A s.heap s.heap [] := va_S.rf
  have hl := lv_entry ([.ref h0, .int x0]) (n := 2) (Nat.le_of_ble_eq_true rfl)
  rw [lg_entry_eq]
  generalize (lg_sl ([.ref h0, .int x0]) ++ List.replicate (2 - (lg_sl ([.ref h0, .int x0])).length) Slot.unset).toArray = ls at hl ⊢
  have hl : lv_has ls 2 [(0, .ref h0), (1, .int x0)] := hl
  refine lv_aload_n hx hb dX8_append_0 rfl (lv_at hl 0 rfl) ?_
  refine va_get (D := D) (ci := 8) (v := .int 3) (C := RX8) (T := TX8) (N := 2) hx hb hts hin8 hown hK hP 0 rfl rfl 1 (by decide) (hts (.fieldLink RX8 15 "MissedPoints$Tape" "size" "I") (by decide +kernel)) (fun _ h9 => h9) rfl dX8_append_1 ?_
  refine lv_bipush (v := 120) hx hb dX8_append_4 (by decide) ?_
  refine lv_icmp_ge (tgt := 29) hx hb dX8_append_6 (by decide) (fun c3596 => ?_) (fun c3596 => ?_)
  · exact absurd c3596 (by decide)
  · refine lv_aload_n hx hb dX8_append_9 rfl (lv_at hl 0 rfl) ?_
    refine va_get (D := D) (ci := 8) (v := .ref h1) (C := RX8) (T := TX8) (N := 2) hx hb hts hin8 hown hK hP 0 rfl rfl 0 (by decide) (hts (.fieldLink RX8 9 "MissedPoints$Tape" "bytes" "[I") (by decide +kernel)) (fun _ h9 => h9) rfl dX8_append_10 ?_
    refine lv_aload_n hx hb dX8_append_13 rfl (lv_at hl 0 rfl) ?_
    refine va_get (D := D) (ci := 8) (v := .int 3) (C := RX8) (T := TX8) (N := 2) hx hb hts hin8 hown hK hP 0 rfl rfl 1 (by decide) (hts (.fieldLink RX8 15 "MissedPoints$Tape" "size" "I") (by decide +kernel)) (fun _ h9 => h9) rfl dX8_append_14 ?_
    refine lv_iload_n hx hb dX8_append_17 rfl (lv_at hl 1 rfl) ?_
    refine va_iast hx hb hK hP hD hS 1 0 rfl rfl (lz_vp (x := 3) (n := 120) (by decide) (by decide)) dX8_append_18 (fun H locs hP hD hS => ?_)
    have hP : va_P D cls [(h0, .inr (8, [.ref h1, .int 3])), (h1, .inl (cI, 120, .inl (upd f0 3 x0)))] H := hP
    have hD : va_D A [(h0, .inr (8, [.ref h1, .int 3])), (h1, .inl (cI, 120, .inl (upd f0 3 x0)))] := hD
    refine lv_aload_n hx hb dX8_append_19 rfl (lv_at hl 0 rfl) ?_
    refine lv_dup hx hb dX8_append_20 rfl ?_
    refine va_get (D := D) (ci := 8) (v := .int 3) (C := RX8) (T := TX8) (N := 2) hx hb hts hin8 hown hK hP 0 rfl rfl 1 (by decide) (hts (.fieldLink RX8 15 "MissedPoints$Tape" "size" "I") (by decide +kernel)) (fun _ h9 => h9) rfl dX8_append_21 ?_
    refine lv_iconst (v := 1) hx hb dX8_append_24 (by decide) ?_
    refine lv_iadd hx hb dX8_append_25 ?_
    refine lz_top (y := 4) (by decide) ?_
    refine va_put (D := D) (ci := 8) (v := .int 4) (ty := .int) (C := RX8) (T := TX8) (N := 2) hx hb hts hin8 tyX8 tyX8_ok nmX8 hown hK hP hD hS 0 rfl rfl 1 (by decide) (hts (.fieldLink RX8 15 "MissedPoints$Tape" "size" "I") (by decide +kernel)) (fun _ h9 => h9) rfl (by decide +kernel) rfl rfl (Nat.le_of_ble_eq_true rfl) dX8_append_26 (fun H locs hP hD hS => ?_)
    have hP : va_P D cls [(h0, .inr (8, [.ref h1, .int 4])), (h1, .inl (cI, 120, .inl (upd f0 3 x0)))] H := hP
    have hD : va_D A [(h0, .inr (8, [.ref h1, .int 4])), (h1, .inl (cI, 120, .inl (upd f0 3 x0)))] := hD
    have hP9 := hP.sub (ws' := [(h0, .inr (8, [.ref h1, .int 4])), (h1, .inl (cI, 120, .inl (upd f0 3 x0)))]) [0, 1] rfl
    have hD9 := hD.sub (ws' := [(h0, .inr (8, [.ref h1, .int 4])), (h1, .inl (cI, 120, .inl (upd f0 3 x0)))]) [0, 1] (by decide) rfl
    subst hAe
    exact W.vret hx hb hr (fun t ht hW => ⟨⟨(), rfl, trivial, by rw [ht]; exact hP9, hD9⟩, hS.F ht⟩) hS.2.2 dX8_append_29
set_option maxHeartbeats 4000000 in
set_option maxRecDepth 100000 in
theorem c_X11_feed_0 (l : Launch) (D : va_G) (cI cS : ClassId) (sz : Nat) (h0 h1 h2 h3 h4 h5 h6 h7 h8 h9 h10 h11 h12 h13 h14 h23 : Nat) (x0 x1 : Int32) : Met l yX11_feed wsX11_feed ({ frames := 1, cells := 0, slots := 0, locals := 40 }) (PQ D cI cS [(h0, .inr (11, [.ref h1, .ref h2, .ref h3, .ref h4, .ref h5, .ref h6, .ref h7, .int 0, .int 0, .ref h8, .ref h9, .ref h10, .ref h11, .ref h12, .ref h13, .ref h14])), (h9, .inr (8, [.ref h23, .int 0])), (h23, .inl (cI, 120, .inl (fun _ => 0)))] sz [.ref h0, .int x0, .int x1]) (QI D [(h0, .inr (11, [.ref h1, .ref h2, .ref h3, .ref h4, .ref h5, .ref h6, .ref h7, .int 0, .int 0, .ref h8, .ref h9, .ref h10, .ref h11, .ref h12, .ref h13, .ref h14])), (h9, .inr (8, [.ref h23, .int 0])), (h23, .inl (cI, 120, .inl (fun _ => 0)))] [] sz (fun r => r = if x1 < 1 then ((-2) : Int32) else (if x1 ≤ 4 then (if x1 = 1 then (1 : Int32) else (if x1 = 2 then (2 : Int32) else (if x1 = 3 then (3 : Int32) else (4 : Int32)))) else ((-2) : Int32)))) 0 0 (va_A [(h0, .inr (11, [.ref h1, .ref h2, .ref h3, .ref h4, .ref h5, .ref h6, .ref h7, .int 0, .int 0, .ref h8, .ref h9, .ref h10, .ref h11, .ref h12, .ref h13, .ref h14])), (h9, .inr (8, [.ref h23, .int 0])), (h23, .inl (cI, 120, .inl (fun _ => 0)))] sz) := by
  refine Met.ofW (cc := cX11_feed) (maxL := 4) (ret := (some .int)) (by decide) rfl ?_
  intro p e s m args below meth c s₁ B hml hv
  obtain ⟨rfl, hsz, hP, hKK, hD0⟩ := hv
  have hx := B.exec
  have hb := B.bytes
  have hr := B.returns
  have hts := atoms_spec (ws := wsX11_feed) B.pre
  have hown : s.vm.findClass RX11 = some m.cls := findClass_of_methodNamed B.named
  have hlocks := B.notSynchronized
  have hK := hKK.1
  have hN := hKK.2
  have hin8 : ∀ w ∈ wsX80, w ∈ wsX11_feed := by decide +kernel
  have hin11 : ∀ w ∈ wsX110, w ∈ wsX11_feed := by decide +kernel
  subst hsz
  have hD := hD0.self (sz := s.heap.size)
  obtain ⟨A, hAe⟩ : ∃ A, A = va_A [(h0, .inr (11, [.ref h1, .ref h2, .ref h3, .ref h4, .ref h5, .ref h6, .ref h7, .int 0, .int 0, .ref h8, .ref h9, .ref h10, .ref h11, .ref h12, .ref h13, .ref h14])), (h9, .inr (8, [.ref h23, .int 0])), (h23, .inl (cI, 120, .inl (fun _ => 0)))] s.heap.size := ⟨_, rfl⟩
  rw [← hAe] at hD
  have hA : ∀ q : Nat, s.heap.size ≤ q → A q := fun q h => by rw [hAe]; exact Or.inr h
  have hS : va_S A s.heap s.heap [] := va_S.rf
  have hl := lv_entry ([.ref h0, .int x0, .int x1]) (n := 4) (Nat.le_of_ble_eq_true rfl)
  rw [lg_entry_eq]
  generalize (lg_sl ([.ref h0, .int x0, .int x1]) ++ List.replicate (4 - (lg_sl ([.ref h0, .int x0, .int x1])).length) Slot.unset).toArray = ls at hl ⊢
  have hl : lv_has ls 4 [(0, .ref h0), (1, .int x0), (2, .int x1)] := hl
  refine lv_iload_n hx hb dX11_feed_0 rfl (lv_at hl 2 rfl) ?_
  refine lv_iconst (v := 1) hx hb dX11_feed_1 (by decide) ?_
  refine lv_icmp_lt (tgt := 10) hx hb dX11_feed_2 (by decide) (fun c3599 => ?_) (fun c3599 => ?_)
  · refine lv_bipush (v := (-2)) hx hb dX11_feed_10 (by decide) ?_
    have hP9 := hP.sub (ws' := []) [] rfl
    have hD9 := hD.sub (ws' := []) [] (by decide) rfl
    subst hAe
    exact W.iret (v := (-2)) hx hb hr (fun t ht hW => ⟨⟨_, (), rfl, by rw [if_pos c3599], by rw [ht]; exact hP9, hD9⟩, hS.F ht⟩) hS.2.2 dX11_feed_12
  · refine lv_iload_n hx hb dX11_feed_5 rfl (lv_at hl 2 rfl) ?_
    refine lv_iconst (v := 4) hx hb dX11_feed_6 (by decide) ?_
    refine lv_icmp_le (tgt := 13) hx hb dX11_feed_7 (by decide) (fun c3600 => ?_) (fun c3600 => ?_)
    · refine lv_iload_n hx hb dX11_feed_13 rfl (lv_at hl 2 rfl) ?_
      refine lv_bipush (v := 120) hx hb dX11_feed_14 (by decide) ?_
      refine lv_aload_n hx hb dX11_feed_16 rfl (lv_at hl 0 rfl) ?_
      refine va_get (D := D) (ci := 11) (v := .ref h9) (C := RX11) (T := TX11) (N := 16) hx hb hts hin11 hown hK hP 0 rfl rfl 10 (by decide) (hts (.fieldLink RX11 60 "MissedPoints" "tape" "LMissedPoints$Tape;") (by decide +kernel)) (fun _ h9 => h9) rfl dX11_feed_17 ?_
      refine va_getN (D := D) (ci := 8) (v := .int 0) (C := RX8) (T := TX8) (N := 2) hx hb hts hin8 hown hK hP 1 rfl rfl 1 (by decide) (va_Nw.use rfl hN.1) (fun _ h9 => h9) rfl dX11_feed_20 ?_
      refine lv_isub hx hb dX11_feed_23 ?_
      refine lz_top (y := 120) (by decide) ?_
      refine lv_icmp_le (tgt := 30) hx hb dX11_feed_24 (by decide) (fun c3601 => ?_) (fun c3601 => ?_)
      · by_cases k3602 : x1 = 1
        · subst k3602
          refine lv_iload_n hx hb dX11_feed_30 rfl (lv_at hl 2 rfl) ?_
          refine lv_iconst (v := 1) hx hb dX11_feed_31 (by decide) ?_
          refine lv_isub hx hb dX11_feed_32 ?_
          refine lz_top (y := 0) (by decide) ?_
          refine lv_istore_n (lv' := [(3, .int 0), (0, .ref h0), (1, .int x0), (2, .int 1)]) hx hb dX11_feed_33 rfl hl (by decide) rfl (fun ls hl => ?_)
          refine lv_iload_n hx hb dX11_feed_34 rfl (lv_at hl 0 rfl) ?_
          refine lv_if_lt (tgt := 61) hx hb dX11_feed_35 (by decide) (fun c3603 => ?_) (fun c3603 => ?_)
          · exact absurd c3603 (by decide)
          · refine lv_aload_n hx hb dX11_feed_38 rfl (lv_at hl 1 rfl) ?_
            refine va_get (D := D) (ci := 11) (v := .ref h9) (C := RX11) (T := TX11) (N := 16) hx hb hts hin11 hown hK hP 0 rfl rfl 10 (by decide) (hts (.fieldLink RX11 60 "MissedPoints" "tape" "LMissedPoints$Tape;") (by decide +kernel)) (fun _ h9 => h9) rfl dX11_feed_39 ?_
            refine lv_iload_n hx hb dX11_feed_42 rfl (lv_at hl 2 rfl) ?_
            refine lv_bipush (v := 8) hx hb dX11_feed_43 (by decide) ?_
            refine lv_iload_n hx hb dX11_feed_45 rfl (lv_at hl 0 rfl) ?_
            refine lv_imul hx hb dX11_feed_46 ?_
            refine lz_top (y := 0) (by decide) ?_
            refine lv_iushr (v := (Int32.toUInt32 x0 >>> (Int32.toUInt32 0 &&& Int32.toUInt32 31)).toInt32) hx hb dX11_feed_47 rfl ?_
            refine lv_sipush (v := 255) hx hb dX11_feed_48 (by decide) ?_
            refine lv_iand hx hb dX11_feed_51 ?_
            have hPc := hP.sub (ws' := [(h9, .inr (8, [.ref h23, .int 0])), (h23, .inl (cI, 120, .inl (fun _ => 0)))]) [1, 2] rfl
            have hDc := hD.sub (ws' := [(h9, .inr (8, [.ref h23, .int 0])), (h23, .inl (cI, 120, .inl (fun _ => 0)))]) [1, 2] (by decide) rfl
            refine lz_qv (wr := [(h0, .inr (11, [.ref h1, .ref h2, .ref h3, .ref h4, .ref h5, .ref h6, .ref h7, .int 0, .int 0, .ref h8, .ref h9, .ref h10, .ref h11, .ref h12, .ref h13, .ref h14]))]) (w1 := [(h9, .inr (8, [.ref h23, .int 1])), (h23, .inl (cI, 120, .inl (upd (fun _ => 0) 0 (((Int32.toUInt32 x0 >>> (Int32.toUInt32 0 &&& Int32.toUInt32 31)).toInt32) &&& (255 : Int32)))))]) (As := [.int (((Int32.toUInt32 x0 >>> (Int32.toUInt32 0 &&& Int32.toUInt32 31)).toInt32) &&& (255 : Int32))]) (rest := []) ⟨hx, hb, hml, hown, hts⟩ (c_X8_append_0 l D cI cS _ h9 h23 (((Int32.toUInt32 x0 >>> (Int32.toUInt32 0 &&& Int32.toUInt32 31)).toInt32) &&& (255 : Int32))) hKK hP hD hS hA [1, 2] [0] (by decide) rfl rfl (by decide) (by decide) hPc hDc (ci := 8) rfl rfl (cwV 1 hts gX11_feed_X8_append rfl rfl rfl (by decide +kernel) ⟨Nat.le_of_ble_eq_true rfl, Nat.le_of_ble_eq_true rfl⟩) rfl hl.1 rfl (Nat.le_of_ble_eq_true rfl) dX11_feed_52 ⟨Nat.le_of_ble_eq_true rfl, Nat.le_of_ble_eq_true rfl⟩ (fun H locs hP hD hS => ?_)
            have hP : va_P D cls [(h0, .inr (11, [.ref h1, .ref h2, .ref h3, .ref h4, .ref h5, .ref h6, .ref h7, .int 0, .int 0, .ref h8, .ref h9, .ref h10, .ref h11, .ref h12, .ref h13, .ref h14])), (h9, .inr (8, [.ref h23, .int 1])), (h23, .inl (cI, 120, .inl (upd (fun _ => 0) 0 (((Int32.toUInt32 x0 >>> (Int32.toUInt32 0 &&& Int32.toUInt32 31)).toInt32) &&& (255 : Int32)))))] H := hP
            have hD : va_D A [(h0, .inr (11, [.ref h1, .ref h2, .ref h3, .ref h4, .ref h5, .ref h6, .ref h7, .int 0, .int 0, .ref h8, .ref h9, .ref h10, .ref h11, .ref h12, .ref h13, .ref h14])), (h9, .inr (8, [.ref h23, .int 1])), (h23, .inl (cI, 120, .inl (upd (fun _ => 0) 0 (((Int32.toUInt32 x0 >>> (Int32.toUInt32 0 &&& Int32.toUInt32 31)).toInt32) &&& (255 : Int32)))))] := hD
            refine lv_iinc (v := (-1)) (lv' := [(3, .int (-1)), (0, .ref h0), (1, .int x0), (2, .int 1)]) hx hb dX11_feed_55 hl (k := 0) rfl (by decide) (by decide) rfl (fun ls hl => ?_)
            refine lv_goto (tgt := 34) hx hb dX11_feed_58 (by decide) ?_
            refine lv_iload_n hx hb dX11_feed_34 rfl (lv_at hl 0 rfl) ?_
            refine lv_if_lt (tgt := 61) hx hb dX11_feed_35 (by decide) (fun c3605 => ?_) (fun c3605 => ?_)
            · refine lv_aload_n hx hb dX11_feed_61 rfl (lv_at hl 1 rfl) ?_
              refine va_get (D := D) (ci := 11) (v := .ref h9) (C := RX11) (T := TX11) (N := 16) hx hb hts hin11 hown hK hP 0 rfl rfl 10 (by decide) (hts (.fieldLink RX11 60 "MissedPoints" "tape" "LMissedPoints$Tape;") (by decide +kernel)) (fun _ h9 => h9) rfl dX11_feed_62 ?_
              refine va_getN (D := D) (ci := 8) (v := .int 1) (C := RX8) (T := TX8) (N := 2) hx hb hts hin8 hown hK hP 1 rfl rfl 1 (by decide) (va_Nw.use rfl hN.1) (fun _ h9 => h9) rfl dX11_feed_65 ?_
              have hP9 := hP.sub (ws' := []) [] rfl
              have hD9 := hD.sub (ws' := []) [] (by decide) rfl
              subst hAe
              exact W.iret (v := 1) hx hb hr (fun t ht hW => ⟨⟨_, (), rfl, by rw [if_neg c3599, if_pos c3600, if_pos rfl], by rw [ht]; exact hP9, hD9⟩, hS.F ht⟩) hS.2.2 dX11_feed_68
            · exact absurd c3605 (by decide)
        · by_cases k3606 : x1 = 2
          · subst k3606
            refine lv_iload_n hx hb dX11_feed_30 rfl (lv_at hl 2 rfl) ?_
            refine lv_iconst (v := 1) hx hb dX11_feed_31 (by decide) ?_
            refine lv_isub hx hb dX11_feed_32 ?_
            refine lz_top (y := 1) (by decide) ?_
            refine lv_istore_n (lv' := [(3, .int 1), (0, .ref h0), (1, .int x0), (2, .int 2)]) hx hb dX11_feed_33 rfl hl (by decide) rfl (fun ls hl => ?_)
            refine lv_iload_n hx hb dX11_feed_34 rfl (lv_at hl 0 rfl) ?_
            refine lv_if_lt (tgt := 61) hx hb dX11_feed_35 (by decide) (fun c3607 => ?_) (fun c3607 => ?_)
            · exact absurd c3607 (by decide)
            · refine lv_aload_n hx hb dX11_feed_38 rfl (lv_at hl 1 rfl) ?_
              refine va_get (D := D) (ci := 11) (v := .ref h9) (C := RX11) (T := TX11) (N := 16) hx hb hts hin11 hown hK hP 0 rfl rfl 10 (by decide) (hts (.fieldLink RX11 60 "MissedPoints" "tape" "LMissedPoints$Tape;") (by decide +kernel)) (fun _ h9 => h9) rfl dX11_feed_39 ?_
              refine lv_iload_n hx hb dX11_feed_42 rfl (lv_at hl 2 rfl) ?_
              refine lv_bipush (v := 8) hx hb dX11_feed_43 (by decide) ?_
              refine lv_iload_n hx hb dX11_feed_45 rfl (lv_at hl 0 rfl) ?_
              refine lv_imul hx hb dX11_feed_46 ?_
              refine lz_top (y := 8) (by decide) ?_
              refine lv_iushr (v := (Int32.toUInt32 x0 >>> (Int32.toUInt32 8 &&& Int32.toUInt32 31)).toInt32) hx hb dX11_feed_47 rfl ?_
              refine lv_sipush (v := 255) hx hb dX11_feed_48 (by decide) ?_
              refine lv_iand hx hb dX11_feed_51 ?_
              have hPc := hP.sub (ws' := [(h9, .inr (8, [.ref h23, .int 0])), (h23, .inl (cI, 120, .inl (fun _ => 0)))]) [1, 2] rfl
              have hDc := hD.sub (ws' := [(h9, .inr (8, [.ref h23, .int 0])), (h23, .inl (cI, 120, .inl (fun _ => 0)))]) [1, 2] (by decide) rfl
              refine lz_qv (wr := [(h0, .inr (11, [.ref h1, .ref h2, .ref h3, .ref h4, .ref h5, .ref h6, .ref h7, .int 0, .int 0, .ref h8, .ref h9, .ref h10, .ref h11, .ref h12, .ref h13, .ref h14]))]) (w1 := [(h9, .inr (8, [.ref h23, .int 1])), (h23, .inl (cI, 120, .inl (upd (fun _ => 0) 0 (((Int32.toUInt32 x0 >>> (Int32.toUInt32 8 &&& Int32.toUInt32 31)).toInt32) &&& (255 : Int32)))))]) (As := [.int (((Int32.toUInt32 x0 >>> (Int32.toUInt32 8 &&& Int32.toUInt32 31)).toInt32) &&& (255 : Int32))]) (rest := []) ⟨hx, hb, hml, hown, hts⟩ (c_X8_append_0 l D cI cS _ h9 h23 (((Int32.toUInt32 x0 >>> (Int32.toUInt32 8 &&& Int32.toUInt32 31)).toInt32) &&& (255 : Int32))) hKK hP hD hS hA [1, 2] [0] (by decide) rfl rfl (by decide) (by decide) hPc hDc (ci := 8) rfl rfl (cwV 1 hts gX11_feed_X8_append rfl rfl rfl (by decide +kernel) ⟨Nat.le_of_ble_eq_true rfl, Nat.le_of_ble_eq_true rfl⟩) rfl hl.1 rfl (Nat.le_of_ble_eq_true rfl) dX11_feed_52 ⟨Nat.le_of_ble_eq_true rfl, Nat.le_of_ble_eq_true rfl⟩ (fun H locs hP hD hS => ?_)
              have hP : va_P D cls [(h0, .inr (11, [.ref h1, .ref h2, .ref h3, .ref h4, .ref h5, .ref h6, .ref h7, .int 0, .int 0, .ref h8, .ref h9, .ref h10, .ref h11, .ref h12, .ref h13, .ref h14])), (h9, .inr (8, [.ref h23, .int 1])), (h23, .inl (cI, 120, .inl (upd (fun _ => 0) 0 (((Int32.toUInt32 x0 >>> (Int32.toUInt32 8 &&& Int32.toUInt32 31)).toInt32) &&& (255 : Int32)))))] H := hP
              have hD : va_D A [(h0, .inr (11, [.ref h1, .ref h2, .ref h3, .ref h4, .ref h5, .ref h6, .ref h7, .int 0, .int 0, .ref h8, .ref h9, .ref h10, .ref h11, .ref h12, .ref h13, .ref h14])), (h9, .inr (8, [.ref h23, .int 1])), (h23, .inl (cI, 120, .inl (upd (fun _ => 0) 0 (((Int32.toUInt32 x0 >>> (Int32.toUInt32 8 &&& Int32.toUInt32 31)).toInt32) &&& (255 : Int32)))))] := hD
              refine lv_iinc (v := 0) (lv' := [(3, .int 0), (0, .ref h0), (1, .int x0), (2, .int 2)]) hx hb dX11_feed_55 hl (k := 0) rfl (by decide) (by decide) rfl (fun ls hl => ?_)
              refine lv_goto (tgt := 34) hx hb dX11_feed_58 (by decide) ?_
              refine lv_iload_n hx hb dX11_feed_34 rfl (lv_at hl 0 rfl) ?_
              refine lv_if_lt (tgt := 61) hx hb dX11_feed_35 (by decide) (fun c3609 => ?_) (fun c3609 => ?_)
              · exact absurd c3609 (by decide)
              · refine lv_aload_n hx hb dX11_feed_38 rfl (lv_at hl 1 rfl) ?_
                refine va_get (D := D) (ci := 11) (v := .ref h9) (C := RX11) (T := TX11) (N := 16) hx hb hts hin11 hown hK hP 0 rfl rfl 10 (by decide) (hts (.fieldLink RX11 60 "MissedPoints" "tape" "LMissedPoints$Tape;") (by decide +kernel)) (fun _ h9 => h9) rfl dX11_feed_39 ?_
                refine lv_iload_n hx hb dX11_feed_42 rfl (lv_at hl 2 rfl) ?_
                refine lv_bipush (v := 8) hx hb dX11_feed_43 (by decide) ?_
                refine lv_iload_n hx hb dX11_feed_45 rfl (lv_at hl 0 rfl) ?_
                refine lv_imul hx hb dX11_feed_46 ?_
                refine lz_top (y := 0) (by decide) ?_
                refine lv_iushr (v := (Int32.toUInt32 x0 >>> (Int32.toUInt32 0 &&& Int32.toUInt32 31)).toInt32) hx hb dX11_feed_47 rfl ?_
                refine lv_sipush (v := 255) hx hb dX11_feed_48 (by decide) ?_
                refine lv_iand hx hb dX11_feed_51 ?_
                have hPc := hP.sub (ws' := [(h9, .inr (8, [.ref h23, .int 1])), (h23, .inl (cI, 120, .inl (upd (fun _ => 0) 0 (((Int32.toUInt32 x0 >>> (Int32.toUInt32 8 &&& Int32.toUInt32 31)).toInt32) &&& (255 : Int32)))))]) [1, 2] rfl
                have hDc := hD.sub (ws' := [(h9, .inr (8, [.ref h23, .int 1])), (h23, .inl (cI, 120, .inl (upd (fun _ => 0) 0 (((Int32.toUInt32 x0 >>> (Int32.toUInt32 8 &&& Int32.toUInt32 31)).toInt32) &&& (255 : Int32)))))]) [1, 2] (by decide) rfl
                refine lz_qv (wr := [(h0, .inr (11, [.ref h1, .ref h2, .ref h3, .ref h4, .ref h5, .ref h6, .ref h7, .int 0, .int 0, .ref h8, .ref h9, .ref h10, .ref h11, .ref h12, .ref h13, .ref h14]))]) (w1 := [(h9, .inr (8, [.ref h23, .int 2])), (h23, .inl (cI, 120, .inl (upd (upd (fun _ => 0) 0 (((Int32.toUInt32 x0 >>> (Int32.toUInt32 8 &&& Int32.toUInt32 31)).toInt32) &&& (255 : Int32))) 1 (((Int32.toUInt32 x0 >>> (Int32.toUInt32 0 &&& Int32.toUInt32 31)).toInt32) &&& (255 : Int32)))))]) (As := [.int (((Int32.toUInt32 x0 >>> (Int32.toUInt32 0 &&& Int32.toUInt32 31)).toInt32) &&& (255 : Int32))]) (rest := []) ⟨hx, hb, hml, hown, hts⟩ (c_X8_append_1 l D cI cS _ h9 h23 ((upd (fun _ => 0) 0 (((Int32.toUInt32 x0 >>> (Int32.toUInt32 8 &&& Int32.toUInt32 31)).toInt32) &&& (255 : Int32)))) (((Int32.toUInt32 x0 >>> (Int32.toUInt32 0 &&& Int32.toUInt32 31)).toInt32) &&& (255 : Int32))) hKK hP hD hS hA [1, 2] [0] (by decide) rfl rfl (by decide) (by decide) hPc hDc (ci := 8) rfl rfl (cwV 1 hts gX11_feed_X8_append rfl rfl rfl (by decide +kernel) ⟨Nat.le_of_ble_eq_true rfl, Nat.le_of_ble_eq_true rfl⟩) rfl hl.1 rfl (Nat.le_of_ble_eq_true rfl) dX11_feed_52 ⟨Nat.le_of_ble_eq_true rfl, Nat.le_of_ble_eq_true rfl⟩ (fun H locs hP hD hS => ?_)
                have hP : va_P D cls [(h0, .inr (11, [.ref h1, .ref h2, .ref h3, .ref h4, .ref h5, .ref h6, .ref h7, .int 0, .int 0, .ref h8, .ref h9, .ref h10, .ref h11, .ref h12, .ref h13, .ref h14])), (h9, .inr (8, [.ref h23, .int 2])), (h23, .inl (cI, 120, .inl (upd (upd (fun _ => 0) 0 (((Int32.toUInt32 x0 >>> (Int32.toUInt32 8 &&& Int32.toUInt32 31)).toInt32) &&& (255 : Int32))) 1 (((Int32.toUInt32 x0 >>> (Int32.toUInt32 0 &&& Int32.toUInt32 31)).toInt32) &&& (255 : Int32)))))] H := hP
                have hD : va_D A [(h0, .inr (11, [.ref h1, .ref h2, .ref h3, .ref h4, .ref h5, .ref h6, .ref h7, .int 0, .int 0, .ref h8, .ref h9, .ref h10, .ref h11, .ref h12, .ref h13, .ref h14])), (h9, .inr (8, [.ref h23, .int 2])), (h23, .inl (cI, 120, .inl (upd (upd (fun _ => 0) 0 (((Int32.toUInt32 x0 >>> (Int32.toUInt32 8 &&& Int32.toUInt32 31)).toInt32) &&& (255 : Int32))) 1 (((Int32.toUInt32 x0 >>> (Int32.toUInt32 0 &&& Int32.toUInt32 31)).toInt32) &&& (255 : Int32)))))] := hD
                refine lv_iinc (v := (-1)) (lv' := [(3, .int (-1)), (0, .ref h0), (1, .int x0), (2, .int 2)]) hx hb dX11_feed_55 hl (k := 0) rfl (by decide) (by decide) rfl (fun ls hl => ?_)
                refine lv_goto (tgt := 34) hx hb dX11_feed_58 (by decide) ?_
                refine lv_iload_n hx hb dX11_feed_34 rfl (lv_at hl 0 rfl) ?_
                refine lv_if_lt (tgt := 61) hx hb dX11_feed_35 (by decide) (fun c3611 => ?_) (fun c3611 => ?_)
                · refine lv_aload_n hx hb dX11_feed_61 rfl (lv_at hl 1 rfl) ?_
                  refine va_get (D := D) (ci := 11) (v := .ref h9) (C := RX11) (T := TX11) (N := 16) hx hb hts hin11 hown hK hP 0 rfl rfl 10 (by decide) (hts (.fieldLink RX11 60 "MissedPoints" "tape" "LMissedPoints$Tape;") (by decide +kernel)) (fun _ h9 => h9) rfl dX11_feed_62 ?_
                  refine va_getN (D := D) (ci := 8) (v := .int 2) (C := RX8) (T := TX8) (N := 2) hx hb hts hin8 hown hK hP 1 rfl rfl 1 (by decide) (va_Nw.use rfl hN.1) (fun _ h9 => h9) rfl dX11_feed_65 ?_
                  have hP9 := hP.sub (ws' := []) [] rfl
                  have hD9 := hD.sub (ws' := []) [] (by decide) rfl
                  subst hAe
                  exact W.iret (v := 2) hx hb hr (fun t ht hW => ⟨⟨_, (), rfl, by rw [if_neg c3599, if_pos c3600, if_neg k3602, if_pos rfl], by rw [ht]; exact hP9, hD9⟩, hS.F ht⟩) hS.2.2 dX11_feed_68
                · exact absurd c3611 (by decide)
          · by_cases k3612 : x1 = 3
            · subst k3612
              refine lv_iload_n hx hb dX11_feed_30 rfl (lv_at hl 2 rfl) ?_
              refine lv_iconst (v := 1) hx hb dX11_feed_31 (by decide) ?_
              refine lv_isub hx hb dX11_feed_32 ?_
              refine lz_top (y := 2) (by decide) ?_
              refine lv_istore_n (lv' := [(3, .int 2), (0, .ref h0), (1, .int x0), (2, .int 3)]) hx hb dX11_feed_33 rfl hl (by decide) rfl (fun ls hl => ?_)
              refine lv_iload_n hx hb dX11_feed_34 rfl (lv_at hl 0 rfl) ?_
              refine lv_if_lt (tgt := 61) hx hb dX11_feed_35 (by decide) (fun c3613 => ?_) (fun c3613 => ?_)
              · exact absurd c3613 (by decide)
              · refine lv_aload_n hx hb dX11_feed_38 rfl (lv_at hl 1 rfl) ?_
                refine va_get (D := D) (ci := 11) (v := .ref h9) (C := RX11) (T := TX11) (N := 16) hx hb hts hin11 hown hK hP 0 rfl rfl 10 (by decide) (hts (.fieldLink RX11 60 "MissedPoints" "tape" "LMissedPoints$Tape;") (by decide +kernel)) (fun _ h9 => h9) rfl dX11_feed_39 ?_
                refine lv_iload_n hx hb dX11_feed_42 rfl (lv_at hl 2 rfl) ?_
                refine lv_bipush (v := 8) hx hb dX11_feed_43 (by decide) ?_
                refine lv_iload_n hx hb dX11_feed_45 rfl (lv_at hl 0 rfl) ?_
                refine lv_imul hx hb dX11_feed_46 ?_
                refine lz_top (y := 16) (by decide) ?_
                refine lv_iushr (v := (Int32.toUInt32 x0 >>> (Int32.toUInt32 16 &&& Int32.toUInt32 31)).toInt32) hx hb dX11_feed_47 rfl ?_
                refine lv_sipush (v := 255) hx hb dX11_feed_48 (by decide) ?_
                refine lv_iand hx hb dX11_feed_51 ?_
                have hPc := hP.sub (ws' := [(h9, .inr (8, [.ref h23, .int 0])), (h23, .inl (cI, 120, .inl (fun _ => 0)))]) [1, 2] rfl
                have hDc := hD.sub (ws' := [(h9, .inr (8, [.ref h23, .int 0])), (h23, .inl (cI, 120, .inl (fun _ => 0)))]) [1, 2] (by decide) rfl
                refine lz_qv (wr := [(h0, .inr (11, [.ref h1, .ref h2, .ref h3, .ref h4, .ref h5, .ref h6, .ref h7, .int 0, .int 0, .ref h8, .ref h9, .ref h10, .ref h11, .ref h12, .ref h13, .ref h14]))]) (w1 := [(h9, .inr (8, [.ref h23, .int 1])), (h23, .inl (cI, 120, .inl (upd (fun _ => 0) 0 (((Int32.toUInt32 x0 >>> (Int32.toUInt32 16 &&& Int32.toUInt32 31)).toInt32) &&& (255 : Int32)))))]) (As := [.int (((Int32.toUInt32 x0 >>> (Int32.toUInt32 16 &&& Int32.toUInt32 31)).toInt32) &&& (255 : Int32))]) (rest := []) ⟨hx, hb, hml, hown, hts⟩ (c_X8_append_0 l D cI cS _ h9 h23 (((Int32.toUInt32 x0 >>> (Int32.toUInt32 16 &&& Int32.toUInt32 31)).toInt32) &&& (255 : Int32))) hKK hP hD hS hA [1, 2] [0] (by decide) rfl rfl (by decide) (by decide) hPc hDc (ci := 8) rfl rfl (cwV 1 hts gX11_feed_X8_append rfl rfl rfl (by decide +kernel) ⟨Nat.le_of_ble_eq_true rfl, Nat.le_of_ble_eq_true rfl⟩) rfl hl.1 rfl (Nat.le_of_ble_eq_true rfl) dX11_feed_52 ⟨Nat.le_of_ble_eq_true rfl, Nat.le_of_ble_eq_true rfl⟩ (fun H locs hP hD hS => ?_)
                have hP : va_P D cls [(h0, .inr (11, [.ref h1, .ref h2, .ref h3, .ref h4, .ref h5, .ref h6, .ref h7, .int 0, .int 0, .ref h8, .ref h9, .ref h10, .ref h11, .ref h12, .ref h13, .ref h14])), (h9, .inr (8, [.ref h23, .int 1])), (h23, .inl (cI, 120, .inl (upd (fun _ => 0) 0 (((Int32.toUInt32 x0 >>> (Int32.toUInt32 16 &&& Int32.toUInt32 31)).toInt32) &&& (255 : Int32)))))] H := hP
                have hD : va_D A [(h0, .inr (11, [.ref h1, .ref h2, .ref h3, .ref h4, .ref h5, .ref h6, .ref h7, .int 0, .int 0, .ref h8, .ref h9, .ref h10, .ref h11, .ref h12, .ref h13, .ref h14])), (h9, .inr (8, [.ref h23, .int 1])), (h23, .inl (cI, 120, .inl (upd (fun _ => 0) 0 (((Int32.toUInt32 x0 >>> (Int32.toUInt32 16 &&& Int32.toUInt32 31)).toInt32) &&& (255 : Int32)))))] := hD
                refine lv_iinc (v := 1) (lv' := [(3, .int 1), (0, .ref h0), (1, .int x0), (2, .int 3)]) hx hb dX11_feed_55 hl (k := 0) rfl (by decide) (by decide) rfl (fun ls hl => ?_)
                refine lv_goto (tgt := 34) hx hb dX11_feed_58 (by decide) ?_
                refine lv_iload_n hx hb dX11_feed_34 rfl (lv_at hl 0 rfl) ?_
                refine lv_if_lt (tgt := 61) hx hb dX11_feed_35 (by decide) (fun c3615 => ?_) (fun c3615 => ?_)
                · exact absurd c3615 (by decide)
                · refine lv_aload_n hx hb dX11_feed_38 rfl (lv_at hl 1 rfl) ?_
                  refine va_get (D := D) (ci := 11) (v := .ref h9) (C := RX11) (T := TX11) (N := 16) hx hb hts hin11 hown hK hP 0 rfl rfl 10 (by decide) (hts (.fieldLink RX11 60 "MissedPoints" "tape" "LMissedPoints$Tape;") (by decide +kernel)) (fun _ h9 => h9) rfl dX11_feed_39 ?_
                  refine lv_iload_n hx hb dX11_feed_42 rfl (lv_at hl 2 rfl) ?_
                  refine lv_bipush (v := 8) hx hb dX11_feed_43 (by decide) ?_
                  refine lv_iload_n hx hb dX11_feed_45 rfl (lv_at hl 0 rfl) ?_
                  refine lv_imul hx hb dX11_feed_46 ?_
                  refine lz_top (y := 8) (by decide) ?_
                  refine lv_iushr (v := (Int32.toUInt32 x0 >>> (Int32.toUInt32 8 &&& Int32.toUInt32 31)).toInt32) hx hb dX11_feed_47 rfl ?_
                  refine lv_sipush (v := 255) hx hb dX11_feed_48 (by decide) ?_
                  refine lv_iand hx hb dX11_feed_51 ?_
                  have hPc := hP.sub (ws' := [(h9, .inr (8, [.ref h23, .int 1])), (h23, .inl (cI, 120, .inl (upd (fun _ => 0) 0 (((Int32.toUInt32 x0 >>> (Int32.toUInt32 16 &&& Int32.toUInt32 31)).toInt32) &&& (255 : Int32)))))]) [1, 2] rfl
                  have hDc := hD.sub (ws' := [(h9, .inr (8, [.ref h23, .int 1])), (h23, .inl (cI, 120, .inl (upd (fun _ => 0) 0 (((Int32.toUInt32 x0 >>> (Int32.toUInt32 16 &&& Int32.toUInt32 31)).toInt32) &&& (255 : Int32)))))]) [1, 2] (by decide) rfl
                  refine lz_qv (wr := [(h0, .inr (11, [.ref h1, .ref h2, .ref h3, .ref h4, .ref h5, .ref h6, .ref h7, .int 0, .int 0, .ref h8, .ref h9, .ref h10, .ref h11, .ref h12, .ref h13, .ref h14]))]) (w1 := [(h9, .inr (8, [.ref h23, .int 2])), (h23, .inl (cI, 120, .inl (upd (upd (fun _ => 0) 0 (((Int32.toUInt32 x0 >>> (Int32.toUInt32 16 &&& Int32.toUInt32 31)).toInt32) &&& (255 : Int32))) 1 (((Int32.toUInt32 x0 >>> (Int32.toUInt32 8 &&& Int32.toUInt32 31)).toInt32) &&& (255 : Int32)))))]) (As := [.int (((Int32.toUInt32 x0 >>> (Int32.toUInt32 8 &&& Int32.toUInt32 31)).toInt32) &&& (255 : Int32))]) (rest := []) ⟨hx, hb, hml, hown, hts⟩ (c_X8_append_1 l D cI cS _ h9 h23 ((upd (fun _ => 0) 0 (((Int32.toUInt32 x0 >>> (Int32.toUInt32 16 &&& Int32.toUInt32 31)).toInt32) &&& (255 : Int32)))) (((Int32.toUInt32 x0 >>> (Int32.toUInt32 8 &&& Int32.toUInt32 31)).toInt32) &&& (255 : Int32))) hKK hP hD hS hA [1, 2] [0] (by decide) rfl rfl (by decide) (by decide) hPc hDc (ci := 8) rfl rfl (cwV 1 hts gX11_feed_X8_append rfl rfl rfl (by decide +kernel) ⟨Nat.le_of_ble_eq_true rfl, Nat.le_of_ble_eq_true rfl⟩) rfl hl.1 rfl (Nat.le_of_ble_eq_true rfl) dX11_feed_52 ⟨Nat.le_of_ble_eq_true rfl, Nat.le_of_ble_eq_true rfl⟩ (fun H locs hP hD hS => ?_)
                  have hP : va_P D cls [(h0, .inr (11, [.ref h1, .ref h2, .ref h3, .ref h4, .ref h5, .ref h6, .ref h7, .int 0, .int 0, .ref h8, .ref h9, .ref h10, .ref h11, .ref h12, .ref h13, .ref h14])), (h9, .inr (8, [.ref h23, .int 2])), (h23, .inl (cI, 120, .inl (upd (upd (fun _ => 0) 0 (((Int32.toUInt32 x0 >>> (Int32.toUInt32 16 &&& Int32.toUInt32 31)).toInt32) &&& (255 : Int32))) 1 (((Int32.toUInt32 x0 >>> (Int32.toUInt32 8 &&& Int32.toUInt32 31)).toInt32) &&& (255 : Int32)))))] H := hP
                  have hD : va_D A [(h0, .inr (11, [.ref h1, .ref h2, .ref h3, .ref h4, .ref h5, .ref h6, .ref h7, .int 0, .int 0, .ref h8, .ref h9, .ref h10, .ref h11, .ref h12, .ref h13, .ref h14])), (h9, .inr (8, [.ref h23, .int 2])), (h23, .inl (cI, 120, .inl (upd (upd (fun _ => 0) 0 (((Int32.toUInt32 x0 >>> (Int32.toUInt32 16 &&& Int32.toUInt32 31)).toInt32) &&& (255 : Int32))) 1 (((Int32.toUInt32 x0 >>> (Int32.toUInt32 8 &&& Int32.toUInt32 31)).toInt32) &&& (255 : Int32)))))] := hD
                  refine lv_iinc (v := 0) (lv' := [(3, .int 0), (0, .ref h0), (1, .int x0), (2, .int 3)]) hx hb dX11_feed_55 hl (k := 0) rfl (by decide) (by decide) rfl (fun ls hl => ?_)
                  refine lv_goto (tgt := 34) hx hb dX11_feed_58 (by decide) ?_
                  refine lv_iload_n hx hb dX11_feed_34 rfl (lv_at hl 0 rfl) ?_
                  refine lv_if_lt (tgt := 61) hx hb dX11_feed_35 (by decide) (fun c3617 => ?_) (fun c3617 => ?_)
                  · exact absurd c3617 (by decide)
                  · refine lv_aload_n hx hb dX11_feed_38 rfl (lv_at hl 1 rfl) ?_
                    refine va_get (D := D) (ci := 11) (v := .ref h9) (C := RX11) (T := TX11) (N := 16) hx hb hts hin11 hown hK hP 0 rfl rfl 10 (by decide) (hts (.fieldLink RX11 60 "MissedPoints" "tape" "LMissedPoints$Tape;") (by decide +kernel)) (fun _ h9 => h9) rfl dX11_feed_39 ?_
                    refine lv_iload_n hx hb dX11_feed_42 rfl (lv_at hl 2 rfl) ?_
                    refine lv_bipush (v := 8) hx hb dX11_feed_43 (by decide) ?_
                    refine lv_iload_n hx hb dX11_feed_45 rfl (lv_at hl 0 rfl) ?_
                    refine lv_imul hx hb dX11_feed_46 ?_
                    refine lz_top (y := 0) (by decide) ?_
                    refine lv_iushr (v := (Int32.toUInt32 x0 >>> (Int32.toUInt32 0 &&& Int32.toUInt32 31)).toInt32) hx hb dX11_feed_47 rfl ?_
                    refine lv_sipush (v := 255) hx hb dX11_feed_48 (by decide) ?_
                    refine lv_iand hx hb dX11_feed_51 ?_
                    have hPc := hP.sub (ws' := [(h9, .inr (8, [.ref h23, .int 2])), (h23, .inl (cI, 120, .inl (upd (upd (fun _ => 0) 0 (((Int32.toUInt32 x0 >>> (Int32.toUInt32 16 &&& Int32.toUInt32 31)).toInt32) &&& (255 : Int32))) 1 (((Int32.toUInt32 x0 >>> (Int32.toUInt32 8 &&& Int32.toUInt32 31)).toInt32) &&& (255 : Int32)))))]) [1, 2] rfl
                    have hDc := hD.sub (ws' := [(h9, .inr (8, [.ref h23, .int 2])), (h23, .inl (cI, 120, .inl (upd (upd (fun _ => 0) 0 (((Int32.toUInt32 x0 >>> (Int32.toUInt32 16 &&& Int32.toUInt32 31)).toInt32) &&& (255 : Int32))) 1 (((Int32.toUInt32 x0 >>> (Int32.toUInt32 8 &&& Int32.toUInt32 31)).toInt32) &&& (255 : Int32)))))]) [1, 2] (by decide) rfl
                    refine lz_qv (wr := [(h0, .inr (11, [.ref h1, .ref h2, .ref h3, .ref h4, .ref h5, .ref h6, .ref h7, .int 0, .int 0, .ref h8, .ref h9, .ref h10, .ref h11, .ref h12, .ref h13, .ref h14]))]) (w1 := [(h9, .inr (8, [.ref h23, .int 3])), (h23, .inl (cI, 120, .inl (upd (upd (upd (fun _ => 0) 0 (((Int32.toUInt32 x0 >>> (Int32.toUInt32 16 &&& Int32.toUInt32 31)).toInt32) &&& (255 : Int32))) 1 (((Int32.toUInt32 x0 >>> (Int32.toUInt32 8 &&& Int32.toUInt32 31)).toInt32) &&& (255 : Int32))) 2 (((Int32.toUInt32 x0 >>> (Int32.toUInt32 0 &&& Int32.toUInt32 31)).toInt32) &&& (255 : Int32)))))]) (As := [.int (((Int32.toUInt32 x0 >>> (Int32.toUInt32 0 &&& Int32.toUInt32 31)).toInt32) &&& (255 : Int32))]) (rest := []) ⟨hx, hb, hml, hown, hts⟩ (c_X8_append_2 l D cI cS _ h9 h23 ((upd (upd (fun _ => 0) 0 (((Int32.toUInt32 x0 >>> (Int32.toUInt32 16 &&& Int32.toUInt32 31)).toInt32) &&& (255 : Int32))) 1 (((Int32.toUInt32 x0 >>> (Int32.toUInt32 8 &&& Int32.toUInt32 31)).toInt32) &&& (255 : Int32)))) (((Int32.toUInt32 x0 >>> (Int32.toUInt32 0 &&& Int32.toUInt32 31)).toInt32) &&& (255 : Int32))) hKK hP hD hS hA [1, 2] [0] (by decide) rfl rfl (by decide) (by decide) hPc hDc (ci := 8) rfl rfl (cwV 1 hts gX11_feed_X8_append rfl rfl rfl (by decide +kernel) ⟨Nat.le_of_ble_eq_true rfl, Nat.le_of_ble_eq_true rfl⟩) rfl hl.1 rfl (Nat.le_of_ble_eq_true rfl) dX11_feed_52 ⟨Nat.le_of_ble_eq_true rfl, Nat.le_of_ble_eq_true rfl⟩ (fun H locs hP hD hS => ?_)
                    have hP : va_P D cls [(h0, .inr (11, [.ref h1, .ref h2, .ref h3, .ref h4, .ref h5, .ref h6, .ref h7, .int 0, .int 0, .ref h8, .ref h9, .ref h10, .ref h11, .ref h12, .ref h13, .ref h14])), (h9, .inr (8, [.ref h23, .int 3])), (h23, .inl (cI, 120, .inl (upd (upd (upd (fun _ => 0) 0 (((Int32.toUInt32 x0 >>> (Int32.toUInt32 16 &&& Int32.toUInt32 31)).toInt32) &&& (255 : Int32))) 1 (((Int32.toUInt32 x0 >>> (Int32.toUInt32 8 &&& Int32.toUInt32 31)).toInt32) &&& (255 : Int32))) 2 (((Int32.toUInt32 x0 >>> (Int32.toUInt32 0 &&& Int32.toUInt32 31)).toInt32) &&& (255 : Int32)))))] H := hP
                    have hD : va_D A [(h0, .inr (11, [.ref h1, .ref h2, .ref h3, .ref h4, .ref h5, .ref h6, .ref h7, .int 0, .int 0, .ref h8, .ref h9, .ref h10, .ref h11, .ref h12, .ref h13, .ref h14])), (h9, .inr (8, [.ref h23, .int 3])), (h23, .inl (cI, 120, .inl (upd (upd (upd (fun _ => 0) 0 (((Int32.toUInt32 x0 >>> (Int32.toUInt32 16 &&& Int32.toUInt32 31)).toInt32) &&& (255 : Int32))) 1 (((Int32.toUInt32 x0 >>> (Int32.toUInt32 8 &&& Int32.toUInt32 31)).toInt32) &&& (255 : Int32))) 2 (((Int32.toUInt32 x0 >>> (Int32.toUInt32 0 &&& Int32.toUInt32 31)).toInt32) &&& (255 : Int32)))))] := hD
                    refine lv_iinc (v := (-1)) (lv' := [(3, .int (-1)), (0, .ref h0), (1, .int x0), (2, .int 3)]) hx hb dX11_feed_55 hl (k := 0) rfl (by decide) (by decide) rfl (fun ls hl => ?_)
                    refine lv_goto (tgt := 34) hx hb dX11_feed_58 (by decide) ?_
                    refine lv_iload_n hx hb dX11_feed_34 rfl (lv_at hl 0 rfl) ?_
                    refine lv_if_lt (tgt := 61) hx hb dX11_feed_35 (by decide) (fun c3619 => ?_) (fun c3619 => ?_)
                    · refine lv_aload_n hx hb dX11_feed_61 rfl (lv_at hl 1 rfl) ?_
                      refine va_get (D := D) (ci := 11) (v := .ref h9) (C := RX11) (T := TX11) (N := 16) hx hb hts hin11 hown hK hP 0 rfl rfl 10 (by decide) (hts (.fieldLink RX11 60 "MissedPoints" "tape" "LMissedPoints$Tape;") (by decide +kernel)) (fun _ h9 => h9) rfl dX11_feed_62 ?_
                      refine va_getN (D := D) (ci := 8) (v := .int 3) (C := RX8) (T := TX8) (N := 2) hx hb hts hin8 hown hK hP 1 rfl rfl 1 (by decide) (va_Nw.use rfl hN.1) (fun _ h9 => h9) rfl dX11_feed_65 ?_
                      have hP9 := hP.sub (ws' := []) [] rfl
                      have hD9 := hD.sub (ws' := []) [] (by decide) rfl
                      subst hAe
                      exact W.iret (v := 3) hx hb hr (fun t ht hW => ⟨⟨_, (), rfl, by rw [if_neg c3599, if_pos c3600, if_neg k3602, if_neg k3606, if_pos rfl], by rw [ht]; exact hP9, hD9⟩, hS.F ht⟩) hS.2.2 dX11_feed_68
                    · exact absurd c3619 (by decide)
            · obtain rfl : x1 = 4 := by have zf1 := mt (lz_lt x1 (1 : Int32)).mpr c3599; have zf2 := (lz_le x1 (4 : Int32)).mp c3600; have zf3 := mt (lz_eq x1 (1 : Int32)).mpr k3602; have zf4 := mt (lz_eq x1 (2 : Int32)).mpr k3606; have zf5 := mt (lz_eq x1 (3 : Int32)).mpr k3612; have zn0 : (1 : Int32).toInt = 1 := (by decide); have zn1 : (2 : Int32).toInt = 2 := (by decide); have zn2 : (3 : Int32).toInt = 3 := (by decide); have zn3 : (4 : Int32).toInt = 4 := (by decide); rw [lz_eq]; omega
              refine lv_iload_n hx hb dX11_feed_30 rfl (lv_at hl 2 rfl) ?_
              refine lv_iconst (v := 1) hx hb dX11_feed_31 (by decide) ?_
              refine lv_isub hx hb dX11_feed_32 ?_
              refine lz_top (y := 3) (by decide) ?_
              refine lv_istore_n (lv' := [(3, .int 3), (0, .ref h0), (1, .int x0), (2, .int 4)]) hx hb dX11_feed_33 rfl hl (by decide) rfl (fun ls hl => ?_)
              refine lv_iload_n hx hb dX11_feed_34 rfl (lv_at hl 0 rfl) ?_
              refine lv_if_lt (tgt := 61) hx hb dX11_feed_35 (by decide) (fun c3620 => ?_) (fun c3620 => ?_)
              · exact absurd c3620 (by decide)
              · refine lv_aload_n hx hb dX11_feed_38 rfl (lv_at hl 1 rfl) ?_
                refine va_get (D := D) (ci := 11) (v := .ref h9) (C := RX11) (T := TX11) (N := 16) hx hb hts hin11 hown hK hP 0 rfl rfl 10 (by decide) (hts (.fieldLink RX11 60 "MissedPoints" "tape" "LMissedPoints$Tape;") (by decide +kernel)) (fun _ h9 => h9) rfl dX11_feed_39 ?_
                refine lv_iload_n hx hb dX11_feed_42 rfl (lv_at hl 2 rfl) ?_
                refine lv_bipush (v := 8) hx hb dX11_feed_43 (by decide) ?_
                refine lv_iload_n hx hb dX11_feed_45 rfl (lv_at hl 0 rfl) ?_
                refine lv_imul hx hb dX11_feed_46 ?_
                refine lz_top (y := 24) (by decide) ?_
                refine lv_iushr (v := (Int32.toUInt32 x0 >>> (Int32.toUInt32 24 &&& Int32.toUInt32 31)).toInt32) hx hb dX11_feed_47 rfl ?_
                refine lv_sipush (v := 255) hx hb dX11_feed_48 (by decide) ?_
                refine lv_iand hx hb dX11_feed_51 ?_
                have hPc := hP.sub (ws' := [(h9, .inr (8, [.ref h23, .int 0])), (h23, .inl (cI, 120, .inl (fun _ => 0)))]) [1, 2] rfl
                have hDc := hD.sub (ws' := [(h9, .inr (8, [.ref h23, .int 0])), (h23, .inl (cI, 120, .inl (fun _ => 0)))]) [1, 2] (by decide) rfl
                refine lz_qv (wr := [(h0, .inr (11, [.ref h1, .ref h2, .ref h3, .ref h4, .ref h5, .ref h6, .ref h7, .int 0, .int 0, .ref h8, .ref h9, .ref h10, .ref h11, .ref h12, .ref h13, .ref h14]))]) (w1 := [(h9, .inr (8, [.ref h23, .int 1])), (h23, .inl (cI, 120, .inl (upd (fun _ => 0) 0 (((Int32.toUInt32 x0 >>> (Int32.toUInt32 24 &&& Int32.toUInt32 31)).toInt32) &&& (255 : Int32)))))]) (As := [.int (((Int32.toUInt32 x0 >>> (Int32.toUInt32 24 &&& Int32.toUInt32 31)).toInt32) &&& (255 : Int32))]) (rest := []) ⟨hx, hb, hml, hown, hts⟩ (c_X8_append_0 l D cI cS _ h9 h23 (((Int32.toUInt32 x0 >>> (Int32.toUInt32 24 &&& Int32.toUInt32 31)).toInt32) &&& (255 : Int32))) hKK hP hD hS hA [1, 2] [0] (by decide) rfl rfl (by decide) (by decide) hPc hDc (ci := 8) rfl rfl (cwV 1 hts gX11_feed_X8_append rfl rfl rfl (by decide +kernel) ⟨Nat.le_of_ble_eq_true rfl, Nat.le_of_ble_eq_true rfl⟩) rfl hl.1 rfl (Nat.le_of_ble_eq_true rfl) dX11_feed_52 ⟨Nat.le_of_ble_eq_true rfl, Nat.le_of_ble_eq_true rfl⟩ (fun H locs hP hD hS => ?_)
                have hP : va_P D cls [(h0, .inr (11, [.ref h1, .ref h2, .ref h3, .ref h4, .ref h5, .ref h6, .ref h7, .int 0, .int 0, .ref h8, .ref h9, .ref h10, .ref h11, .ref h12, .ref h13, .ref h14])), (h9, .inr (8, [.ref h23, .int 1])), (h23, .inl (cI, 120, .inl (upd (fun _ => 0) 0 (((Int32.toUInt32 x0 >>> (Int32.toUInt32 24 &&& Int32.toUInt32 31)).toInt32) &&& (255 : Int32)))))] H := hP
                have hD : va_D A [(h0, .inr (11, [.ref h1, .ref h2, .ref h3, .ref h4, .ref h5, .ref h6, .ref h7, .int 0, .int 0, .ref h8, .ref h9, .ref h10, .ref h11, .ref h12, .ref h13, .ref h14])), (h9, .inr (8, [.ref h23, .int 1])), (h23, .inl (cI, 120, .inl (upd (fun _ => 0) 0 (((Int32.toUInt32 x0 >>> (Int32.toUInt32 24 &&& Int32.toUInt32 31)).toInt32) &&& (255 : Int32)))))] := hD
                refine lv_iinc (v := 2) (lv' := [(3, .int 2), (0, .ref h0), (1, .int x0), (2, .int 4)]) hx hb dX11_feed_55 hl (k := 0) rfl (by decide) (by decide) rfl (fun ls hl => ?_)
                refine lv_goto (tgt := 34) hx hb dX11_feed_58 (by decide) ?_
                refine lv_iload_n hx hb dX11_feed_34 rfl (lv_at hl 0 rfl) ?_
                refine lv_if_lt (tgt := 61) hx hb dX11_feed_35 (by decide) (fun c3622 => ?_) (fun c3622 => ?_)
                · exact absurd c3622 (by decide)
                · refine lv_aload_n hx hb dX11_feed_38 rfl (lv_at hl 1 rfl) ?_
                  refine va_get (D := D) (ci := 11) (v := .ref h9) (C := RX11) (T := TX11) (N := 16) hx hb hts hin11 hown hK hP 0 rfl rfl 10 (by decide) (hts (.fieldLink RX11 60 "MissedPoints" "tape" "LMissedPoints$Tape;") (by decide +kernel)) (fun _ h9 => h9) rfl dX11_feed_39 ?_
                  refine lv_iload_n hx hb dX11_feed_42 rfl (lv_at hl 2 rfl) ?_
                  refine lv_bipush (v := 8) hx hb dX11_feed_43 (by decide) ?_
                  refine lv_iload_n hx hb dX11_feed_45 rfl (lv_at hl 0 rfl) ?_
                  refine lv_imul hx hb dX11_feed_46 ?_
                  refine lz_top (y := 16) (by decide) ?_
                  refine lv_iushr (v := (Int32.toUInt32 x0 >>> (Int32.toUInt32 16 &&& Int32.toUInt32 31)).toInt32) hx hb dX11_feed_47 rfl ?_
                  refine lv_sipush (v := 255) hx hb dX11_feed_48 (by decide) ?_
                  refine lv_iand hx hb dX11_feed_51 ?_
                  have hPc := hP.sub (ws' := [(h9, .inr (8, [.ref h23, .int 1])), (h23, .inl (cI, 120, .inl (upd (fun _ => 0) 0 (((Int32.toUInt32 x0 >>> (Int32.toUInt32 24 &&& Int32.toUInt32 31)).toInt32) &&& (255 : Int32)))))]) [1, 2] rfl
                  have hDc := hD.sub (ws' := [(h9, .inr (8, [.ref h23, .int 1])), (h23, .inl (cI, 120, .inl (upd (fun _ => 0) 0 (((Int32.toUInt32 x0 >>> (Int32.toUInt32 24 &&& Int32.toUInt32 31)).toInt32) &&& (255 : Int32)))))]) [1, 2] (by decide) rfl
                  refine lz_qv (wr := [(h0, .inr (11, [.ref h1, .ref h2, .ref h3, .ref h4, .ref h5, .ref h6, .ref h7, .int 0, .int 0, .ref h8, .ref h9, .ref h10, .ref h11, .ref h12, .ref h13, .ref h14]))]) (w1 := [(h9, .inr (8, [.ref h23, .int 2])), (h23, .inl (cI, 120, .inl (upd (upd (fun _ => 0) 0 (((Int32.toUInt32 x0 >>> (Int32.toUInt32 24 &&& Int32.toUInt32 31)).toInt32) &&& (255 : Int32))) 1 (((Int32.toUInt32 x0 >>> (Int32.toUInt32 16 &&& Int32.toUInt32 31)).toInt32) &&& (255 : Int32)))))]) (As := [.int (((Int32.toUInt32 x0 >>> (Int32.toUInt32 16 &&& Int32.toUInt32 31)).toInt32) &&& (255 : Int32))]) (rest := []) ⟨hx, hb, hml, hown, hts⟩ (c_X8_append_1 l D cI cS _ h9 h23 ((upd (fun _ => 0) 0 (((Int32.toUInt32 x0 >>> (Int32.toUInt32 24 &&& Int32.toUInt32 31)).toInt32) &&& (255 : Int32)))) (((Int32.toUInt32 x0 >>> (Int32.toUInt32 16 &&& Int32.toUInt32 31)).toInt32) &&& (255 : Int32))) hKK hP hD hS hA [1, 2] [0] (by decide) rfl rfl (by decide) (by decide) hPc hDc (ci := 8) rfl rfl (cwV 1 hts gX11_feed_X8_append rfl rfl rfl (by decide +kernel) ⟨Nat.le_of_ble_eq_true rfl, Nat.le_of_ble_eq_true rfl⟩) rfl hl.1 rfl (Nat.le_of_ble_eq_true rfl) dX11_feed_52 ⟨Nat.le_of_ble_eq_true rfl, Nat.le_of_ble_eq_true rfl⟩ (fun H locs hP hD hS => ?_)
                  have hP : va_P D cls [(h0, .inr (11, [.ref h1, .ref h2, .ref h3, .ref h4, .ref h5, .ref h6, .ref h7, .int 0, .int 0, .ref h8, .ref h9, .ref h10, .ref h11, .ref h12, .ref h13, .ref h14])), (h9, .inr (8, [.ref h23, .int 2])), (h23, .inl (cI, 120, .inl (upd (upd (fun _ => 0) 0 (((Int32.toUInt32 x0 >>> (Int32.toUInt32 24 &&& Int32.toUInt32 31)).toInt32) &&& (255 : Int32))) 1 (((Int32.toUInt32 x0 >>> (Int32.toUInt32 16 &&& Int32.toUInt32 31)).toInt32) &&& (255 : Int32)))))] H := hP
                  have hD : va_D A [(h0, .inr (11, [.ref h1, .ref h2, .ref h3, .ref h4, .ref h5, .ref h6, .ref h7, .int 0, .int 0, .ref h8, .ref h9, .ref h10, .ref h11, .ref h12, .ref h13, .ref h14])), (h9, .inr (8, [.ref h23, .int 2])), (h23, .inl (cI, 120, .inl (upd (upd (fun _ => 0) 0 (((Int32.toUInt32 x0 >>> (Int32.toUInt32 24 &&& Int32.toUInt32 31)).toInt32) &&& (255 : Int32))) 1 (((Int32.toUInt32 x0 >>> (Int32.toUInt32 16 &&& Int32.toUInt32 31)).toInt32) &&& (255 : Int32)))))] := hD
                  refine lv_iinc (v := 1) (lv' := [(3, .int 1), (0, .ref h0), (1, .int x0), (2, .int 4)]) hx hb dX11_feed_55 hl (k := 0) rfl (by decide) (by decide) rfl (fun ls hl => ?_)
                  refine lv_goto (tgt := 34) hx hb dX11_feed_58 (by decide) ?_
                  refine lv_iload_n hx hb dX11_feed_34 rfl (lv_at hl 0 rfl) ?_
                  refine lv_if_lt (tgt := 61) hx hb dX11_feed_35 (by decide) (fun c3624 => ?_) (fun c3624 => ?_)
                  · exact absurd c3624 (by decide)
                  · refine lv_aload_n hx hb dX11_feed_38 rfl (lv_at hl 1 rfl) ?_
                    refine va_get (D := D) (ci := 11) (v := .ref h9) (C := RX11) (T := TX11) (N := 16) hx hb hts hin11 hown hK hP 0 rfl rfl 10 (by decide) (hts (.fieldLink RX11 60 "MissedPoints" "tape" "LMissedPoints$Tape;") (by decide +kernel)) (fun _ h9 => h9) rfl dX11_feed_39 ?_
                    refine lv_iload_n hx hb dX11_feed_42 rfl (lv_at hl 2 rfl) ?_
                    refine lv_bipush (v := 8) hx hb dX11_feed_43 (by decide) ?_
                    refine lv_iload_n hx hb dX11_feed_45 rfl (lv_at hl 0 rfl) ?_
                    refine lv_imul hx hb dX11_feed_46 ?_
                    refine lz_top (y := 8) (by decide) ?_
                    refine lv_iushr (v := (Int32.toUInt32 x0 >>> (Int32.toUInt32 8 &&& Int32.toUInt32 31)).toInt32) hx hb dX11_feed_47 rfl ?_
                    refine lv_sipush (v := 255) hx hb dX11_feed_48 (by decide) ?_
                    refine lv_iand hx hb dX11_feed_51 ?_
                    have hPc := hP.sub (ws' := [(h9, .inr (8, [.ref h23, .int 2])), (h23, .inl (cI, 120, .inl (upd (upd (fun _ => 0) 0 (((Int32.toUInt32 x0 >>> (Int32.toUInt32 24 &&& Int32.toUInt32 31)).toInt32) &&& (255 : Int32))) 1 (((Int32.toUInt32 x0 >>> (Int32.toUInt32 16 &&& Int32.toUInt32 31)).toInt32) &&& (255 : Int32)))))]) [1, 2] rfl
                    have hDc := hD.sub (ws' := [(h9, .inr (8, [.ref h23, .int 2])), (h23, .inl (cI, 120, .inl (upd (upd (fun _ => 0) 0 (((Int32.toUInt32 x0 >>> (Int32.toUInt32 24 &&& Int32.toUInt32 31)).toInt32) &&& (255 : Int32))) 1 (((Int32.toUInt32 x0 >>> (Int32.toUInt32 16 &&& Int32.toUInt32 31)).toInt32) &&& (255 : Int32)))))]) [1, 2] (by decide) rfl
                    refine lz_qv (wr := [(h0, .inr (11, [.ref h1, .ref h2, .ref h3, .ref h4, .ref h5, .ref h6, .ref h7, .int 0, .int 0, .ref h8, .ref h9, .ref h10, .ref h11, .ref h12, .ref h13, .ref h14]))]) (w1 := [(h9, .inr (8, [.ref h23, .int 3])), (h23, .inl (cI, 120, .inl (upd (upd (upd (fun _ => 0) 0 (((Int32.toUInt32 x0 >>> (Int32.toUInt32 24 &&& Int32.toUInt32 31)).toInt32) &&& (255 : Int32))) 1 (((Int32.toUInt32 x0 >>> (Int32.toUInt32 16 &&& Int32.toUInt32 31)).toInt32) &&& (255 : Int32))) 2 (((Int32.toUInt32 x0 >>> (Int32.toUInt32 8 &&& Int32.toUInt32 31)).toInt32) &&& (255 : Int32)))))]) (As := [.int (((Int32.toUInt32 x0 >>> (Int32.toUInt32 8 &&& Int32.toUInt32 31)).toInt32) &&& (255 : Int32))]) (rest := []) ⟨hx, hb, hml, hown, hts⟩ (c_X8_append_2 l D cI cS _ h9 h23 ((upd (upd (fun _ => 0) 0 (((Int32.toUInt32 x0 >>> (Int32.toUInt32 24 &&& Int32.toUInt32 31)).toInt32) &&& (255 : Int32))) 1 (((Int32.toUInt32 x0 >>> (Int32.toUInt32 16 &&& Int32.toUInt32 31)).toInt32) &&& (255 : Int32)))) (((Int32.toUInt32 x0 >>> (Int32.toUInt32 8 &&& Int32.toUInt32 31)).toInt32) &&& (255 : Int32))) hKK hP hD hS hA [1, 2] [0] (by decide) rfl rfl (by decide) (by decide) hPc hDc (ci := 8) rfl rfl (cwV 1 hts gX11_feed_X8_append rfl rfl rfl (by decide +kernel) ⟨Nat.le_of_ble_eq_true rfl, Nat.le_of_ble_eq_true rfl⟩) rfl hl.1 rfl (Nat.le_of_ble_eq_true rfl) dX11_feed_52 ⟨Nat.le_of_ble_eq_true rfl, Nat.le_of_ble_eq_true rfl⟩ (fun H locs hP hD hS => ?_)
                    have hP : va_P D cls [(h0, .inr (11, [.ref h1, .ref h2, .ref h3, .ref h4, .ref h5, .ref h6, .ref h7, .int 0, .int 0, .ref h8, .ref h9, .ref h10, .ref h11, .ref h12, .ref h13, .ref h14])), (h9, .inr (8, [.ref h23, .int 3])), (h23, .inl (cI, 120, .inl (upd (upd (upd (fun _ => 0) 0 (((Int32.toUInt32 x0 >>> (Int32.toUInt32 24 &&& Int32.toUInt32 31)).toInt32) &&& (255 : Int32))) 1 (((Int32.toUInt32 x0 >>> (Int32.toUInt32 16 &&& Int32.toUInt32 31)).toInt32) &&& (255 : Int32))) 2 (((Int32.toUInt32 x0 >>> (Int32.toUInt32 8 &&& Int32.toUInt32 31)).toInt32) &&& (255 : Int32)))))] H := hP
                    have hD : va_D A [(h0, .inr (11, [.ref h1, .ref h2, .ref h3, .ref h4, .ref h5, .ref h6, .ref h7, .int 0, .int 0, .ref h8, .ref h9, .ref h10, .ref h11, .ref h12, .ref h13, .ref h14])), (h9, .inr (8, [.ref h23, .int 3])), (h23, .inl (cI, 120, .inl (upd (upd (upd (fun _ => 0) 0 (((Int32.toUInt32 x0 >>> (Int32.toUInt32 24 &&& Int32.toUInt32 31)).toInt32) &&& (255 : Int32))) 1 (((Int32.toUInt32 x0 >>> (Int32.toUInt32 16 &&& Int32.toUInt32 31)).toInt32) &&& (255 : Int32))) 2 (((Int32.toUInt32 x0 >>> (Int32.toUInt32 8 &&& Int32.toUInt32 31)).toInt32) &&& (255 : Int32)))))] := hD
                    refine lv_iinc (v := 0) (lv' := [(3, .int 0), (0, .ref h0), (1, .int x0), (2, .int 4)]) hx hb dX11_feed_55 hl (k := 0) rfl (by decide) (by decide) rfl (fun ls hl => ?_)
                    refine lv_goto (tgt := 34) hx hb dX11_feed_58 (by decide) ?_
                    refine lv_iload_n hx hb dX11_feed_34 rfl (lv_at hl 0 rfl) ?_
                    refine lv_if_lt (tgt := 61) hx hb dX11_feed_35 (by decide) (fun c3626 => ?_) (fun c3626 => ?_)
                    · exact absurd c3626 (by decide)
                    · refine lv_aload_n hx hb dX11_feed_38 rfl (lv_at hl 1 rfl) ?_
                      refine va_get (D := D) (ci := 11) (v := .ref h9) (C := RX11) (T := TX11) (N := 16) hx hb hts hin11 hown hK hP 0 rfl rfl 10 (by decide) (hts (.fieldLink RX11 60 "MissedPoints" "tape" "LMissedPoints$Tape;") (by decide +kernel)) (fun _ h9 => h9) rfl dX11_feed_39 ?_
                      refine lv_iload_n hx hb dX11_feed_42 rfl (lv_at hl 2 rfl) ?_
                      refine lv_bipush (v := 8) hx hb dX11_feed_43 (by decide) ?_
                      refine lv_iload_n hx hb dX11_feed_45 rfl (lv_at hl 0 rfl) ?_
                      refine lv_imul hx hb dX11_feed_46 ?_
                      refine lz_top (y := 0) (by decide) ?_
                      refine lv_iushr (v := (Int32.toUInt32 x0 >>> (Int32.toUInt32 0 &&& Int32.toUInt32 31)).toInt32) hx hb dX11_feed_47 rfl ?_
                      refine lv_sipush (v := 255) hx hb dX11_feed_48 (by decide) ?_
                      refine lv_iand hx hb dX11_feed_51 ?_
                      have hPc := hP.sub (ws' := [(h9, .inr (8, [.ref h23, .int 3])), (h23, .inl (cI, 120, .inl (upd (upd (upd (fun _ => 0) 0 (((Int32.toUInt32 x0 >>> (Int32.toUInt32 24 &&& Int32.toUInt32 31)).toInt32) &&& (255 : Int32))) 1 (((Int32.toUInt32 x0 >>> (Int32.toUInt32 16 &&& Int32.toUInt32 31)).toInt32) &&& (255 : Int32))) 2 (((Int32.toUInt32 x0 >>> (Int32.toUInt32 8 &&& Int32.toUInt32 31)).toInt32) &&& (255 : Int32)))))]) [1, 2] rfl
                      have hDc := hD.sub (ws' := [(h9, .inr (8, [.ref h23, .int 3])), (h23, .inl (cI, 120, .inl (upd (upd (upd (fun _ => 0) 0 (((Int32.toUInt32 x0 >>> (Int32.toUInt32 24 &&& Int32.toUInt32 31)).toInt32) &&& (255 : Int32))) 1 (((Int32.toUInt32 x0 >>> (Int32.toUInt32 16 &&& Int32.toUInt32 31)).toInt32) &&& (255 : Int32))) 2 (((Int32.toUInt32 x0 >>> (Int32.toUInt32 8 &&& Int32.toUInt32 31)).toInt32) &&& (255 : Int32)))))]) [1, 2] (by decide) rfl
                      refine lz_qv (wr := [(h0, .inr (11, [.ref h1, .ref h2, .ref h3, .ref h4, .ref h5, .ref h6, .ref h7, .int 0, .int 0, .ref h8, .ref h9, .ref h10, .ref h11, .ref h12, .ref h13, .ref h14]))]) (w1 := [(h9, .inr (8, [.ref h23, .int 4])), (h23, .inl (cI, 120, .inl (upd (upd (upd (upd (fun _ => 0) 0 (((Int32.toUInt32 x0 >>> (Int32.toUInt32 24 &&& Int32.toUInt32 31)).toInt32) &&& (255 : Int32))) 1 (((Int32.toUInt32 x0 >>> (Int32.toUInt32 16 &&& Int32.toUInt32 31)).toInt32) &&& (255 : Int32))) 2 (((Int32.toUInt32 x0 >>> (Int32.toUInt32 8 &&& Int32.toUInt32 31)).toInt32) &&& (255 : Int32))) 3 (((Int32.toUInt32 x0 >>> (Int32.toUInt32 0 &&& Int32.toUInt32 31)).toInt32) &&& (255 : Int32)))))]) (As := [.int (((Int32.toUInt32 x0 >>> (Int32.toUInt32 0 &&& Int32.toUInt32 31)).toInt32) &&& (255 : Int32))]) (rest := []) ⟨hx, hb, hml, hown, hts⟩ (c_X8_append_3 l D cI cS _ h9 h23 ((upd (upd (upd (fun _ => 0) 0 (((Int32.toUInt32 x0 >>> (Int32.toUInt32 24 &&& Int32.toUInt32 31)).toInt32) &&& (255 : Int32))) 1 (((Int32.toUInt32 x0 >>> (Int32.toUInt32 16 &&& Int32.toUInt32 31)).toInt32) &&& (255 : Int32))) 2 (((Int32.toUInt32 x0 >>> (Int32.toUInt32 8 &&& Int32.toUInt32 31)).toInt32) &&& (255 : Int32)))) (((Int32.toUInt32 x0 >>> (Int32.toUInt32 0 &&& Int32.toUInt32 31)).toInt32) &&& (255 : Int32))) hKK hP hD hS hA [1, 2] [0] (by decide) rfl rfl (by decide) (by decide) hPc hDc (ci := 8) rfl rfl (cwV 1 hts gX11_feed_X8_append rfl rfl rfl (by decide +kernel) ⟨Nat.le_of_ble_eq_true rfl, Nat.le_of_ble_eq_true rfl⟩) rfl hl.1 rfl (Nat.le_of_ble_eq_true rfl) dX11_feed_52 ⟨Nat.le_of_ble_eq_true rfl, Nat.le_of_ble_eq_true rfl⟩ (fun H locs hP hD hS => ?_)
                      have hP : va_P D cls [(h0, .inr (11, [.ref h1, .ref h2, .ref h3, .ref h4, .ref h5, .ref h6, .ref h7, .int 0, .int 0, .ref h8, .ref h9, .ref h10, .ref h11, .ref h12, .ref h13, .ref h14])), (h9, .inr (8, [.ref h23, .int 4])), (h23, .inl (cI, 120, .inl (upd (upd (upd (upd (fun _ => 0) 0 (((Int32.toUInt32 x0 >>> (Int32.toUInt32 24 &&& Int32.toUInt32 31)).toInt32) &&& (255 : Int32))) 1 (((Int32.toUInt32 x0 >>> (Int32.toUInt32 16 &&& Int32.toUInt32 31)).toInt32) &&& (255 : Int32))) 2 (((Int32.toUInt32 x0 >>> (Int32.toUInt32 8 &&& Int32.toUInt32 31)).toInt32) &&& (255 : Int32))) 3 (((Int32.toUInt32 x0 >>> (Int32.toUInt32 0 &&& Int32.toUInt32 31)).toInt32) &&& (255 : Int32)))))] H := hP
                      have hD : va_D A [(h0, .inr (11, [.ref h1, .ref h2, .ref h3, .ref h4, .ref h5, .ref h6, .ref h7, .int 0, .int 0, .ref h8, .ref h9, .ref h10, .ref h11, .ref h12, .ref h13, .ref h14])), (h9, .inr (8, [.ref h23, .int 4])), (h23, .inl (cI, 120, .inl (upd (upd (upd (upd (fun _ => 0) 0 (((Int32.toUInt32 x0 >>> (Int32.toUInt32 24 &&& Int32.toUInt32 31)).toInt32) &&& (255 : Int32))) 1 (((Int32.toUInt32 x0 >>> (Int32.toUInt32 16 &&& Int32.toUInt32 31)).toInt32) &&& (255 : Int32))) 2 (((Int32.toUInt32 x0 >>> (Int32.toUInt32 8 &&& Int32.toUInt32 31)).toInt32) &&& (255 : Int32))) 3 (((Int32.toUInt32 x0 >>> (Int32.toUInt32 0 &&& Int32.toUInt32 31)).toInt32) &&& (255 : Int32)))))] := hD
                      refine lv_iinc (v := (-1)) (lv' := [(3, .int (-1)), (0, .ref h0), (1, .int x0), (2, .int 4)]) hx hb dX11_feed_55 hl (k := 0) rfl (by decide) (by decide) rfl (fun ls hl => ?_)
                      refine lv_goto (tgt := 34) hx hb dX11_feed_58 (by decide) ?_
                      refine lv_iload_n hx hb dX11_feed_34 rfl (lv_at hl 0 rfl) ?_
                      refine lv_if_lt (tgt := 61) hx hb dX11_feed_35 (by decide) (fun c3628 => ?_) (fun c3628 => ?_)
                      · refine lv_aload_n hx hb dX11_feed_61 rfl (lv_at hl 1 rfl) ?_
                        refine va_get (D := D) (ci := 11) (v := .ref h9) (C := RX11) (T := TX11) (N := 16) hx hb hts hin11 hown hK hP 0 rfl rfl 10 (by decide) (hts (.fieldLink RX11 60 "MissedPoints" "tape" "LMissedPoints$Tape;") (by decide +kernel)) (fun _ h9 => h9) rfl dX11_feed_62 ?_
                        refine va_getN (D := D) (ci := 8) (v := .int 4) (C := RX8) (T := TX8) (N := 2) hx hb hts hin8 hown hK hP 1 rfl rfl 1 (by decide) (va_Nw.use rfl hN.1) (fun _ h9 => h9) rfl dX11_feed_65 ?_
                        have hP9 := hP.sub (ws' := []) [] rfl
                        have hD9 := hD.sub (ws' := []) [] (by decide) rfl
                        subst hAe
                        exact W.iret (v := 4) hx hb hr (fun t ht hW => ⟨⟨_, (), rfl, by rw [if_neg c3599, if_pos c3600, if_neg k3602, if_neg k3606, if_neg k3612], by rw [ht]; exact hP9, hD9⟩, hS.F ht⟩) hS.2.2 dX11_feed_68
                      · exact absurd c3628 (by decide)
      · exact absurd (show x1 ≤ 120 from by have zf1 := mt (lz_lt x1 (1 : Int32)).mpr c3599; have zf2 := (lz_le x1 (4 : Int32)).mp c3600; have zn0 : (1 : Int32).toInt = 1 := (by decide); have zn1 : (4 : Int32).toInt = 4 := (by decide); have zn2 : (120 : Int32).toInt = 120 := (by decide); rw [lz_le]; omega) c3601
    · refine lv_bipush (v := (-2)) hx hb dX11_feed_10 (by decide) ?_
      have hP9 := hP.sub (ws' := []) [] rfl
      have hD9 := hD.sub (ws' := []) [] (by decide) rfl
      subst hAe
      exact W.iret (v := (-2)) hx hb hr (fun t ht hW => ⟨⟨_, (), rfl, by rw [if_neg c3599, if_neg c3600], by rw [ht]; exact hP9, hD9⟩, hS.F ht⟩) hS.2.2 dX11_feed_12
set_option maxHeartbeats 4000000 in
set_option maxRecDepth 100000 in
theorem c_X8_clear_0 (l : Launch) (D : va_G) (cI cS : ClassId) (sz : Nat) (h0 h1 : Nat) : Met l yX8_clear wsX8_clear ({ frames := 0, cells := 0, slots := 0, locals := 0 }) (PQ D cI cS [(h0, .inr (8, [.ref h1, .int 0]))] sz [.ref h0]) (QI D [(h0, .inr (8, [.ref h1, .int 0]))] [(h0, .inr (8, [.ref h1, .int 0]))] sz (fun r => r = (0 : Int32))) 0 0 (va_A [(h0, .inr (8, [.ref h1, .int 0]))] sz) := by
  refine Met.ofW (cc := cX8_clear) (maxL := 2) (ret := (some .int)) (by decide) rfl ?_
  intro p e s m args below meth c s₁ B hml hv
  obtain ⟨rfl, hsz, hP, hKK, hD0⟩ := hv
  have hx := B.exec
  have hb := B.bytes
  have hr := B.returns
  have hts := atoms_spec (ws := wsX8_clear) B.pre
  have hown : s.vm.findClass RX8 = some m.cls := findClass_of_methodNamed B.named
  have hlocks := B.notSynchronized
  have hK := hKK.1
  have hN := hKK.2
  have hin8 : ∀ w ∈ wsX80, w ∈ wsX8_clear := by decide +kernel
  subst hsz
  have hD := hD0.self (sz := s.heap.size)
  obtain ⟨A, hAe⟩ : ∃ A, A = va_A [(h0, .inr (8, [.ref h1, .int 0]))] s.heap.size := ⟨_, rfl⟩
  rw [← hAe] at hD
  have hA : ∀ q : Nat, s.heap.size ≤ q → A q := fun q h => by rw [hAe]; exact Or.inr h
  have hS : va_S A s.heap s.heap [] := va_S.rf
  have hl := lv_entry ([.ref h0]) (n := 2) (Nat.le_of_ble_eq_true rfl)
  rw [lg_entry_eq]
  generalize (lg_sl ([.ref h0]) ++ List.replicate (2 - (lg_sl ([.ref h0])).length) Slot.unset).toArray = ls at hl ⊢
  have hl : lv_has ls 2 [(0, .ref h0)] := hl
  refine lv_aload_n hx hb dX8_clear_0 rfl (lv_at hl 0 rfl) ?_
  refine va_get (D := D) (ci := 8) (v := .int 0) (C := RX8) (T := TX8) (N := 2) hx hb hts hin8 hown hK hP 0 rfl rfl 1 (by decide) (hts (.fieldLink RX8 15 "MissedPoints$Tape" "size" "I") (by decide +kernel)) (fun _ h9 => h9) rfl dX8_clear_1 ?_
  refine lv_istore_n (lv' := [(1, .int 0), (0, .ref h0)]) hx hb dX8_clear_4 rfl hl (by decide) rfl (fun ls hl => ?_)
  refine lv_aload_n hx hb dX8_clear_5 rfl (lv_at hl 1 rfl) ?_
  refine lv_iconst (v := 0) hx hb dX8_clear_6 (by decide) ?_
  refine va_put (D := D) (ci := 8) (v := .int 0) (ty := .int) (C := RX8) (T := TX8) (N := 2) hx hb hts hin8 tyX8 tyX8_ok nmX8 hown hK hP hD hS 0 rfl rfl 1 (by decide) (hts (.fieldLink RX8 15 "MissedPoints$Tape" "size" "I") (by decide +kernel)) (fun _ h9 => h9) rfl (by decide +kernel) rfl rfl (Nat.le_of_ble_eq_true rfl) dX8_clear_7 (fun H locs hP hD hS => ?_)
  have hP : va_P D cls [(h0, .inr (8, [.ref h1, .int 0]))] H := hP
  have hD : va_D A [(h0, .inr (8, [.ref h1, .int 0]))] := hD
  refine lv_iload_n hx hb dX8_clear_10 rfl (lv_at hl 0 rfl) ?_
  have hP9 := hP.sub (ws' := [(h0, .inr (8, [.ref h1, .int 0]))]) [0] rfl
  have hD9 := hD.sub (ws' := [(h0, .inr (8, [.ref h1, .int 0]))]) [0] (by decide) rfl
  subst hAe
  exact W.iret (v := 0) hx hb hr (fun t ht hW => ⟨⟨_, (), rfl, rfl, by rw [ht]; exact hP9, hD9⟩, hS.F ht⟩) hS.2.2 dX8_clear_11
set_option maxHeartbeats 4000000 in
set_option maxRecDepth 100000 in
theorem c_X11_wipe_0 (l : Launch) (D : va_G) (cI cS : ClassId) (sz : Nat) (h0 h1 h2 h3 h4 h5 h6 h7 h8 h9 h10 h11 h12 h13 h14 h23 : Nat) : Met l yX11_wipe wsX11_wipe ({ frames := 1, cells := 0, slots := 0, locals := 40 }) (PQ D cI cS [(h0, .inr (11, [.ref h1, .ref h2, .ref h3, .ref h4, .ref h5, .ref h6, .ref h7, .int 0, .int 0, .ref h8, .ref h9, .ref h10, .ref h11, .ref h12, .ref h13, .ref h14])), (h9, .inr (8, [.ref h23, .int 0]))] sz [.ref h0]) (QI D [(h0, .inr (11, [.ref h1, .ref h2, .ref h3, .ref h4, .ref h5, .ref h6, .ref h7, .int 0, .int 0, .ref h8, .ref h9, .ref h10, .ref h11, .ref h12, .ref h13, .ref h14])), (h9, .inr (8, [.ref h23, .int 0]))] [] sz (fun r => r = (0 : Int32))) 0 0 (va_A [(h0, .inr (11, [.ref h1, .ref h2, .ref h3, .ref h4, .ref h5, .ref h6, .ref h7, .int 0, .int 0, .ref h8, .ref h9, .ref h10, .ref h11, .ref h12, .ref h13, .ref h14])), (h9, .inr (8, [.ref h23, .int 0]))] sz) := by
  refine Met.ofW (cc := cX11_wipe) (maxL := 1) (ret := (some .int)) (by decide) rfl ?_
  intro p e s m args below meth c s₁ B hml hv
  obtain ⟨rfl, hsz, hP, hKK, hD0⟩ := hv
  have hx := B.exec
  have hb := B.bytes
  have hr := B.returns
  have hts := atoms_spec (ws := wsX11_wipe) B.pre
  have hown : s.vm.findClass RX11 = some m.cls := findClass_of_methodNamed B.named
  have hlocks := B.notSynchronized
  have hK := hKK.1
  have hN := hKK.2
  have hin11 : ∀ w ∈ wsX110, w ∈ wsX11_wipe := by decide +kernel
  subst hsz
  have hD := hD0.self (sz := s.heap.size)
  obtain ⟨A, hAe⟩ : ∃ A, A = va_A [(h0, .inr (11, [.ref h1, .ref h2, .ref h3, .ref h4, .ref h5, .ref h6, .ref h7, .int 0, .int 0, .ref h8, .ref h9, .ref h10, .ref h11, .ref h12, .ref h13, .ref h14])), (h9, .inr (8, [.ref h23, .int 0]))] s.heap.size := ⟨_, rfl⟩
  rw [← hAe] at hD
  have hA : ∀ q : Nat, s.heap.size ≤ q → A q := fun q h => by rw [hAe]; exact Or.inr h
  have hS : va_S A s.heap s.heap [] := va_S.rf
  have hl := lv_entry ([.ref h0]) (n := 1) (Nat.le_of_ble_eq_true rfl)
  rw [lg_entry_eq]
  generalize (lg_sl ([.ref h0]) ++ List.replicate (1 - (lg_sl ([.ref h0])).length) Slot.unset).toArray = ls at hl ⊢
  have hl : lv_has ls 1 [(0, .ref h0)] := hl
  refine lv_aload_n hx hb dX11_wipe_0 rfl (lv_at hl 0 rfl) ?_
  refine va_get (D := D) (ci := 11) (v := .ref h9) (C := RX11) (T := TX11) (N := 16) hx hb hts hin11 hown hK hP 0 rfl rfl 10 (by decide) (hts (.fieldLink RX11 60 "MissedPoints" "tape" "LMissedPoints$Tape;") (by decide +kernel)) (fun _ h9 => h9) rfl dX11_wipe_1 ?_
  have hPc := hP.sub (ws' := [(h9, .inr (8, [.ref h23, .int 0]))]) [1] rfl
  have hDc := hD.sub (ws' := [(h9, .inr (8, [.ref h23, .int 0]))]) [1] (by decide) rfl
  refine lz_qi (wr := [(h0, .inr (11, [.ref h1, .ref h2, .ref h3, .ref h4, .ref h5, .ref h6, .ref h7, .int 0, .int 0, .ref h8, .ref h9, .ref h10, .ref h11, .ref h12, .ref h13, .ref h14]))]) (w1 := [(h9, .inr (8, [.ref h23, .int 0]))]) (As := []) (rest := []) ⟨hx, hb, hml, hown, hts⟩ (c_X8_clear_0 l D cI cS _ h9 h23) hKK hP hD hS hA [1] [0] (by decide) rfl rfl (by decide) (by decide) hPc hDc (ci := 8) rfl rfl (cwV 0 hts gX11_wipe_X8_clear rfl rfl rfl (by decide +kernel) ⟨Nat.le_of_ble_eq_true rfl, Nat.le_of_ble_eq_true rfl⟩) rfl hl.1 rfl (Nat.le_of_ble_eq_true rfl) dX11_wipe_4 ⟨Nat.le_of_ble_eq_true rfl, Nat.le_of_ble_eq_true rfl⟩ (fun r3630 H locs hw hP hD hS => ?_)
  have hP : va_P D cls [(h0, .inr (11, [.ref h1, .ref h2, .ref h3, .ref h4, .ref h5, .ref h6, .ref h7, .int 0, .int 0, .ref h8, .ref h9, .ref h10, .ref h11, .ref h12, .ref h13, .ref h14])), (h9, .inr (8, [.ref h23, .int 0]))] H := hP
  have hD : va_D A [(h0, .inr (11, [.ref h1, .ref h2, .ref h3, .ref h4, .ref h5, .ref h6, .ref h7, .int 0, .int 0, .ref h8, .ref h9, .ref h10, .ref h11, .ref h12, .ref h13, .ref h14])), (h9, .inr (8, [.ref h23, .int 0]))] := hD
  subst hw
  have hP9 := hP.sub (ws' := []) [] rfl
  have hD9 := hD.sub (ws' := []) [] (by decide) rfl
  subst hAe
  exact W.iret (v := 0) hx hb hr (fun t ht hW => ⟨⟨_, (), rfl, rfl, by rw [ht]; exact hP9, hD9⟩, hS.F ht⟩) hS.2.2 dX11_wipe_7
set_option maxHeartbeats 4000000 in
set_option maxRecDepth 100000 in
theorem c_X8_byteAt_0 (l : Launch) (D : va_G) (cI cS : ClassId) (h0 h1 : Nat) : Met l yX8_byteAt wsX8_byteAt ({ frames := 0, cells := 0, slots := 0, locals := 0 }) (PS D cI cS [(h0, .inr (8, [.ref h1, .int 0]))] [.ref h0, .int 0]) (vp_Si (fun r => r = ((-1) : Int32))) 0 0 (fun _ => False) := by
  refine Met.ofW (cc := cX8_byteAt) (maxL := 2) (ret := (some .int)) (by decide) rfl ?_
  intro p e s m args below meth c s₁ B hml hv
  obtain ⟨rfl, hP, hKK⟩ := hv
  have hx := B.exec
  have hb := B.bytes
  have hr := B.returns
  have hts := atoms_spec (ws := wsX8_byteAt) B.pre
  have hown : s.vm.findClass RX8 = some m.cls := findClass_of_methodNamed B.named
  have hlocks := B.notSynchronized
  have hK := hKK.1
  have hN := hKK.2
  have hin8 : ∀ w ∈ wsX80, w ∈ wsX8_byteAt := by decide +kernel
  have hl := lv_entry ([.ref h0, .int 0]) (n := 2) (Nat.le_of_ble_eq_true rfl)
  rw [lg_entry_eq]
  generalize (lg_sl ([.ref h0, .int 0]) ++ List.replicate (2 - (lg_sl ([.ref h0, .int 0])).length) Slot.unset).toArray = ls at hl ⊢
  have hl : lv_has ls 2 [(0, .ref h0), (1, .int 0)] := hl
  refine lv_iload_n hx hb dX8_byteAt_0 rfl (lv_at hl 1 rfl) ?_
  refine lv_if_lt (tgt := 27) hx hb dX8_byteAt_1 (by decide) (fun c3647 => ?_) (fun c3647 => ?_)
  · exact absurd c3647 (by decide)
  · refine lv_iload_n hx hb dX8_byteAt_4 rfl (lv_at hl 1 rfl) ?_
    refine lv_aload_n hx hb dX8_byteAt_5 rfl (lv_at hl 0 rfl) ?_
    refine va_get (D := D) (ci := 8) (v := .int 0) (C := RX8) (T := TX8) (N := 2) hx hb hts hin8 hown hK hP 0 rfl rfl 1 (by decide) (hts (.fieldLink RX8 15 "MissedPoints$Tape" "size" "I") (by decide +kernel)) (fun _ h9 => h9) rfl dX8_byteAt_6 ?_
    refine lv_icmp_ge (tgt := 27) hx hb dX8_byteAt_9 (by decide) (fun c3648 => ?_) (fun c3648 => ?_)
    · refine lv_iconst (v := (-1)) hx hb dX8_byteAt_27 (by decide) ?_
      exact W.iret (v := (-1)) hx hb hr (fun t ht hW => ⟨_, rfl, rfl, ht⟩) (fun q hq => absurd hq List.not_mem_nil) dX8_byteAt_28
    · exact absurd c3648 (by decide)
set_option maxHeartbeats 4000000 in
set_option maxRecDepth 100000 in
theorem c_X5_tokenOf_0 (l : Launch) (D : va_G) (cI cS : ClassId) : Met l yX5_tokenOf wsX5_tokenOf ({ frames := 0, cells := 0, slots := 0, locals := 0 }) (PS D cI cS [] [.int (-1)]) (vp_Si (fun r => r = ((-1) : Int32))) 0 0 (fun _ => False) := by
  refine Met.ofW (cc := cX5_tokenOf) (maxL := 2) (ret := (some .int)) (by decide) rfl ?_
  intro p e s m args below meth c s₁ B hml hv
  obtain ⟨rfl, hP, hKK⟩ := hv
  have hx := B.exec
  have hb := B.bytes
  have hr := B.returns
  have hts := atoms_spec (ws := wsX5_tokenOf) B.pre
  have hown : s.vm.findClass RX5 = some m.cls := findClass_of_methodNamed B.named
  have hlocks := B.notSynchronized
  have hK := hKK.1
  have hN := hKK.2
  have hl := lv_entry ([.int (-1)]) (n := 2) (Nat.le_of_ble_eq_true rfl)
  rw [lg_entry_eq]
  generalize (lg_sl ([.int (-1)]) ++ List.replicate (2 - (lg_sl ([.int (-1)])).length) Slot.unset).toArray = ls at hl ⊢
  have hl : lv_has ls 2 [(0, .int (-1))] := hl
  refine lv_iload_n hx hb dX5_tokenOf_0 rfl (lv_at hl 0 rfl) ?_
  refine lv_if_ge (tgt := 6) hx hb dX5_tokenOf_1 (by decide) (fun c3653 => ?_) (fun c3653 => ?_)
  · exact absurd c3653 (by decide)
  · refine lv_iconst (v := (-1)) hx hb dX5_tokenOf_4 (by decide) ?_
    exact W.iret (v := (-1)) hx hb hr (fun t ht hW => ⟨_, rfl, rfl, ht⟩) (fun q hq => absurd hq List.not_mem_nil) dX5_tokenOf_5
set_option maxHeartbeats 4000000 in
set_option maxRecDepth 100000 in
theorem c_X5_step_0 (l : Launch) (D : va_G) (cI cS : ClassId) (sz : Nat) (h0 h1 h2 h3 h4 : Nat) : Met l yX5_step wsX5_step ({ frames := 1, cells := 0, slots := 0, locals := 40 }) (PQ D cI cS [(h0, .inr (5, [.ref h1, .ref h2, .ref h3, .int 0, .int 0, .int 0, .int 0, .int (-1)])), (h1, .inr (8, [.ref h4, .int 0]))] sz [.ref h0]) (QV D [(h0, .inr (5, [.ref h1, .ref h2, .ref h3, .int 0, .int 0, .int 0, .int 0, .int (-1)])), (h1, .inr (8, [.ref h4, .int 0]))] [(h0, .inr (5, [.ref h1, .ref h2, .ref h3, .int 0, .int 0, .int (-1), .int 0, .int (-1)])), (h1, .inr (8, [.ref h4, .int 0]))] sz) 0 0 (va_A [(h0, .inr (5, [.ref h1, .ref h2, .ref h3, .int 0, .int 0, .int 0, .int 0, .int (-1)])), (h1, .inr (8, [.ref h4, .int 0]))] sz) := by
  refine Met.ofW (cc := cX5_step) (maxL := 4) (ret := none) (by decide) rfl ?_
  intro p e s m args below meth c s₁ B hml hv
  obtain ⟨rfl, hsz, hP, hKK, hD0⟩ := hv
  have hx := B.exec
  have hb := B.bytes
  have hr := B.returns
  have hts := atoms_spec (ws := wsX5_step) B.pre
  have hown : s.vm.findClass RX5 = some m.cls := findClass_of_methodNamed B.named
  have hlocks := B.notSynchronized
  have hK := hKK.1
  have hN := hKK.2
  have hin5 : ∀ w ∈ wsX50, w ∈ wsX5_step := by decide +kernel
  subst hsz
  have hD := hD0.self (sz := s.heap.size)
  obtain ⟨A, hAe⟩ : ∃ A, A = va_A [(h0, .inr (5, [.ref h1, .ref h2, .ref h3, .int 0, .int 0, .int 0, .int 0, .int (-1)])), (h1, .inr (8, [.ref h4, .int 0]))] s.heap.size := ⟨_, rfl⟩
  rw [← hAe] at hD
  have hA : ∀ q : Nat, s.heap.size ≤ q → A q := fun q h => by rw [hAe]; exact Or.inr h
  have hS : va_S A s.heap s.heap [] := va_S.rf
  have hl := lv_entry ([.ref h0]) (n := 4) (Nat.le_of_ble_eq_true rfl)
  rw [lg_entry_eq]
  generalize (lg_sl ([.ref h0]) ++ List.replicate (4 - (lg_sl ([.ref h0])).length) Slot.unset).toArray = ls at hl ⊢
  have hl : lv_has ls 4 [(0, .ref h0)] := hl
  refine lv_iconst (v := 0) hx hb dX5_step_0 (by decide) ?_
  refine lv_istore_n (lv' := [(1, .int 0), (0, .ref h0)]) hx hb dX5_step_1 rfl hl (by decide) rfl (fun ls hl => ?_)
  refine lv_iload_n hx hb dX5_step_2 rfl (lv_at hl 0 rfl) ?_
  refine lv_bipush (v := 120) hx hb dX5_step_3 (by decide) ?_
  refine lv_icmp_ge (tgt := 40) hx hb dX5_step_5 (by decide) (fun c3657 => ?_) (fun c3657 => ?_)
  · exact absurd c3657 (by decide)
  · refine lv_aload_n hx hb dX5_step_8 rfl (lv_at hl 1 rfl) ?_
    refine va_get (D := D) (ci := 5) (v := .ref h1) (C := RX5) (T := TX5) (N := 8) hx hb hts hin5 hown hK hP 0 rfl rfl 0 (by decide) (hts (.fieldLink RX5 15 "MissedPoints$Reader" "tape" "LMissedPoints$Tape;") (by decide +kernel)) (fun _ h9 => h9) rfl dX5_step_9 ?_
    refine lv_aload_n hx hb dX5_step_12 rfl (lv_at hl 1 rfl) ?_
    refine va_get (D := D) (ci := 5) (v := .int 0) (C := RX5) (T := TX5) (N := 8) hx hb hts hin5 hown hK hP 0 rfl rfl 3 (by decide) (hts (.fieldLink RX5 23 "MissedPoints$Reader" "at" "I") (by decide +kernel)) (fun _ h9 => h9) rfl dX5_step_13 ?_
    have hPc := hP.sub (ws' := [(h1, .inr (8, [.ref h4, .int 0]))]) [1] rfl
    refine lz_sv (As := [.int 0]) (rest := []) ⟨hx, hb, hml, hown, hts⟩ (c_X8_byteAt_0 l D cI cS h1 h4) hKK hPc (ci := 8) rfl rfl (cwV 1 hts gX5_step_X8_byteAt rfl rfl rfl (by decide +kernel) ⟨Nat.le_of_ble_eq_true rfl, Nat.le_of_ble_eq_true rfl⟩) rfl hl.1 rfl (Nat.le_of_ble_eq_true rfl) dX5_step_16 ⟨Nat.le_of_ble_eq_true rfl, Nat.le_of_ble_eq_true rfl⟩ (fun r3658 hw => ?_)
    subst hw
    refine lv_bipush (v := 32) hx hb dX5_step_19 (by decide) ?_
    refine lv_icmp_ne (tgt := 40) hx hb dX5_step_21 (by decide) (fun c3659 => ?_) (fun c3659 => ?_)
    · refine lv_aload_n hx hb dX5_step_40 rfl (lv_at hl 1 rfl) ?_
      refine lv_aload_n hx hb dX5_step_41 rfl (lv_at hl 1 rfl) ?_
      refine va_get (D := D) (ci := 5) (v := .int 0) (C := RX5) (T := TX5) (N := 8) hx hb hts hin5 hown hK hP 0 rfl rfl 3 (by decide) (hts (.fieldLink RX5 23 "MissedPoints$Reader" "at" "I") (by decide +kernel)) (fun _ h9 => h9) rfl dX5_step_42 ?_
      refine va_put (D := D) (ci := 5) (v := .int 0) (ty := .int) (C := RX5) (T := TX5) (N := 8) hx hb hts hin5 tyX5 tyX5_ok nmX5 hown hK hP hD hS 0 rfl rfl 4 (by decide) (hts (.fieldLink RX5 42 "MissedPoints$Reader" "start" "I") (by decide +kernel)) (fun _ h9 => h9) rfl (by decide +kernel) rfl rfl (Nat.le_of_ble_eq_true rfl) dX5_step_45 (fun H locs hP hD hS => ?_)
      have hP : va_P D cls [(h0, .inr (5, [.ref h1, .ref h2, .ref h3, .int 0, .int 0, .int 0, .int 0, .int (-1)])), (h1, .inr (8, [.ref h4, .int 0]))] H := hP
      have hD : va_D A [(h0, .inr (5, [.ref h1, .ref h2, .ref h3, .int 0, .int 0, .int 0, .int 0, .int (-1)])), (h1, .inr (8, [.ref h4, .int 0]))] := hD
      refine lv_aload_n hx hb dX5_step_48 rfl (lv_at hl 1 rfl) ?_
      refine lv_iconst (v := 0) hx hb dX5_step_49 (by decide) ?_
      refine va_put (D := D) (ci := 5) (v := .int 0) (ty := .int) (C := RX5) (T := TX5) (N := 8) hx hb hts hin5 tyX5 tyX5_ok nmX5 hown hK hP hD hS 0 rfl rfl 6 (by decide) (hts (.fieldLink RX5 51 "MissedPoints$Reader" "value" "I") (by decide +kernel)) (fun _ h9 => h9) rfl (by decide +kernel) rfl rfl (Nat.le_of_ble_eq_true rfl) dX5_step_50 (fun H locs hP hD hS => ?_)
      have hP : va_P D cls [(h0, .inr (5, [.ref h1, .ref h2, .ref h3, .int 0, .int 0, .int 0, .int 0, .int (-1)])), (h1, .inr (8, [.ref h4, .int 0]))] H := hP
      have hD : va_D A [(h0, .inr (5, [.ref h1, .ref h2, .ref h3, .int 0, .int 0, .int 0, .int 0, .int (-1)])), (h1, .inr (8, [.ref h4, .int 0]))] := hD
      refine lv_aload_n hx hb dX5_step_53 rfl (lv_at hl 1 rfl) ?_
      refine lv_aload_n hx hb dX5_step_54 rfl (lv_at hl 1 rfl) ?_
      refine va_get (D := D) (ci := 5) (v := .ref h1) (C := RX5) (T := TX5) (N := 8) hx hb hts hin5 hown hK hP 0 rfl rfl 0 (by decide) (hts (.fieldLink RX5 15 "MissedPoints$Reader" "tape" "LMissedPoints$Tape;") (by decide +kernel)) (fun _ h9 => h9) rfl dX5_step_55 ?_
      refine lv_aload_n hx hb dX5_step_58 rfl (lv_at hl 1 rfl) ?_
      refine va_get (D := D) (ci := 5) (v := .int 0) (C := RX5) (T := TX5) (N := 8) hx hb hts hin5 hown hK hP 0 rfl rfl 3 (by decide) (hts (.fieldLink RX5 23 "MissedPoints$Reader" "at" "I") (by decide +kernel)) (fun _ h9 => h9) rfl dX5_step_59 ?_
      have hPc := hP.sub (ws' := [(h1, .inr (8, [.ref h4, .int 0]))]) [1] rfl
      refine lz_sv (As := [.int 0]) (rest := [.ref h0]) ⟨hx, hb, hml, hown, hts⟩ (c_X8_byteAt_0 l D cI cS h1 h4) hKK hPc (ci := 8) rfl rfl (cwV 1 hts gX5_step_X8_byteAt rfl rfl rfl (by decide +kernel) ⟨Nat.le_of_ble_eq_true rfl, Nat.le_of_ble_eq_true rfl⟩) rfl hl.1 rfl (Nat.le_of_ble_eq_true rfl) dX5_step_62 ⟨Nat.le_of_ble_eq_true rfl, Nat.le_of_ble_eq_true rfl⟩ (fun r3660 hw => ?_)
      subst hw
      have hPc := hP.sub (ws' := []) [] rfl
      refine lz_ss (As := [.int (-1)]) (rest := [.ref h0]) ⟨hx, hb, hml, hown, hts⟩ (c_X5_tokenOf_0 l D cI cS) hKK hPc (va_cwS 1 hts gX5_step_X5_tokenOf rfl rfl rfl (by decide +kernel) ⟨Nat.le_of_ble_eq_true rfl, Nat.le_of_ble_eq_true rfl⟩) rfl hl.1 rfl (Nat.le_of_ble_eq_true rfl) dX5_step_65 ⟨Nat.le_of_ble_eq_true rfl, Nat.le_of_ble_eq_true rfl⟩ (fun r3661 hw => ?_)
      subst hw
      refine va_put (D := D) (ci := 5) (v := .int (-1)) (ty := .int) (C := RX5) (T := TX5) (N := 8) hx hb hts hin5 tyX5 tyX5_ok nmX5 hown hK hP hD hS 0 rfl rfl 5 (by decide) (hts (.fieldLink RX5 36 "MissedPoints$Reader" "token" "I") (by decide +kernel)) (fun _ h9 => h9) rfl (by decide +kernel) rfl rfl (Nat.le_of_ble_eq_true rfl) dX5_step_68 (fun H locs hP hD hS => ?_)
      have hP : va_P D cls [(h0, .inr (5, [.ref h1, .ref h2, .ref h3, .int 0, .int 0, .int (-1), .int 0, .int (-1)])), (h1, .inr (8, [.ref h4, .int 0]))] H := hP
      have hD : va_D A [(h0, .inr (5, [.ref h1, .ref h2, .ref h3, .int 0, .int 0, .int (-1), .int 0, .int (-1)])), (h1, .inr (8, [.ref h4, .int 0]))] := hD
      refine lv_aload_n hx hb dX5_step_71 rfl (lv_at hl 1 rfl) ?_
      refine va_get (D := D) (ci := 5) (v := .int (-1)) (C := RX5) (T := TX5) (N := 8) hx hb hts hin5 hown hK hP 0 rfl rfl 5 (by decide) (hts (.fieldLink RX5 36 "MissedPoints$Reader" "token" "I") (by decide +kernel)) (fun _ h9 => h9) rfl dX5_step_72 ?_
      refine lv_bipush (v := (-2)) hx hb dX5_step_75 (by decide) ?_
      refine lv_icmp_eq (tgt := 103) hx hb dX5_step_77 (by decide) (fun c3662 => ?_) (fun c3662 => ?_)
      · exact absurd c3662 (by decide)
      · refine lv_aload_n hx hb dX5_step_80 rfl (lv_at hl 1 rfl) ?_
        refine lv_dup hx hb dX5_step_81 rfl ?_
        refine va_get (D := D) (ci := 5) (v := .int 0) (C := RX5) (T := TX5) (N := 8) hx hb hts hin5 hown hK hP 0 rfl rfl 3 (by decide) (hts (.fieldLink RX5 23 "MissedPoints$Reader" "at" "I") (by decide +kernel)) (fun _ h9 => h9) rfl dX5_step_82 ?_
        refine lv_aload_n hx hb dX5_step_85 rfl (lv_at hl 1 rfl) ?_
        refine va_get (D := D) (ci := 5) (v := .int (-1)) (C := RX5) (T := TX5) (N := 8) hx hb hts hin5 hown hK hP 0 rfl rfl 5 (by decide) (hts (.fieldLink RX5 36 "MissedPoints$Reader" "token" "I") (by decide +kernel)) (fun _ h9 => h9) rfl dX5_step_86 ?_
        refine lv_iconst (v := (-1)) hx hb dX5_step_89 (by decide) ?_
        refine lv_icmp_ne (tgt := 97) hx hb dX5_step_90 (by decide) (fun c3663 => ?_) (fun c3663 => ?_)
        · exact absurd c3663 (by decide)
        · refine lv_iconst (v := 0) hx hb dX5_step_93 (by decide) ?_
          refine lv_goto (tgt := 98) hx hb dX5_step_94 (by decide) ?_
          refine lv_iadd hx hb dX5_step_98 ?_
          refine lz_top (y := 0) (by decide) ?_
          refine va_put (D := D) (ci := 5) (v := .int 0) (ty := .int) (C := RX5) (T := TX5) (N := 8) hx hb hts hin5 tyX5 tyX5_ok nmX5 hown hK hP hD hS 0 rfl rfl 3 (by decide) (hts (.fieldLink RX5 23 "MissedPoints$Reader" "at" "I") (by decide +kernel)) (fun _ h9 => h9) rfl (by decide +kernel) rfl rfl (Nat.le_of_ble_eq_true rfl) dX5_step_99 (fun H locs hP hD hS => ?_)
          have hP : va_P D cls [(h0, .inr (5, [.ref h1, .ref h2, .ref h3, .int 0, .int 0, .int (-1), .int 0, .int (-1)])), (h1, .inr (8, [.ref h4, .int 0]))] H := hP
          have hD : va_D A [(h0, .inr (5, [.ref h1, .ref h2, .ref h3, .int 0, .int 0, .int (-1), .int 0, .int (-1)])), (h1, .inr (8, [.ref h4, .int 0]))] := hD
          have hP9 := hP.sub (ws' := [(h0, .inr (5, [.ref h1, .ref h2, .ref h3, .int 0, .int 0, .int (-1), .int 0, .int (-1)])), (h1, .inr (8, [.ref h4, .int 0]))]) [0, 1] rfl
          have hD9 := hD.sub (ws' := [(h0, .inr (5, [.ref h1, .ref h2, .ref h3, .int 0, .int 0, .int (-1), .int 0, .int (-1)])), (h1, .inr (8, [.ref h4, .int 0]))]) [0, 1] (by decide) rfl
          subst hAe
          exact W.vret hx hb hr (fun t ht hW => ⟨⟨(), rfl, trivial, by rw [ht]; exact hP9, hD9⟩, hS.F ht⟩) hS.2.2 dX5_step_102
    · exact absurd c3659 (by decide)
set_option maxHeartbeats 4000000 in
set_option maxRecDepth 100000 in
theorem c_X5_fail_0 (l : Launch) (D : va_G) (cI cS : ClassId) (sz : Nat) (h0 h1 h2 h3 : Nat) : Met l yX5_fail wsX5_fail ({ frames := 0, cells := 0, slots := 0, locals := 0 }) (PQ D cI cS [(h0, .inr (5, [.ref h1, .ref h2, .ref h3, .int 0, .int 0, .int (-1), .int 0, .int (-1)]))] sz [.ref h0]) (QV D [(h0, .inr (5, [.ref h1, .ref h2, .ref h3, .int 0, .int 0, .int (-1), .int 0, .int (-1)]))] [(h0, .inr (5, [.ref h1, .ref h2, .ref h3, .int 0, .int 0, .int (-1), .int 0, .int 0]))] sz) 0 0 (va_A [(h0, .inr (5, [.ref h1, .ref h2, .ref h3, .int 0, .int 0, .int (-1), .int 0, .int (-1)]))] sz) := by
  refine Met.ofW (cc := cX5_fail) (maxL := 1) (ret := none) (by decide) rfl ?_
  intro p e s m args below meth c s₁ B hml hv
  obtain ⟨rfl, hsz, hP, hKK, hD0⟩ := hv
  have hx := B.exec
  have hb := B.bytes
  have hr := B.returns
  have hts := atoms_spec (ws := wsX5_fail) B.pre
  have hown : s.vm.findClass RX5 = some m.cls := findClass_of_methodNamed B.named
  have hlocks := B.notSynchronized
  have hK := hKK.1
  have hN := hKK.2
  have hin5 : ∀ w ∈ wsX50, w ∈ wsX5_fail := by decide +kernel
  subst hsz
  have hD := hD0.self (sz := s.heap.size)
  obtain ⟨A, hAe⟩ : ∃ A, A = va_A [(h0, .inr (5, [.ref h1, .ref h2, .ref h3, .int 0, .int 0, .int (-1), .int 0, .int (-1)]))] s.heap.size := ⟨_, rfl⟩
  rw [← hAe] at hD
  have hA : ∀ q : Nat, s.heap.size ≤ q → A q := fun q h => by rw [hAe]; exact Or.inr h
  have hS : va_S A s.heap s.heap [] := va_S.rf
  have hl := lv_entry ([.ref h0]) (n := 1) (Nat.le_of_ble_eq_true rfl)
  rw [lg_entry_eq]
  generalize (lg_sl ([.ref h0]) ++ List.replicate (1 - (lg_sl ([.ref h0])).length) Slot.unset).toArray = ls at hl ⊢
  have hl : lv_has ls 1 [(0, .ref h0)] := hl
  refine lv_aload_n hx hb dX5_fail_0 rfl (lv_at hl 0 rfl) ?_
  refine va_get (D := D) (ci := 5) (v := .int (-1)) (C := RX5) (T := TX5) (N := 8) hx hb hts hin5 hown hK hP 0 rfl rfl 7 (by decide) (hts (.fieldLink RX5 27 "MissedPoints$Reader" "fault" "I") (by decide +kernel)) (fun _ h9 => h9) rfl dX5_fail_1 ?_
  refine lv_if_ge (tgt := 15) hx hb dX5_fail_4 (by decide) (fun c3669 => ?_) (fun c3669 => ?_)
  · exact absurd c3669 (by decide)
  · refine lv_aload_n hx hb dX5_fail_7 rfl (lv_at hl 0 rfl) ?_
    refine lv_aload_n hx hb dX5_fail_8 rfl (lv_at hl 0 rfl) ?_
    refine va_get (D := D) (ci := 5) (v := .int 0) (C := RX5) (T := TX5) (N := 8) hx hb hts hin5 hown hK hP 0 rfl rfl 4 (by decide) (hts (.fieldLink RX5 42 "MissedPoints$Reader" "start" "I") (by decide +kernel)) (fun _ h9 => h9) rfl dX5_fail_9 ?_
    refine va_put (D := D) (ci := 5) (v := .int 0) (ty := .int) (C := RX5) (T := TX5) (N := 8) hx hb hts hin5 tyX5 tyX5_ok nmX5 hown hK hP hD hS 0 rfl rfl 7 (by decide) (hts (.fieldLink RX5 27 "MissedPoints$Reader" "fault" "I") (by decide +kernel)) (fun _ h9 => h9) rfl (by decide +kernel) rfl rfl (Nat.le_of_ble_eq_true rfl) dX5_fail_12 (fun H locs hP hD hS => ?_)
    have hP : va_P D cls [(h0, .inr (5, [.ref h1, .ref h2, .ref h3, .int 0, .int 0, .int (-1), .int 0, .int 0]))] H := hP
    have hD : va_D A [(h0, .inr (5, [.ref h1, .ref h2, .ref h3, .int 0, .int 0, .int (-1), .int 0, .int 0]))] := hD
    have hP9 := hP.sub (ws' := [(h0, .inr (5, [.ref h1, .ref h2, .ref h3, .int 0, .int 0, .int (-1), .int 0, .int 0]))]) [0] rfl
    have hD9 := hD.sub (ws' := [(h0, .inr (5, [.ref h1, .ref h2, .ref h3, .int 0, .int 0, .int (-1), .int 0, .int 0]))]) [0] (by decide) rfl
    subst hAe
    exact W.vret hx hb hr (fun t ht hW => ⟨⟨(), rfl, trivial, by rw [ht]; exact hP9, hD9⟩, hS.F ht⟩) hS.2.2 dX5_fail_15
set_option maxHeartbeats 4000000 in
set_option maxRecDepth 100000 in
theorem c_X5_readItem_0 (l : Launch) (D : va_G) (cI cS : ClassId) (sz : Nat) (h0 h1 h2 h3 : Nat) : Met l yX5_readItem wsX5_readItem ({ frames := 1, cells := 0, slots := 0, locals := 40 }) (PQ D cI cS [(h0, .inr (5, [.ref h1, .ref h2, .ref h3, .int 0, .int 0, .int (-1), .int 0, .int (-1)]))] sz [.ref h0]) (QV D [(h0, .inr (5, [.ref h1, .ref h2, .ref h3, .int 0, .int 0, .int (-1), .int 0, .int (-1)]))] [(h0, .inr (5, [.ref h1, .ref h2, .ref h3, .int 0, .int 0, .int (-1), .int 0, .int 0]))] sz) 0 0 (va_A [(h0, .inr (5, [.ref h1, .ref h2, .ref h3, .int 0, .int 0, .int (-1), .int 0, .int (-1)]))] sz) := by
  refine Met.ofW (cc := cX5_readItem) (maxL := 1) (ret := none) (by decide) rfl ?_
  intro p e s m args below meth c s₁ B hml hv
  obtain ⟨rfl, hsz, hP, hKK, hD0⟩ := hv
  have hx := B.exec
  have hb := B.bytes
  have hr := B.returns
  have hts := atoms_spec (ws := wsX5_readItem) B.pre
  have hown : s.vm.findClass RX5 = some m.cls := findClass_of_methodNamed B.named
  have hlocks := B.notSynchronized
  have hK := hKK.1
  have hN := hKK.2
  have hin5 : ∀ w ∈ wsX50, w ∈ wsX5_readItem := by decide +kernel
  subst hsz
  have hD := hD0.self (sz := s.heap.size)
  obtain ⟨A, hAe⟩ : ∃ A, A = va_A [(h0, .inr (5, [.ref h1, .ref h2, .ref h3, .int 0, .int 0, .int (-1), .int 0, .int (-1)]))] s.heap.size := ⟨_, rfl⟩
  rw [← hAe] at hD
  have hA : ∀ q : Nat, s.heap.size ≤ q → A q := fun q h => by rw [hAe]; exact Or.inr h
  have hS : va_S A s.heap s.heap [] := va_S.rf
  have hl := lv_entry ([.ref h0]) (n := 1) (Nat.le_of_ble_eq_true rfl)
  rw [lg_entry_eq]
  generalize (lg_sl ([.ref h0]) ++ List.replicate (1 - (lg_sl ([.ref h0])).length) Slot.unset).toArray = ls at hl ⊢
  have hl : lv_has ls 1 [(0, .ref h0)] := hl
  refine lv_aload_n hx hb dX5_readItem_0 rfl (lv_at hl 0 rfl) ?_
  refine va_get (D := D) (ci := 5) (v := .int (-1)) (C := RX5) (T := TX5) (N := 8) hx hb hts hin5 hown hK hP 0 rfl rfl 5 (by decide) (hts (.fieldLink RX5 36 "MissedPoints$Reader" "token" "I") (by decide +kernel)) (fun _ h9 => h9) rfl dX5_readItem_1 ?_
  refine lv_bipush (v := (-2)) hx hb dX5_readItem_4 (by decide) ?_
  refine lv_icmp_ne (tgt := 16) hx hb dX5_readItem_6 (by decide) (fun c3671 => ?_) (fun c3671 => ?_)
  · refine lv_aload_n hx hb dX5_readItem_16 rfl (lv_at hl 0 rfl) ?_
    refine va_get (D := D) (ci := 5) (v := .int (-1)) (C := RX5) (T := TX5) (N := 8) hx hb hts hin5 hown hK hP 0 rfl rfl 5 (by decide) (hts (.fieldLink RX5 36 "MissedPoints$Reader" "token" "I") (by decide +kernel)) (fun _ h9 => h9) rfl dX5_readItem_17 ?_
    refine lv_bipush (v := 40) hx hb dX5_readItem_20 (by decide) ?_
    refine lv_icmp_ne (tgt := 35) hx hb dX5_readItem_22 (by decide) (fun c3672 => ?_) (fun c3672 => ?_)
    · refine lv_aload_n hx hb dX5_readItem_35 rfl (lv_at hl 0 rfl) ?_
      refine va_get (D := D) (ci := 5) (v := .int (-1)) (C := RX5) (T := TX5) (N := 8) hx hb hts hin5 hown hK hP 0 rfl rfl 5 (by decide) (hts (.fieldLink RX5 36 "MissedPoints$Reader" "token" "I") (by decide +kernel)) (fun _ h9 => h9) rfl dX5_readItem_36 ?_
      refine lv_bipush (v := 91) hx hb dX5_readItem_39 (by decide) ?_
      refine lv_icmp_ne (tgt := 54) hx hb dX5_readItem_41 (by decide) (fun c3673 => ?_) (fun c3673 => ?_)
      · refine lv_aload_n hx hb dX5_readItem_54 rfl (lv_at hl 0 rfl) ?_
        have hPc := hP.sub (ws' := [(h0, .inr (5, [.ref h1, .ref h2, .ref h3, .int 0, .int 0, .int (-1), .int 0, .int (-1)]))]) [0] rfl
        have hDc := hD.sub (ws' := [(h0, .inr (5, [.ref h1, .ref h2, .ref h3, .int 0, .int 0, .int (-1), .int 0, .int (-1)]))]) [0] (by decide) rfl
        refine lz_qv (wr := []) (w1 := [(h0, .inr (5, [.ref h1, .ref h2, .ref h3, .int 0, .int 0, .int (-1), .int 0, .int 0]))]) (As := []) (rest := []) ⟨hx, hb, hml, hown, hts⟩ (c_X5_fail_0 l D cI cS _ h0 h1 h2 h3) hKK hP hD hS hA [0] [] (by decide) rfl rfl (by decide) (by decide) hPc hDc (ci := 5) rfl rfl (cwV 0 hts gX5_readItem_X5_fail rfl rfl rfl (by decide +kernel) ⟨Nat.le_of_ble_eq_true rfl, Nat.le_of_ble_eq_true rfl⟩) rfl hl.1 rfl (Nat.le_of_ble_eq_true rfl) dX5_readItem_55 ⟨Nat.le_of_ble_eq_true rfl, Nat.le_of_ble_eq_true rfl⟩ (fun H locs hP hD hS => ?_)
        have hP : va_P D cls [(h0, .inr (5, [.ref h1, .ref h2, .ref h3, .int 0, .int 0, .int (-1), .int 0, .int 0]))] H := hP
        have hD : va_D A [(h0, .inr (5, [.ref h1, .ref h2, .ref h3, .int 0, .int 0, .int (-1), .int 0, .int 0]))] := hD
        have hP9 := hP.sub (ws' := [(h0, .inr (5, [.ref h1, .ref h2, .ref h3, .int 0, .int 0, .int (-1), .int 0, .int 0]))]) [0] rfl
        have hD9 := hD.sub (ws' := [(h0, .inr (5, [.ref h1, .ref h2, .ref h3, .int 0, .int 0, .int (-1), .int 0, .int 0]))]) [0] (by decide) rfl
        subst hAe
        exact W.vret hx hb hr (fun t ht hW => ⟨⟨(), rfl, trivial, by rw [ht]; exact hP9, hD9⟩, hS.F ht⟩) hS.2.2 dX5_readItem_58
      · exact absurd c3673 (by decide)
    · exact absurd c3672 (by decide)
  · exact absurd c3671 (by decide)
set_option maxHeartbeats 4000000 in
set_option maxRecDepth 100000 in
theorem c_X5_readAll_0 (l : Launch) (D : va_G) (cI cS : ClassId) (sz : Nat) (h0 h1 h2 h3 h4 : Nat) : Met l yX5_readAll wsX5_readAll ({ frames := 2, cells := 0, slots := 0, locals := 80 }) (PQ D cI cS [(h0, .inr (5, [.ref h1, .ref h2, .ref h3, .int 0, .int 0, .int 0, .int 0, .int 0])), (h1, .inr (8, [.ref h4, .int 0])), (h3, .inl (cI, 12, .inl (fun _ => 0)))] sz [.ref h0]) (QI D [(h0, .inr (5, [.ref h1, .ref h2, .ref h3, .int 0, .int 0, .int 0, .int 0, .int 0])), (h1, .inr (8, [.ref h4, .int 0])), (h3, .inl (cI, 12, .inl (fun _ => 0)))] [(h3, .inl (cI, 12, .inl (fun _ => 0))), (h1, .inr (8, [.ref h4, .int 0])), (h0, .inr (5, [.ref h1, .ref h2, .ref h3, .int 0, .int 0, .int (-1), .int 0, .int 0]))] sz (fun r => r = (0 : Int32))) 0 0 (va_A [(h0, .inr (5, [.ref h1, .ref h2, .ref h3, .int 0, .int 0, .int 0, .int 0, .int 0])), (h1, .inr (8, [.ref h4, .int 0])), (h3, .inl (cI, 12, .inl (fun _ => 0)))] sz) := by
  refine Met.ofW (cc := cX5_readAll) (maxL := 2) (ret := (some .int)) (by decide) rfl ?_
  intro p e s m args below meth c s₁ B hml hv
  obtain ⟨rfl, hsz, hP, hKK, hD0⟩ := hv
  have hx := B.exec
  have hb := B.bytes
  have hr := B.returns
  have hts := atoms_spec (ws := wsX5_readAll) B.pre
  have hown : s.vm.findClass RX5 = some m.cls := findClass_of_methodNamed B.named
  have hlocks := B.notSynchronized
  have hK := hKK.1
  have hN := hKK.2
  have hin5 : ∀ w ∈ wsX50, w ∈ wsX5_readAll := by decide +kernel
  subst hsz
  have hD := hD0.self (sz := s.heap.size)
  obtain ⟨A, hAe⟩ : ∃ A, A = va_A [(h0, .inr (5, [.ref h1, .ref h2, .ref h3, .int 0, .int 0, .int 0, .int 0, .int 0])), (h1, .inr (8, [.ref h4, .int 0])), (h3, .inl (cI, 12, .inl (fun _ => 0)))] s.heap.size := ⟨_, rfl⟩
  rw [← hAe] at hD
  have hA : ∀ q : Nat, s.heap.size ≤ q → A q := fun q h => by rw [hAe]; exact Or.inr h
  have hS : va_S A s.heap s.heap [] := va_S.rf
  have hl := lv_entry ([.ref h0]) (n := 2) (Nat.le_of_ble_eq_true rfl)
  rw [lg_entry_eq]
  generalize (lg_sl ([.ref h0]) ++ List.replicate (2 - (lg_sl ([.ref h0])).length) Slot.unset).toArray = ls at hl ⊢
  have hl : lv_has ls 2 [(0, .ref h0)] := hl
  refine lv_iconst (v := 0) hx hb dX5_readAll_0 (by decide) ?_
  refine lv_istore_n (lv' := [(1, .int 0), (0, .ref h0)]) hx hb dX5_readAll_1 rfl hl (by decide) rfl (fun ls hl => ?_)
  refine lv_iload_n hx hb dX5_readAll_2 rfl (lv_at hl 0 rfl) ?_
  refine lv_bipush (v := 12) hx hb dX5_readAll_3 (by decide) ?_
  refine lv_icmp_ge (tgt := 21) hx hb dX5_readAll_5 (by decide) (fun c3679 => ?_) (fun c3679 => ?_)
  · exact absurd c3679 (by decide)
  · refine lv_aload_n hx hb dX5_readAll_8 rfl (lv_at hl 1 rfl) ?_
    refine va_get (D := D) (ci := 5) (v := .ref h3) (C := RX5) (T := TX5) (N := 8) hx hb hts hin5 hown hK hP 0 rfl rfl 2 (by decide) (hts (.fieldLink RX5 9 "MissedPoints$Reader" "links" "[I") (by decide +kernel)) (fun _ h9 => h9) rfl dX5_readAll_9 ?_
    refine lv_iload_n hx hb dX5_readAll_12 rfl (lv_at hl 0 rfl) ?_
    refine lv_iconst (v := 0) hx hb dX5_readAll_13 (by decide) ?_
    refine lz_astc hx hb hK hP hD hS 2 0 rfl rfl (lz_vp (x := 0) (n := 12) (by decide) (by decide)) dX5_readAll_14 (fun H locs hP hD hS => ?_)
    refine lv_iinc (v := 1) (lv' := [(1, .int 1), (0, .ref h0)]) hx hb dX5_readAll_15 hl (k := 0) rfl (by decide) (by decide) rfl (fun ls hl => ?_)
    refine lv_goto (tgt := 2) hx hb dX5_readAll_18 (by decide) ?_
    refine lv_iload_n hx hb dX5_readAll_2 rfl (lv_at hl 0 rfl) ?_
    refine lv_bipush (v := 12) hx hb dX5_readAll_3 (by decide) ?_
    refine lv_icmp_ge (tgt := 21) hx hb dX5_readAll_5 (by decide) (fun c3680 => ?_) (fun c3680 => ?_)
    · exact absurd c3680 (by decide)
    · refine lv_aload_n hx hb dX5_readAll_8 rfl (lv_at hl 1 rfl) ?_
      refine va_get (D := D) (ci := 5) (v := .ref h3) (C := RX5) (T := TX5) (N := 8) hx hb hts hin5 hown hK hP 0 rfl rfl 2 (by decide) (hts (.fieldLink RX5 9 "MissedPoints$Reader" "links" "[I") (by decide +kernel)) (fun _ h9 => h9) rfl dX5_readAll_9 ?_
      refine lv_iload_n hx hb dX5_readAll_12 rfl (lv_at hl 0 rfl) ?_
      refine lv_iconst (v := 0) hx hb dX5_readAll_13 (by decide) ?_
      refine lz_astc hx hb hK hP hD hS 2 0 rfl rfl (lz_vp (x := 1) (n := 12) (by decide) (by decide)) dX5_readAll_14 (fun H locs hP hD hS => ?_)
      refine lv_iinc (v := 2) (lv' := [(1, .int 2), (0, .ref h0)]) hx hb dX5_readAll_15 hl (k := 0) rfl (by decide) (by decide) rfl (fun ls hl => ?_)
      refine lv_goto (tgt := 2) hx hb dX5_readAll_18 (by decide) ?_
      refine lv_iload_n hx hb dX5_readAll_2 rfl (lv_at hl 0 rfl) ?_
      refine lv_bipush (v := 12) hx hb dX5_readAll_3 (by decide) ?_
      refine lv_icmp_ge (tgt := 21) hx hb dX5_readAll_5 (by decide) (fun c3681 => ?_) (fun c3681 => ?_)
      · exact absurd c3681 (by decide)
      · refine lv_aload_n hx hb dX5_readAll_8 rfl (lv_at hl 1 rfl) ?_
        refine va_get (D := D) (ci := 5) (v := .ref h3) (C := RX5) (T := TX5) (N := 8) hx hb hts hin5 hown hK hP 0 rfl rfl 2 (by decide) (hts (.fieldLink RX5 9 "MissedPoints$Reader" "links" "[I") (by decide +kernel)) (fun _ h9 => h9) rfl dX5_readAll_9 ?_
        refine lv_iload_n hx hb dX5_readAll_12 rfl (lv_at hl 0 rfl) ?_
        refine lv_iconst (v := 0) hx hb dX5_readAll_13 (by decide) ?_
        refine lz_astc hx hb hK hP hD hS 2 0 rfl rfl (lz_vp (x := 2) (n := 12) (by decide) (by decide)) dX5_readAll_14 (fun H locs hP hD hS => ?_)
        refine lv_iinc (v := 3) (lv' := [(1, .int 3), (0, .ref h0)]) hx hb dX5_readAll_15 hl (k := 0) rfl (by decide) (by decide) rfl (fun ls hl => ?_)
        refine lv_goto (tgt := 2) hx hb dX5_readAll_18 (by decide) ?_
        refine lv_iload_n hx hb dX5_readAll_2 rfl (lv_at hl 0 rfl) ?_
        refine lv_bipush (v := 12) hx hb dX5_readAll_3 (by decide) ?_
        refine lv_icmp_ge (tgt := 21) hx hb dX5_readAll_5 (by decide) (fun c3682 => ?_) (fun c3682 => ?_)
        · exact absurd c3682 (by decide)
        · refine lv_aload_n hx hb dX5_readAll_8 rfl (lv_at hl 1 rfl) ?_
          refine va_get (D := D) (ci := 5) (v := .ref h3) (C := RX5) (T := TX5) (N := 8) hx hb hts hin5 hown hK hP 0 rfl rfl 2 (by decide) (hts (.fieldLink RX5 9 "MissedPoints$Reader" "links" "[I") (by decide +kernel)) (fun _ h9 => h9) rfl dX5_readAll_9 ?_
          refine lv_iload_n hx hb dX5_readAll_12 rfl (lv_at hl 0 rfl) ?_
          refine lv_iconst (v := 0) hx hb dX5_readAll_13 (by decide) ?_
          refine lz_astc hx hb hK hP hD hS 2 0 rfl rfl (lz_vp (x := 3) (n := 12) (by decide) (by decide)) dX5_readAll_14 (fun H locs hP hD hS => ?_)
          refine lv_iinc (v := 4) (lv' := [(1, .int 4), (0, .ref h0)]) hx hb dX5_readAll_15 hl (k := 0) rfl (by decide) (by decide) rfl (fun ls hl => ?_)
          refine lv_goto (tgt := 2) hx hb dX5_readAll_18 (by decide) ?_
          refine lv_iload_n hx hb dX5_readAll_2 rfl (lv_at hl 0 rfl) ?_
          refine lv_bipush (v := 12) hx hb dX5_readAll_3 (by decide) ?_
          refine lv_icmp_ge (tgt := 21) hx hb dX5_readAll_5 (by decide) (fun c3683 => ?_) (fun c3683 => ?_)
          · exact absurd c3683 (by decide)
          · refine lv_aload_n hx hb dX5_readAll_8 rfl (lv_at hl 1 rfl) ?_
            refine va_get (D := D) (ci := 5) (v := .ref h3) (C := RX5) (T := TX5) (N := 8) hx hb hts hin5 hown hK hP 0 rfl rfl 2 (by decide) (hts (.fieldLink RX5 9 "MissedPoints$Reader" "links" "[I") (by decide +kernel)) (fun _ h9 => h9) rfl dX5_readAll_9 ?_
            refine lv_iload_n hx hb dX5_readAll_12 rfl (lv_at hl 0 rfl) ?_
            refine lv_iconst (v := 0) hx hb dX5_readAll_13 (by decide) ?_
            refine lz_astc hx hb hK hP hD hS 2 0 rfl rfl (lz_vp (x := 4) (n := 12) (by decide) (by decide)) dX5_readAll_14 (fun H locs hP hD hS => ?_)
            refine lv_iinc (v := 5) (lv' := [(1, .int 5), (0, .ref h0)]) hx hb dX5_readAll_15 hl (k := 0) rfl (by decide) (by decide) rfl (fun ls hl => ?_)
            refine lv_goto (tgt := 2) hx hb dX5_readAll_18 (by decide) ?_
            refine lv_iload_n hx hb dX5_readAll_2 rfl (lv_at hl 0 rfl) ?_
            refine lv_bipush (v := 12) hx hb dX5_readAll_3 (by decide) ?_
            refine lv_icmp_ge (tgt := 21) hx hb dX5_readAll_5 (by decide) (fun c3684 => ?_) (fun c3684 => ?_)
            · exact absurd c3684 (by decide)
            · refine lv_aload_n hx hb dX5_readAll_8 rfl (lv_at hl 1 rfl) ?_
              refine va_get (D := D) (ci := 5) (v := .ref h3) (C := RX5) (T := TX5) (N := 8) hx hb hts hin5 hown hK hP 0 rfl rfl 2 (by decide) (hts (.fieldLink RX5 9 "MissedPoints$Reader" "links" "[I") (by decide +kernel)) (fun _ h9 => h9) rfl dX5_readAll_9 ?_
              refine lv_iload_n hx hb dX5_readAll_12 rfl (lv_at hl 0 rfl) ?_
              refine lv_iconst (v := 0) hx hb dX5_readAll_13 (by decide) ?_
              refine lz_astc hx hb hK hP hD hS 2 0 rfl rfl (lz_vp (x := 5) (n := 12) (by decide) (by decide)) dX5_readAll_14 (fun H locs hP hD hS => ?_)
              refine lv_iinc (v := 6) (lv' := [(1, .int 6), (0, .ref h0)]) hx hb dX5_readAll_15 hl (k := 0) rfl (by decide) (by decide) rfl (fun ls hl => ?_)
              refine lv_goto (tgt := 2) hx hb dX5_readAll_18 (by decide) ?_
              refine lv_iload_n hx hb dX5_readAll_2 rfl (lv_at hl 0 rfl) ?_
              refine lv_bipush (v := 12) hx hb dX5_readAll_3 (by decide) ?_
              refine lv_icmp_ge (tgt := 21) hx hb dX5_readAll_5 (by decide) (fun c3685 => ?_) (fun c3685 => ?_)
              · exact absurd c3685 (by decide)
              · refine lv_aload_n hx hb dX5_readAll_8 rfl (lv_at hl 1 rfl) ?_
                refine va_get (D := D) (ci := 5) (v := .ref h3) (C := RX5) (T := TX5) (N := 8) hx hb hts hin5 hown hK hP 0 rfl rfl 2 (by decide) (hts (.fieldLink RX5 9 "MissedPoints$Reader" "links" "[I") (by decide +kernel)) (fun _ h9 => h9) rfl dX5_readAll_9 ?_
                refine lv_iload_n hx hb dX5_readAll_12 rfl (lv_at hl 0 rfl) ?_
                refine lv_iconst (v := 0) hx hb dX5_readAll_13 (by decide) ?_
                refine lz_astc hx hb hK hP hD hS 2 0 rfl rfl (lz_vp (x := 6) (n := 12) (by decide) (by decide)) dX5_readAll_14 (fun H locs hP hD hS => ?_)
                refine lv_iinc (v := 7) (lv' := [(1, .int 7), (0, .ref h0)]) hx hb dX5_readAll_15 hl (k := 0) rfl (by decide) (by decide) rfl (fun ls hl => ?_)
                refine lv_goto (tgt := 2) hx hb dX5_readAll_18 (by decide) ?_
                refine lv_iload_n hx hb dX5_readAll_2 rfl (lv_at hl 0 rfl) ?_
                refine lv_bipush (v := 12) hx hb dX5_readAll_3 (by decide) ?_
                refine lv_icmp_ge (tgt := 21) hx hb dX5_readAll_5 (by decide) (fun c3686 => ?_) (fun c3686 => ?_)
                · exact absurd c3686 (by decide)
                · refine lv_aload_n hx hb dX5_readAll_8 rfl (lv_at hl 1 rfl) ?_
                  refine va_get (D := D) (ci := 5) (v := .ref h3) (C := RX5) (T := TX5) (N := 8) hx hb hts hin5 hown hK hP 0 rfl rfl 2 (by decide) (hts (.fieldLink RX5 9 "MissedPoints$Reader" "links" "[I") (by decide +kernel)) (fun _ h9 => h9) rfl dX5_readAll_9 ?_
                  refine lv_iload_n hx hb dX5_readAll_12 rfl (lv_at hl 0 rfl) ?_
                  refine lv_iconst (v := 0) hx hb dX5_readAll_13 (by decide) ?_
                  refine lz_astc hx hb hK hP hD hS 2 0 rfl rfl (lz_vp (x := 7) (n := 12) (by decide) (by decide)) dX5_readAll_14 (fun H locs hP hD hS => ?_)
                  refine lv_iinc (v := 8) (lv' := [(1, .int 8), (0, .ref h0)]) hx hb dX5_readAll_15 hl (k := 0) rfl (by decide) (by decide) rfl (fun ls hl => ?_)
                  refine lv_goto (tgt := 2) hx hb dX5_readAll_18 (by decide) ?_
                  refine lv_iload_n hx hb dX5_readAll_2 rfl (lv_at hl 0 rfl) ?_
                  refine lv_bipush (v := 12) hx hb dX5_readAll_3 (by decide) ?_
                  refine lv_icmp_ge (tgt := 21) hx hb dX5_readAll_5 (by decide) (fun c3687 => ?_) (fun c3687 => ?_)
                  · exact absurd c3687 (by decide)
                  · refine lv_aload_n hx hb dX5_readAll_8 rfl (lv_at hl 1 rfl) ?_
                    refine va_get (D := D) (ci := 5) (v := .ref h3) (C := RX5) (T := TX5) (N := 8) hx hb hts hin5 hown hK hP 0 rfl rfl 2 (by decide) (hts (.fieldLink RX5 9 "MissedPoints$Reader" "links" "[I") (by decide +kernel)) (fun _ h9 => h9) rfl dX5_readAll_9 ?_
                    refine lv_iload_n hx hb dX5_readAll_12 rfl (lv_at hl 0 rfl) ?_
                    refine lv_iconst (v := 0) hx hb dX5_readAll_13 (by decide) ?_
                    refine lz_astc hx hb hK hP hD hS 2 0 rfl rfl (lz_vp (x := 8) (n := 12) (by decide) (by decide)) dX5_readAll_14 (fun H locs hP hD hS => ?_)
                    refine lv_iinc (v := 9) (lv' := [(1, .int 9), (0, .ref h0)]) hx hb dX5_readAll_15 hl (k := 0) rfl (by decide) (by decide) rfl (fun ls hl => ?_)
                    refine lv_goto (tgt := 2) hx hb dX5_readAll_18 (by decide) ?_
                    refine lv_iload_n hx hb dX5_readAll_2 rfl (lv_at hl 0 rfl) ?_
                    refine lv_bipush (v := 12) hx hb dX5_readAll_3 (by decide) ?_
                    refine lv_icmp_ge (tgt := 21) hx hb dX5_readAll_5 (by decide) (fun c3688 => ?_) (fun c3688 => ?_)
                    · exact absurd c3688 (by decide)
                    · refine lv_aload_n hx hb dX5_readAll_8 rfl (lv_at hl 1 rfl) ?_
                      refine va_get (D := D) (ci := 5) (v := .ref h3) (C := RX5) (T := TX5) (N := 8) hx hb hts hin5 hown hK hP 0 rfl rfl 2 (by decide) (hts (.fieldLink RX5 9 "MissedPoints$Reader" "links" "[I") (by decide +kernel)) (fun _ h9 => h9) rfl dX5_readAll_9 ?_
                      refine lv_iload_n hx hb dX5_readAll_12 rfl (lv_at hl 0 rfl) ?_
                      refine lv_iconst (v := 0) hx hb dX5_readAll_13 (by decide) ?_
                      refine lz_astc hx hb hK hP hD hS 2 0 rfl rfl (lz_vp (x := 9) (n := 12) (by decide) (by decide)) dX5_readAll_14 (fun H locs hP hD hS => ?_)
                      refine lv_iinc (v := 10) (lv' := [(1, .int 10), (0, .ref h0)]) hx hb dX5_readAll_15 hl (k := 0) rfl (by decide) (by decide) rfl (fun ls hl => ?_)
                      refine lv_goto (tgt := 2) hx hb dX5_readAll_18 (by decide) ?_
                      refine lv_iload_n hx hb dX5_readAll_2 rfl (lv_at hl 0 rfl) ?_
                      refine lv_bipush (v := 12) hx hb dX5_readAll_3 (by decide) ?_
                      refine lv_icmp_ge (tgt := 21) hx hb dX5_readAll_5 (by decide) (fun c3689 => ?_) (fun c3689 => ?_)
                      · exact absurd c3689 (by decide)
                      · refine lv_aload_n hx hb dX5_readAll_8 rfl (lv_at hl 1 rfl) ?_
                        refine va_get (D := D) (ci := 5) (v := .ref h3) (C := RX5) (T := TX5) (N := 8) hx hb hts hin5 hown hK hP 0 rfl rfl 2 (by decide) (hts (.fieldLink RX5 9 "MissedPoints$Reader" "links" "[I") (by decide +kernel)) (fun _ h9 => h9) rfl dX5_readAll_9 ?_
                        refine lv_iload_n hx hb dX5_readAll_12 rfl (lv_at hl 0 rfl) ?_
                        refine lv_iconst (v := 0) hx hb dX5_readAll_13 (by decide) ?_
                        refine lz_astc hx hb hK hP hD hS 2 0 rfl rfl (lz_vp (x := 10) (n := 12) (by decide) (by decide)) dX5_readAll_14 (fun H locs hP hD hS => ?_)
                        refine lv_iinc (v := 11) (lv' := [(1, .int 11), (0, .ref h0)]) hx hb dX5_readAll_15 hl (k := 0) rfl (by decide) (by decide) rfl (fun ls hl => ?_)
                        refine lv_goto (tgt := 2) hx hb dX5_readAll_18 (by decide) ?_
                        refine lv_iload_n hx hb dX5_readAll_2 rfl (lv_at hl 0 rfl) ?_
                        refine lv_bipush (v := 12) hx hb dX5_readAll_3 (by decide) ?_
                        refine lv_icmp_ge (tgt := 21) hx hb dX5_readAll_5 (by decide) (fun c3690 => ?_) (fun c3690 => ?_)
                        · exact absurd c3690 (by decide)
                        · refine lv_aload_n hx hb dX5_readAll_8 rfl (lv_at hl 1 rfl) ?_
                          refine va_get (D := D) (ci := 5) (v := .ref h3) (C := RX5) (T := TX5) (N := 8) hx hb hts hin5 hown hK hP 0 rfl rfl 2 (by decide) (hts (.fieldLink RX5 9 "MissedPoints$Reader" "links" "[I") (by decide +kernel)) (fun _ h9 => h9) rfl dX5_readAll_9 ?_
                          refine lv_iload_n hx hb dX5_readAll_12 rfl (lv_at hl 0 rfl) ?_
                          refine lv_iconst (v := 0) hx hb dX5_readAll_13 (by decide) ?_
                          refine lz_astc hx hb hK hP hD hS 2 0 rfl rfl (lz_vp (x := 11) (n := 12) (by decide) (by decide)) dX5_readAll_14 (fun H locs hP hD hS => ?_)
                          refine lv_iinc (v := 12) (lv' := [(1, .int 12), (0, .ref h0)]) hx hb dX5_readAll_15 hl (k := 0) rfl (by decide) (by decide) rfl (fun ls hl => ?_)
                          refine lv_goto (tgt := 2) hx hb dX5_readAll_18 (by decide) ?_
                          refine lv_iload_n hx hb dX5_readAll_2 rfl (lv_at hl 0 rfl) ?_
                          refine lv_bipush (v := 12) hx hb dX5_readAll_3 (by decide) ?_
                          refine lv_icmp_ge (tgt := 21) hx hb dX5_readAll_5 (by decide) (fun c3691 => ?_) (fun c3691 => ?_)
                          · refine lv_aload_n hx hb dX5_readAll_21 rfl (lv_at hl 1 rfl) ?_
                            refine lv_iconst (v := 0) hx hb dX5_readAll_22 (by decide) ?_
                            refine va_put (D := D) (ci := 5) (v := .int 0) (ty := .int) (C := RX5) (T := TX5) (N := 8) hx hb hts hin5 tyX5 tyX5_ok nmX5 hown hK hP hD hS 0 rfl rfl 3 (by decide) (hts (.fieldLink RX5 23 "MissedPoints$Reader" "at" "I") (by decide +kernel)) (fun _ h9 => h9) rfl (by decide +kernel) rfl rfl (Nat.le_of_ble_eq_true rfl) dX5_readAll_23 (fun H locs hP hD hS => ?_)
                            have hP : va_P D cls [(h0, .inr (5, [.ref h1, .ref h2, .ref h3, .int 0, .int 0, .int 0, .int 0, .int 0])), (h1, .inr (8, [.ref h4, .int 0])), (h3, .inl (cI, 12, .inl (fun _ => 0)))] H := hP
                            have hD : va_D A [(h0, .inr (5, [.ref h1, .ref h2, .ref h3, .int 0, .int 0, .int 0, .int 0, .int 0])), (h1, .inr (8, [.ref h4, .int 0])), (h3, .inl (cI, 12, .inl (fun _ => 0)))] := hD
                            refine lv_aload_n hx hb dX5_readAll_26 rfl (lv_at hl 1 rfl) ?_
                            refine lv_iconst (v := (-1)) hx hb dX5_readAll_27 (by decide) ?_
                            refine va_put (D := D) (ci := 5) (v := .int (-1)) (ty := .int) (C := RX5) (T := TX5) (N := 8) hx hb hts hin5 tyX5 tyX5_ok nmX5 hown hK hP hD hS 0 rfl rfl 7 (by decide) (hts (.fieldLink RX5 27 "MissedPoints$Reader" "fault" "I") (by decide +kernel)) (fun _ h9 => h9) rfl (by decide +kernel) rfl rfl (Nat.le_of_ble_eq_true rfl) dX5_readAll_28 (fun H locs hP hD hS => ?_)
                            have hP : va_P D cls [(h0, .inr (5, [.ref h1, .ref h2, .ref h3, .int 0, .int 0, .int 0, .int 0, .int (-1)])), (h1, .inr (8, [.ref h4, .int 0])), (h3, .inl (cI, 12, .inl (fun _ => 0)))] H := hP
                            have hD : va_D A [(h0, .inr (5, [.ref h1, .ref h2, .ref h3, .int 0, .int 0, .int 0, .int 0, .int (-1)])), (h1, .inr (8, [.ref h4, .int 0])), (h3, .inl (cI, 12, .inl (fun _ => 0)))] := hD
                            refine lv_aload_n hx hb dX5_readAll_31 rfl (lv_at hl 1 rfl) ?_
                            have hPc := hP.sub (ws' := [(h0, .inr (5, [.ref h1, .ref h2, .ref h3, .int 0, .int 0, .int 0, .int 0, .int (-1)])), (h1, .inr (8, [.ref h4, .int 0]))]) [0, 1] rfl
                            have hDc := hD.sub (ws' := [(h0, .inr (5, [.ref h1, .ref h2, .ref h3, .int 0, .int 0, .int 0, .int 0, .int (-1)])), (h1, .inr (8, [.ref h4, .int 0]))]) [0, 1] (by decide) rfl
                            refine lz_qv (wr := [(h3, .inl (cI, 12, .inl (fun _ => 0)))]) (w1 := [(h0, .inr (5, [.ref h1, .ref h2, .ref h3, .int 0, .int 0, .int (-1), .int 0, .int (-1)])), (h1, .inr (8, [.ref h4, .int 0]))]) (As := []) (rest := []) ⟨hx, hb, hml, hown, hts⟩ (c_X5_step_0 l D cI cS _ h0 h1 h2 h3 h4) hKK hP hD hS hA [0, 1] [2] (by decide) rfl rfl (by decide) (by decide) hPc hDc (ci := 5) rfl rfl (cwV 0 hts gX5_readAll_X5_step rfl rfl rfl (by decide +kernel) ⟨Nat.le_of_ble_eq_true rfl, Nat.le_of_ble_eq_true rfl⟩) rfl hl.1 rfl (Nat.le_of_ble_eq_true rfl) dX5_readAll_32 ⟨Nat.le_of_ble_eq_true rfl, Nat.le_of_ble_eq_true rfl⟩ (fun H locs hP hD hS => ?_)
                            have hP : va_P D cls [(h3, .inl (cI, 12, .inl (fun _ => 0))), (h0, .inr (5, [.ref h1, .ref h2, .ref h3, .int 0, .int 0, .int (-1), .int 0, .int (-1)])), (h1, .inr (8, [.ref h4, .int 0]))] H := hP
                            have hD : va_D A [(h3, .inl (cI, 12, .inl (fun _ => 0))), (h0, .inr (5, [.ref h1, .ref h2, .ref h3, .int 0, .int 0, .int (-1), .int 0, .int (-1)])), (h1, .inr (8, [.ref h4, .int 0]))] := hD
                            refine lv_aload_n hx hb dX5_readAll_35 rfl (lv_at hl 1 rfl) ?_
                            have hPc := hP.sub (ws' := [(h0, .inr (5, [.ref h1, .ref h2, .ref h3, .int 0, .int 0, .int (-1), .int 0, .int (-1)]))]) [1] rfl
                            have hDc := hD.sub (ws' := [(h0, .inr (5, [.ref h1, .ref h2, .ref h3, .int 0, .int 0, .int (-1), .int 0, .int (-1)]))]) [1] (by decide) rfl
                            refine lz_qv (wr := [(h3, .inl (cI, 12, .inl (fun _ => 0))), (h1, .inr (8, [.ref h4, .int 0]))]) (w1 := [(h0, .inr (5, [.ref h1, .ref h2, .ref h3, .int 0, .int 0, .int (-1), .int 0, .int 0]))]) (As := []) (rest := []) ⟨hx, hb, hml, hown, hts⟩ (c_X5_readItem_0 l D cI cS _ h0 h1 h2 h3) hKK hP hD hS hA [1] [0, 2] (by decide) rfl rfl (by decide) (by decide) hPc hDc (ci := 5) rfl rfl (cwV 0 hts gX5_readAll_X5_readItem rfl rfl rfl (by decide +kernel) ⟨Nat.le_of_ble_eq_true rfl, Nat.le_of_ble_eq_true rfl⟩) rfl hl.1 rfl (Nat.le_of_ble_eq_true rfl) dX5_readAll_36 ⟨Nat.le_of_ble_eq_true rfl, Nat.le_of_ble_eq_true rfl⟩ (fun H locs hP hD hS => ?_)
                            have hP : va_P D cls [(h3, .inl (cI, 12, .inl (fun _ => 0))), (h1, .inr (8, [.ref h4, .int 0])), (h0, .inr (5, [.ref h1, .ref h2, .ref h3, .int 0, .int 0, .int (-1), .int 0, .int 0]))] H := hP
                            have hD : va_D A [(h3, .inl (cI, 12, .inl (fun _ => 0))), (h1, .inr (8, [.ref h4, .int 0])), (h0, .inr (5, [.ref h1, .ref h2, .ref h3, .int 0, .int 0, .int (-1), .int 0, .int 0]))] := hD
                            refine lv_iconst (v := 0) hx hb dX5_readAll_39 (by decide) ?_
                            refine lv_istore_n (lv' := [(1, .int 0), (0, .ref h0)]) hx hb dX5_readAll_40 rfl hl (by decide) rfl (fun ls hl => ?_)
                            refine lv_iload_n hx hb dX5_readAll_41 rfl (lv_at hl 0 rfl) ?_
                            refine lv_bipush (v := 120) hx hb dX5_readAll_42 (by decide) ?_
                            refine lv_icmp_ge (tgt := 77) hx hb dX5_readAll_44 (by decide) (fun c3694 => ?_) (fun c3694 => ?_)
                            · exact absurd c3694 (by decide)
                            · refine lv_aload_n hx hb dX5_readAll_47 rfl (lv_at hl 1 rfl) ?_
                              refine va_get (D := D) (ci := 5) (v := .int 0) (C := RX5) (T := TX5) (N := 8) hx hb hts hin5 hown hK hP 2 rfl rfl 7 (by decide) (hts (.fieldLink RX5 27 "MissedPoints$Reader" "fault" "I") (by decide +kernel)) (fun _ h9 => h9) rfl dX5_readAll_48 ?_
                              refine lv_if_ge (tgt := 77) hx hb dX5_readAll_51 (by decide) (fun c3695 => ?_) (fun c3695 => ?_)
                              · refine lv_aload_n hx hb dX5_readAll_77 rfl (lv_at hl 1 rfl) ?_
                                refine va_get (D := D) (ci := 5) (v := .int (-1)) (C := RX5) (T := TX5) (N := 8) hx hb hts hin5 hown hK hP 2 rfl rfl 5 (by decide) (hts (.fieldLink RX5 36 "MissedPoints$Reader" "token" "I") (by decide +kernel)) (fun _ h9 => h9) rfl dX5_readAll_78 ?_
                                refine lv_iconst (v := (-1)) hx hb dX5_readAll_81 (by decide) ?_
                                refine lv_icmp_eq (tgt := 89) hx hb dX5_readAll_82 (by decide) (fun c3696 => ?_) (fun c3696 => ?_)
                                · refine lv_aload_n hx hb dX5_readAll_89 rfl (lv_at hl 1 rfl) ?_
                                  refine va_get (D := D) (ci := 5) (v := .int 0) (C := RX5) (T := TX5) (N := 8) hx hb hts hin5 hown hK hP 2 rfl rfl 7 (by decide) (hts (.fieldLink RX5 27 "MissedPoints$Reader" "fault" "I") (by decide +kernel)) (fun _ h9 => h9) rfl dX5_readAll_90 ?_
                                  have hP9 := hP.sub (ws' := [(h3, .inl (cI, 12, .inl (fun _ => 0))), (h1, .inr (8, [.ref h4, .int 0])), (h0, .inr (5, [.ref h1, .ref h2, .ref h3, .int 0, .int 0, .int (-1), .int 0, .int 0]))]) [0, 1, 2] rfl
                                  have hD9 := hD.sub (ws' := [(h3, .inl (cI, 12, .inl (fun _ => 0))), (h1, .inr (8, [.ref h4, .int 0])), (h0, .inr (5, [.ref h1, .ref h2, .ref h3, .int 0, .int 0, .int (-1), .int 0, .int 0]))]) [0, 1, 2] (by decide) rfl
                                  subst hAe
                                  exact W.iret (v := 0) hx hb hr (fun t ht hW => ⟨⟨_, (), rfl, rfl, by rw [ht]; exact hP9, hD9⟩, hS.F ht⟩) hS.2.2 dX5_readAll_93
                                · exact absurd c3696 (by decide)
                              · exact absurd c3695 (by decide)
                          · exact absurd c3691 (by decide)
