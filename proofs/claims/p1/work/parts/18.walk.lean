set_option maxRecDepth 20000 in
theorem ggX11_barriers_X10_seekBarriers : GoodIn wsX11_barriers wsX10_seekBarriers := goodIn_r _ [6, 7, 8, 9, 10, 11, 12, 13, 14, 15, 16, 17, 18, 19, 20, 21, 22, 23, 24, 25, 26, 27, 28, 29, 30, 31, 32, 33, 34, 35, 36, 37, 38, 39, 40, 41, 42, 43, 44, 45, 46, 47, 48, 49, 50, 51, 52, 53, 54, 55, 56, 57, 58, 59, 60, 61, 62, 63, 64, 65, 66, 67, 68, 69, 70, 71, 72, 73, 74, 75, 5, 76, 77, 78, 79, 80, 81, 82, 83, 84, 85, 86, 87, 88, 89, 90, 91, 92, 93, 94, 95, 96, 113, 114, 115, 116, 117, 118, 119, 120, 121, 122, 123, 124, 125, 126, 127, 128, 129] (by decide +kernel) (by decide +kernel)
set_option maxRecDepth 20000 in
theorem gX11_barriers_X10_seekBarriers : GoodIn wsX11_barriers (wsV RX11 184 RX10 yX10_seekBarriers wsX10_seekBarriers) := goodIn_app (goodIn_of _ (by decide +kernel)) ggX11_barriers_X10_seekBarriers
theorem dX11_barriers_0 : decode cX11_barriers 0 = .ok (.iload_n 1, 1) := by decide +kernel
theorem dX11_barriers_1 : decode cX11_barriers 1 = .ok (.ifCond .lt 8, 3) := by decide +kernel
theorem dX11_barriers_11 : decode cX11_barriers 11 = .ok (.ireturn, 1) := by decide +kernel
theorem dX11_barriers_12 : decode cX11_barriers 12 = .ok (.aload_n 0, 1) := by decide +kernel
theorem dX11_barriers_13 : decode cX11_barriers 13 = .ok (.getfield 37, 3) := by decide +kernel
theorem dX11_barriers_16 : decode cX11_barriers 16 = .ok (.invokevirtual 184, 3) := by decide +kernel
theorem dX11_barriers_19 : decode cX11_barriers 19 = .ok (.iload_n 1, 1) := by decide +kernel
theorem dX11_barriers_20 : decode cX11_barriers 20 = .ok (.ifCond .ne 11, 3) := by decide +kernel
theorem dX11_barriers_23 : decode cX11_barriers 23 = .ok (.aload_n 0, 1) := by decide +kernel
theorem dX11_barriers_24 : decode cX11_barriers 24 = .ok (.getfield 37, 3) := by decide +kernel
theorem dX11_barriers_27 : decode cX11_barriers 27 = .ok (.getfield 187, 3) := by decide +kernel
theorem dX11_barriers_30 : decode cX11_barriers 30 = .ok (.ireturn, 1) := by decide +kernel
theorem dX11_barriers_31 : decode cX11_barriers 31 = .ok (.iload_n 1, 1) := by decide +kernel
theorem dX11_barriers_32 : decode cX11_barriers 32 = .ok (.iconst 1, 1) := by decide +kernel
theorem dX11_barriers_33 : decode cX11_barriers 33 = .ok (.if_icmp .ne 13, 3) := by decide +kernel
theorem dX11_barriers_36 : decode cX11_barriers 36 = .ok (.aload_n 0, 1) := by decide +kernel
theorem dX11_barriers_37 : decode cX11_barriers 37 = .ok (.getfield 37, 3) := by decide +kernel
theorem dX11_barriers_4 : decode cX11_barriers 4 = .ok (.iload_n 1, 1) := by decide +kernel
theorem dX11_barriers_40 : decode cX11_barriers 40 = .ok (.getfield 190, 3) := by decide +kernel
theorem dX11_barriers_43 : decode cX11_barriers 43 = .ok (.goto 10, 3) := by decide +kernel
theorem dX11_barriers_46 : decode cX11_barriers 46 = .ok (.aload_n 0, 1) := by decide +kernel
theorem dX11_barriers_47 : decode cX11_barriers 47 = .ok (.getfield 37, 3) := by decide +kernel
theorem dX11_barriers_5 : decode cX11_barriers 5 = .ok (.iconst 2, 1) := by decide +kernel
theorem dX11_barriers_50 : decode cX11_barriers 50 = .ok (.getfield 193, 3) := by decide +kernel
theorem dX11_barriers_53 : decode cX11_barriers 53 = .ok (.ireturn, 1) := by decide +kernel
theorem dX11_barriers_6 : decode cX11_barriers 6 = .ok (.if_icmp .le 6, 3) := by decide +kernel
theorem dX11_barriers_9 : decode cX11_barriers 9 = .ok (.bipush (-2), 2) := by decide +kernel
set_option maxRecDepth 20000 in
theorem ggX10_isCritical_J6_bitCount_0f7a4 : GoodIn wsX10_isCritical wsJ6_bitCount_0f7a4 := goodIn_r _ [6, 7, 8, 9] (by decide +kernel) (by decide +kernel)
set_option maxRecDepth 20000 in
theorem gX10_isCritical_J6_bitCount_0f7a4 : GoodIn wsX10_isCritical (va_wsS RX10 40 yJ6_bitCount_0f7a4 wsJ6_bitCount_0f7a4) := goodIn_app (goodIn_of _ (by decide +kernel)) ggX10_isCritical_J6_bitCount_0f7a4
theorem dX10_isCritical_0 : decode cX10_isCritical 0 = .ok (.iload_n 1, 1) := by decide +kernel
theorem dX10_isCritical_1 : decode cX10_isCritical 1 = .ok (.invokestatic 40, 3) := by decide +kernel
theorem dX10_isCritical_11 : decode cX10_isCritical 11 = .ok (.iconst 0, 1) := by decide +kernel
theorem dX10_isCritical_12 : decode cX10_isCritical 12 = .ok (.ireturn, 1) := by decide +kernel
theorem dX10_isCritical_4 : decode cX10_isCritical 4 = .ok (.istore_n 2, 1) := by decide +kernel
theorem dX10_isCritical_5 : decode cX10_isCritical 5 = .ok (.iload_n 2, 1) := by decide +kernel
theorem dX10_isCritical_6 : decode cX10_isCritical 6 = .ok (.iconst 1, 1) := by decide +kernel
theorem dX10_isCritical_7 : decode cX10_isCritical 7 = .ok (.iand, 1) := by decide +kernel
theorem dX10_isCritical_8 : decode cX10_isCritical 8 = .ok (.ifCond .ne 5, 3) := by decide +kernel
set_option maxRecDepth 20000 in
theorem ggX11_critical_X10_isCritical : GoodIn wsX11_critical wsX10_isCritical := goodIn_r _ [17, 18, 19, 20, 21, 22, 23, 24, 25, 26, 27, 28, 29, 30, 31, 32, 33, 34, 35, 36, 37, 38, 39, 40, 41, 42, 43, 44, 45, 46, 47, 48, 49, 50, 51, 52, 53, 54, 55, 56, 57, 58, 59, 60, 61, 62, 63, 64, 84, 85, 86, 87, 88, 89, 90, 91, 81, 82, 83, 92, 93, 94, 95, 96, 97] (by decide +kernel) (by decide +kernel)
set_option maxRecDepth 20000 in
theorem gX11_critical_X10_isCritical : GoodIn wsX11_critical (wsV RX11 196 RX10 yX10_isCritical wsX10_isCritical) := goodIn_app (goodIn_of _ (by decide +kernel)) ggX11_critical_X10_isCritical
set_option maxRecDepth 20000 in
theorem ggX11_critical_X2_hasAll : GoodIn wsX11_critical wsX2_hasAll := goodIn_r _ [7, 8, 9, 10, 6, 11, 12, 81, 82, 83] (by decide +kernel) (by decide +kernel)
set_option maxRecDepth 20000 in
theorem gX11_critical_X2_hasAll : GoodIn wsX11_critical (wsV RX11 144 RX2 yX2_hasAll wsX2_hasAll) := goodIn_app (goodIn_of _ (by decide +kernel)) ggX11_critical_X2_hasAll
theorem dX11_critical_0 : decode cX11_critical 0 = .ok (.aload_n 0, 1) := by decide +kernel
theorem dX11_critical_1 : decode cX11_critical 1 = .ok (.getfield 12, 3) := by decide +kernel
theorem dX11_critical_11 : decode cX11_critical 11 = .ok (.bipush (-2), 2) := by decide +kernel
theorem dX11_critical_13 : decode cX11_critical 13 = .ok (.ireturn, 1) := by decide +kernel
theorem dX11_critical_14 : decode cX11_critical 14 = .ok (.aload_n 0, 1) := by decide +kernel
theorem dX11_critical_15 : decode cX11_critical 15 = .ok (.getfield 37, 3) := by decide +kernel
theorem dX11_critical_18 : decode cX11_critical 18 = .ok (.iload_n 1, 1) := by decide +kernel
theorem dX11_critical_19 : decode cX11_critical 19 = .ok (.invokevirtual 196, 3) := by decide +kernel
theorem dX11_critical_22 : decode cX11_critical 22 = .ok (.ifCond .eq 7, 3) := by decide +kernel
theorem dX11_critical_29 : decode cX11_critical 29 = .ok (.iconst 0, 1) := by decide +kernel
theorem dX11_critical_30 : decode cX11_critical 30 = .ok (.ireturn, 1) := by decide +kernel
theorem dX11_critical_4 : decode cX11_critical 4 = .ok (.iload_n 1, 1) := by decide +kernel
theorem dX11_critical_5 : decode cX11_critical 5 = .ok (.invokevirtual 144, 3) := by decide +kernel
theorem dX11_critical_8 : decode cX11_critical 8 = .ok (.ifCond .ne 6, 3) := by decide +kernel
set_option maxRecDepth 20000 in
theorem ggX11_ear_X10_isCritical : GoodIn wsX11_ear wsX10_isCritical := goodIn_r _ [17, 18, 19, 20, 21, 22, 23, 24, 25, 26, 27, 28, 29, 30, 31, 32, 33, 34, 35, 36, 37, 38, 39, 40, 41, 42, 43, 44, 45, 46, 47, 48, 49, 50, 51, 52, 53, 54, 55, 56, 57, 58, 59, 60, 61, 62, 63, 64, 104, 105, 106, 107, 108, 109, 110, 111, 112, 113, 114, 115, 116, 117, 118, 119, 120] (by decide +kernel) (by decide +kernel)
set_option maxRecDepth 20000 in
theorem gX11_ear_X10_isCritical : GoodIn wsX11_ear (wsV RX11 196 RX10 yX10_isCritical wsX10_isCritical) := goodIn_app (goodIn_of _ (by decide +kernel)) ggX11_ear_X10_isCritical
set_option maxRecDepth 20000 in
theorem ggX11_ear_X2_hasAll : GoodIn wsX11_ear wsX2_hasAll := goodIn_r _ [7, 8, 9, 10, 6, 11, 12, 112, 113, 114] (by decide +kernel) (by decide +kernel)
set_option maxRecDepth 20000 in
theorem gX11_ear_X2_hasAll : GoodIn wsX11_ear (wsV RX11 144 RX2 yX2_hasAll wsX2_hasAll) := goodIn_app (goodIn_of _ (by decide +kernel)) ggX11_ear_X2_hasAll
theorem dX11_ear_0 : decode cX11_ear 0 = .ok (.aload_n 0, 1) := by decide +kernel
theorem dX11_ear_1 : decode cX11_ear 1 = .ok (.getfield 12, 3) := by decide +kernel
theorem dX11_ear_11 : decode cX11_ear 11 = .ok (.bipush (-2), 2) := by decide +kernel
theorem dX11_ear_13 : decode cX11_ear 13 = .ok (.ireturn, 1) := by decide +kernel
theorem dX11_ear_14 : decode cX11_ear 14 = .ok (.aload_n 0, 1) := by decide +kernel
theorem dX11_ear_15 : decode cX11_ear 15 = .ok (.getfield 37, 3) := by decide +kernel
theorem dX11_ear_18 : decode cX11_ear 18 = .ok (.iload_n 1, 1) := by decide +kernel
theorem dX11_ear_19 : decode cX11_ear 19 = .ok (.invokevirtual 196, 3) := by decide +kernel
theorem dX11_ear_22 : decode cX11_ear 22 = .ok (.ifCond .ne 6, 3) := by decide +kernel
theorem dX11_ear_25 : decode cX11_ear 25 = .ok (.bipush (-3), 2) := by decide +kernel
theorem dX11_ear_27 : decode cX11_ear 27 = .ok (.ireturn, 1) := by decide +kernel
theorem dX11_ear_4 : decode cX11_ear 4 = .ok (.iload_n 1, 1) := by decide +kernel
theorem dX11_ear_5 : decode cX11_ear 5 = .ok (.invokevirtual 144, 3) := by decide +kernel
theorem dX11_ear_8 : decode cX11_ear 8 = .ok (.ifCond .ne 6, 3) := by decide +kernel
set_option maxRecDepth 20000 in
theorem ggX11_verdict_X2_areTwo : GoodIn wsX11_verdict wsX2_areTwo := goodIn_r _ [7, 8, 9, 10, 6, 11, 12, 95, 96, 97] (by decide +kernel) (by decide +kernel)
set_option maxRecDepth 20000 in
theorem gX11_verdict_X2_areTwo : GoodIn wsX11_verdict (wsV RX11 105 RX2 yX2_areTwo wsX2_areTwo) := goodIn_app (goodIn_of _ (by decide +kernel)) ggX11_verdict_X2_areTwo
theorem dX11_verdict_0 : decode cX11_verdict 0 = .ok (.aload_n 0, 1) := by decide +kernel
theorem dX11_verdict_1 : decode cX11_verdict 1 = .ok (.getfield 12, 3) := by decide +kernel
theorem dX11_verdict_12 : decode cX11_verdict 12 = .ok (.bipush (-2), 2) := by decide +kernel
theorem dX11_verdict_14 : decode cX11_verdict 14 = .ok (.ireturn, 1) := by decide +kernel
theorem dX11_verdict_4 : decode cX11_verdict 4 = .ok (.iload_n 1, 1) := by decide +kernel
theorem dX11_verdict_5 : decode cX11_verdict 5 = .ok (.iload_n 2, 1) := by decide +kernel
theorem dX11_verdict_6 : decode cX11_verdict 6 = .ok (.invokevirtual 105, 3) := by decide +kernel
theorem dX11_verdict_9 : decode cX11_verdict 9 = .ok (.ifCond .ne 6, 3) := by decide +kernel
theorem dX11_verdicts_0 : decode cX11_verdicts 0 = .ok (.iload_n 1, 1) := by decide +kernel
theorem dX11_verdicts_1 : decode cX11_verdicts 1 = .ok (.ifCond .lt 8, 3) := by decide +kernel
theorem dX11_verdicts_11 : decode cX11_verdicts 11 = .ok (.ireturn, 1) := by decide +kernel
theorem dX11_verdicts_12 : decode cX11_verdicts 12 = .ok (.iconst 0, 1) := by decide +kernel
theorem dX11_verdicts_13 : decode cX11_verdicts 13 = .ok (.istore_n 2, 1) := by decide +kernel
theorem dX11_verdicts_14 : decode cX11_verdicts 14 = .ok (.iconst 0, 1) := by decide +kernel
theorem dX11_verdicts_15 : decode cX11_verdicts 15 = .ok (.istore_n 3, 1) := by decide +kernel
theorem dX11_verdicts_16 : decode cX11_verdicts 16 = .ok (.iload_n 3, 1) := by decide +kernel
theorem dX11_verdicts_17 : decode cX11_verdicts 17 = .ok (.aload_n 0, 1) := by decide +kernel
theorem dX11_verdicts_18 : decode cX11_verdicts 18 = .ok (.getfield 12, 3) := by decide +kernel
theorem dX11_verdicts_21 : decode cX11_verdicts 21 = .ok (.getfield 97, 3) := by decide +kernel
theorem dX11_verdicts_24 : decode cX11_verdicts 24 = .ok (.if_icmp .ge 62, 3) := by decide +kernel
theorem dX11_verdicts_4 : decode cX11_verdicts 4 = .ok (.iload_n 1, 1) := by decide +kernel
theorem dX11_verdicts_5 : decode cX11_verdicts 5 = .ok (.iconst 2, 1) := by decide +kernel
theorem dX11_verdicts_6 : decode cX11_verdicts 6 = .ok (.if_icmp .le 6, 3) := by decide +kernel
theorem dX11_verdicts_86 : decode cX11_verdicts 86 = .ok (.iload_n 2, 1) := by decide +kernel
theorem dX11_verdicts_87 : decode cX11_verdicts 87 = .ok (.ireturn, 1) := by decide +kernel
theorem dX11_verdicts_9 : decode cX11_verdicts 9 = .ok (.bipush (-2), 2) := by decide +kernel
set_option maxRecDepth 20000 in
theorem ggX11_without_X2_hasPoint : GoodIn wsX11_without wsX2_hasPoint := goodIn_r _ [7, 8, 77, 78, 79] (by decide +kernel) (by decide +kernel)
set_option maxRecDepth 20000 in
theorem gX11_without_X2_hasPoint : GoodIn wsX11_without (wsV RX11 116 RX2 yX2_hasPoint wsX2_hasPoint) := goodIn_app (goodIn_of _ (by decide +kernel)) ggX11_without_X2_hasPoint
theorem dX11_without_0 : decode cX11_without 0 = .ok (.aload_n 0, 1) := by decide +kernel
theorem dX11_without_1 : decode cX11_without 1 = .ok (.getfield 12, 3) := by decide +kernel
theorem dX11_without_34 : decode cX11_without 34 = .ok (.bipush (-2), 2) := by decide +kernel
theorem dX11_without_36 : decode cX11_without 36 = .ok (.ireturn, 1) := by decide +kernel
theorem dX11_without_4 : decode cX11_without 4 = .ok (.iload_n 1, 1) := by decide +kernel
theorem dX11_without_5 : decode cX11_without 5 = .ok (.invokevirtual 116, 3) := by decide +kernel
theorem dX11_without_8 : decode cX11_without 8 = .ok (.ifCond .eq 26, 3) := by decide +kernel
theorem dX11_firstOrCount_0 : decode cX11_firstOrCount 0 = .ok (.iload_n 1, 1) := by decide +kernel
theorem dX11_firstOrCount_1 : decode cX11_firstOrCount 1 = .ok (.ifCond .eq 11, 3) := by decide +kernel
theorem dX11_firstOrCount_11 : decode cX11_firstOrCount 11 = .ok (.ireturn, 1) := by decide +kernel
theorem dX11_firstOrCount_111 : decode cX11_firstOrCount 111 = .ok (.iload_n 1, 1) := by decide +kernel
theorem dX11_firstOrCount_112 : decode cX11_firstOrCount 112 = .ok (.ifCond .ne 7, 3) := by decide +kernel
theorem dX11_firstOrCount_115 : decode cX11_firstOrCount 115 = .ok (.iconst (-1), 1) := by decide +kernel
theorem dX11_firstOrCount_116 : decode cX11_firstOrCount 116 = .ok (.goto 4, 3) := by decide +kernel
theorem dX11_firstOrCount_119 : decode cX11_firstOrCount 119 = .ok (.iload_n 3, 1) := by decide +kernel
theorem dX11_firstOrCount_12 : decode cX11_firstOrCount 12 = .ok (.iconst 0, 1) := by decide +kernel
theorem dX11_firstOrCount_120 : decode cX11_firstOrCount 120 = .ok (.ireturn, 1) := by decide +kernel
theorem dX11_firstOrCount_13 : decode cX11_firstOrCount 13 = .ok (.istore_n 3, 1) := by decide +kernel
theorem dX11_firstOrCount_14 : decode cX11_firstOrCount 14 = .ok (.iconst 0, 1) := by decide +kernel
theorem dX11_firstOrCount_15 : decode cX11_firstOrCount 15 = .ok (.istore 4, 2) := by decide +kernel
theorem dX11_firstOrCount_17 : decode cX11_firstOrCount 17 = .ok (.iload 4, 2) := by decide +kernel
theorem dX11_firstOrCount_19 : decode cX11_firstOrCount 19 = .ok (.aload_n 0, 1) := by decide +kernel
theorem dX11_firstOrCount_20 : decode cX11_firstOrCount 20 = .ok (.getfield 12, 3) := by decide +kernel
theorem dX11_firstOrCount_23 : decode cX11_firstOrCount 23 = .ok (.getfield 97, 3) := by decide +kernel
theorem dX11_firstOrCount_26 : decode cX11_firstOrCount 26 = .ok (.if_icmp .ge 85, 3) := by decide +kernel
theorem dX11_firstOrCount_4 : decode cX11_firstOrCount 4 = .ok (.iload_n 1, 1) := by decide +kernel
theorem dX11_firstOrCount_5 : decode cX11_firstOrCount 5 = .ok (.iconst 1, 1) := by decide +kernel
theorem dX11_firstOrCount_6 : decode cX11_firstOrCount 6 = .ok (.if_icmp .eq 6, 3) := by decide +kernel
theorem dX11_firstOrCount_9 : decode cX11_firstOrCount 9 = .ok (.bipush (-2), 2) := by decide +kernel
set_option maxRecDepth 20000 in
theorem ggX11_mends_X11_firstOrCount : GoodIn wsX11_mends wsX11_firstOrCount := goodIn_r _ [5, 6, 7, 8, 9, 10, 11, 12, 13, 14, 15, 16, 17, 18, 19, 20, 21, 22, 23, 24, 25, 26, 27, 28, 29, 30, 31, 32, 33, 34, 35, 36, 37, 38, 39, 40, 41, 42, 43, 44, 45, 46, 47, 48, 49, 50, 51, 52, 53, 54, 55, 56, 57, 58, 59, 60, 61, 62, 63, 64, 65, 66, 67, 68, 69, 70, 71, 72, 73, 74, 75, 76, 77, 78, 79, 80, 81, 82, 83, 84, 85, 86, 87, 88, 89, 90, 91, 92, 93, 94, 95, 96, 97, 98, 99, 100, 101, 102, 103, 104, 105, 106, 107, 108, 109, 110, 111] (by decide +kernel) (by decide +kernel)
set_option maxRecDepth 20000 in
theorem gX11_mends_X11_firstOrCount : GoodIn wsX11_mends (wsV RX11 211 RX11 yX11_firstOrCount wsX11_firstOrCount) := goodIn_app (goodIn_of _ (by decide +kernel)) ggX11_mends_X11_firstOrCount
theorem dX11_mends_0 : decode cX11_mends 0 = .ok (.aload_n 0, 1) := by decide +kernel
theorem dX11_mends_1 : decode cX11_mends 1 = .ok (.iload_n 1, 1) := by decide +kernel
theorem dX11_mends_2 : decode cX11_mends 2 = .ok (.iconst 1, 1) := by decide +kernel
theorem dX11_mends_3 : decode cX11_mends 3 = .ok (.invokevirtual 211, 3) := by decide +kernel
theorem dX11_mends_6 : decode cX11_mends 6 = .ok (.ireturn, 1) := by decide +kernel
set_option maxRecDepth 20000 in
theorem ggX11_breaks_X11_firstOrCount : GoodIn wsX11_breaks wsX11_firstOrCount := goodIn_r _ [5, 6, 7, 8, 9, 10, 11, 12, 13, 14, 15, 16, 17, 18, 19, 20, 21, 22, 23, 24, 25, 26, 27, 28, 29, 30, 31, 32, 33, 34, 35, 36, 37, 38, 39, 40, 41, 42, 43, 44, 45, 46, 47, 48, 49, 50, 51, 52, 53, 54, 55, 56, 57, 58, 59, 60, 61, 62, 63, 64, 65, 66, 67, 68, 69, 70, 71, 72, 73, 74, 75, 76, 77, 78, 79, 80, 81, 82, 83, 84, 85, 86, 87, 88, 89, 90, 91, 92, 93, 94, 95, 96, 97, 98, 99, 100, 101, 102, 103, 104, 105, 106, 107, 108, 109, 110, 111] (by decide +kernel) (by decide +kernel)
set_option maxRecDepth 20000 in
theorem gX11_breaks_X11_firstOrCount : GoodIn wsX11_breaks (wsV RX11 211 RX11 yX11_firstOrCount wsX11_firstOrCount) := goodIn_app (goodIn_of _ (by decide +kernel)) ggX11_breaks_X11_firstOrCount
theorem dX11_breaks_0 : decode cX11_breaks 0 = .ok (.aload_n 0, 1) := by decide +kernel
theorem dX11_breaks_1 : decode cX11_breaks 1 = .ok (.iload_n 1, 1) := by decide +kernel
theorem dX11_breaks_2 : decode cX11_breaks 2 = .ok (.iconst 0, 1) := by decide +kernel
theorem dX11_breaks_3 : decode cX11_breaks 3 = .ok (.invokevirtual 211, 3) := by decide +kernel
theorem dX11_breaks_6 : decode cX11_breaks 6 = .ok (.ireturn, 1) := by decide +kernel
theorem dX11_isSheet_0 : decode cX11_isSheet 0 = .ok (.iload_n 0, 1) := by decide +kernel
theorem dX11_isSheet_1 : decode cX11_isSheet 1 = .ok (.ifCond .lt 12, 3) := by decide +kernel
theorem dX11_isSheet_10 : decode cX11_isSheet 10 = .ok (.goto 4, 3) := by decide +kernel
theorem dX11_isSheet_13 : decode cX11_isSheet 13 = .ok (.iconst 0, 1) := by decide +kernel
theorem dX11_isSheet_14 : decode cX11_isSheet 14 = .ok (.ireturn, 1) := by decide +kernel
theorem dX11_isSheet_4 : decode cX11_isSheet 4 = .ok (.iload_n 0, 1) := by decide +kernel
theorem dX11_isSheet_5 : decode cX11_isSheet 5 = .ok (.iconst 4, 1) := by decide +kernel
theorem dX11_isSheet_6 : decode cX11_isSheet 6 = .ok (.if_icmp .ge 7, 3) := by decide +kernel
theorem dX11_isSheet_9 : decode cX11_isSheet 9 = .ok (.iconst 1, 1) := by decide +kernel
theorem dX6_isMissing_0 : decode cX6_isMissing 0 = .ok (.aload_n 0, 1) := by decide +kernel
theorem dX6_isMissing_1 : decode cX6_isMissing 1 = .ok (.getfield 15, 3) := by decide +kernel
theorem dX6_isMissing_13 : decode cX6_isMissing 13 = .ok (.ireturn, 1) := by decide +kernel
theorem dX6_isMissing_4 : decode cX6_isMissing 4 = .ok (.iconst (-1), 1) := by decide +kernel
theorem dX6_isMissing_5 : decode cX6_isMissing 5 = .ok (.if_icmp .ne 7, 3) := by decide +kernel
theorem dX6_isMissing_8 : decode cX6_isMissing 8 = .ok (.iconst 1, 1) := by decide +kernel
theorem dX6_isMissing_9 : decode cX6_isMissing 9 = .ok (.goto 4, 3) := by decide +kernel
set_option maxRecDepth 20000 in
theorem ggX11_refusalOfSheet_X11_isSheet : GoodIn wsX11_refusalOfSheet wsX11_isSheet := goodIn_r _ [5] (by decide +kernel) (by decide +kernel)
set_option maxRecDepth 20000 in
theorem gX11_refusalOfSheet_X11_isSheet : GoodIn wsX11_refusalOfSheet (va_wsS RX11 248 yX11_isSheet wsX11_isSheet) := goodIn_app (goodIn_of _ (by decide +kernel)) ggX11_refusalOfSheet_X11_isSheet
set_option maxRecDepth 20000 in
theorem ggX11_refusalOfSheet_X6_isMissing : GoodIn wsX11_refusalOfSheet wsX6_isMissing := goodIn_r _ [10, 11, 28, 29, 30] (by decide +kernel) (by decide +kernel)
set_option maxRecDepth 20000 in
theorem gX11_refusalOfSheet_X6_isMissing : GoodIn wsX11_refusalOfSheet (wsV RX11 251 RX6 yX6_isMissing wsX6_isMissing) := goodIn_app (goodIn_of _ (by decide +kernel)) ggX11_refusalOfSheet_X6_isMissing
theorem dX11_refusalOfSheet_0 : decode cX11_refusalOfSheet 0 = .ok (.iload_n 1, 1) := by decide +kernel
theorem dX11_refusalOfSheet_1 : decode cX11_refusalOfSheet 1 = .ok (.invokestatic 248, 3) := by decide +kernel
theorem dX11_refusalOfSheet_10 : decode cX11_refusalOfSheet 10 = .ok (.aload_n 0, 1) := by decide +kernel
theorem dX11_refusalOfSheet_11 : decode cX11_refusalOfSheet 11 = .ok (.getfield 75, 3) := by decide +kernel
theorem dX11_refusalOfSheet_14 : decode cX11_refusalOfSheet 14 = .ok (.iload_n 1, 1) := by decide +kernel
theorem dX11_refusalOfSheet_15 : decode cX11_refusalOfSheet 15 = .ok (.aaload, 1) := by decide +kernel
theorem dX11_refusalOfSheet_16 : decode cX11_refusalOfSheet 16 = .ok (.invokevirtual 251, 3) := by decide +kernel
theorem dX11_refusalOfSheet_19 : decode cX11_refusalOfSheet 19 = .ok (.ifCond .eq 8, 3) := by decide +kernel
theorem dX11_refusalOfSheet_22 : decode cX11_refusalOfSheet 22 = .ok (.bipush (-11), 2) := by decide +kernel
theorem dX11_refusalOfSheet_24 : decode cX11_refusalOfSheet 24 = .ok (.goto 4, 3) := by decide +kernel
theorem dX11_refusalOfSheet_28 : decode cX11_refusalOfSheet 28 = .ok (.ireturn, 1) := by decide +kernel
theorem dX11_refusalOfSheet_4 : decode cX11_refusalOfSheet 4 = .ok (.ifCond .ne 6, 3) := by decide +kernel
theorem dX11_refusalOfSheet_7 : decode cX11_refusalOfSheet 7 = .ok (.bipush (-2), 2) := by decide +kernel
theorem dX11_refusalOfSheet_9 : decode cX11_refusalOfSheet 9 = .ok (.ireturn, 1) := by decide +kernel
set_option maxRecDepth 20000 in
theorem ggX11_isTold_X11_refusalOfSheet : GoodIn wsX11_isTold wsX11_refusalOfSheet := goodIn_r _ [7, 2, 8, 9, 6, 10, 11, 12, 13, 14, 15, 16, 49, 50, 51, 52, 53, 54, 55, 56, 57, 58, 59, 60, 61, 62, 63, 64, 65, 66, 67] (by decide +kernel) (by decide +kernel)
set_option maxRecDepth 20000 in
theorem gX11_isTold_X11_refusalOfSheet : GoodIn wsX11_isTold (wsV RX11 218 RX11 yX11_refusalOfSheet wsX11_refusalOfSheet) := goodIn_app (goodIn_of _ (by decide +kernel)) ggX11_isTold_X11_refusalOfSheet
theorem dX11_isTold_0 : decode cX11_isTold 0 = .ok (.aload_n 0, 1) := by decide +kernel
theorem dX11_isTold_1 : decode cX11_isTold 1 = .ok (.iload_n 1, 1) := by decide +kernel
theorem dX11_isTold_10 : decode cX11_isTold 10 = .ok (.iload_n 2, 1) := by decide +kernel
theorem dX11_isTold_11 : decode cX11_isTold 11 = .ok (.ireturn, 1) := by decide +kernel
theorem dX11_isTold_2 : decode cX11_isTold 2 = .ok (.invokevirtual 218, 3) := by decide +kernel
theorem dX11_isTold_5 : decode cX11_isTold 5 = .ok (.istore_n 2, 1) := by decide +kernel
theorem dX11_isTold_6 : decode cX11_isTold 6 = .ok (.iload_n 2, 1) := by decide +kernel
theorem dX11_isTold_7 : decode cX11_isTold 7 = .ok (.ifCond .eq 5, 3) := by decide +kernel
set_option maxRecDepth 20000 in
theorem ggX11_refusalOfTold_X11_refusalOfSheet : GoodIn wsX11_refusalOfTold wsX11_refusalOfSheet := goodIn_r _ [7, 2, 8, 9, 6, 10, 11, 12, 13, 14, 15, 16, 49, 50, 51, 52, 53, 54, 55, 56, 57, 58, 59, 60, 61, 62, 63, 64, 65, 66, 67] (by decide +kernel) (by decide +kernel)
set_option maxRecDepth 20000 in
theorem gX11_refusalOfTold_X11_refusalOfSheet : GoodIn wsX11_refusalOfTold (wsV RX11 218 RX11 yX11_refusalOfSheet wsX11_refusalOfSheet) := goodIn_app (goodIn_of _ (by decide +kernel)) ggX11_refusalOfTold_X11_refusalOfSheet
theorem dX11_refusalOfTold_0 : decode cX11_refusalOfTold 0 = .ok (.aload_n 0, 1) := by decide +kernel
theorem dX11_refusalOfTold_1 : decode cX11_refusalOfTold 1 = .ok (.iload_n 1, 1) := by decide +kernel
theorem dX11_refusalOfTold_10 : decode cX11_refusalOfTold 10 = .ok (.iload_n 2, 1) := by decide +kernel
theorem dX11_refusalOfTold_11 : decode cX11_refusalOfTold 11 = .ok (.ireturn, 1) := by decide +kernel
theorem dX11_refusalOfTold_2 : decode cX11_refusalOfTold 2 = .ok (.invokevirtual 218, 3) := by decide +kernel
theorem dX11_refusalOfTold_5 : decode cX11_refusalOfTold 5 = .ok (.istore_n 2, 1) := by decide +kernel
theorem dX11_refusalOfTold_6 : decode cX11_refusalOfTold 6 = .ok (.iload_n 2, 1) := by decide +kernel
theorem dX11_refusalOfTold_7 : decode cX11_refusalOfTold 7 = .ok (.ifCond .eq 5, 3) := by decide +kernel
set_option maxRecDepth 20000 in
theorem ggX11_misses_X11_refusalOfTold : GoodIn wsX11_misses wsX11_refusalOfTold := goodIn_r _ [6, 1, 7, 8, 9, 10, 5, 11, 12, 13, 14, 15, 16, 17, 18, 19, 20, 21, 22, 23, 24, 25, 26, 27, 28, 29, 30, 31, 32, 33, 34, 35, 36, 37, 38, 39, 40, 41, 42, 43, 44, 45, 46, 47, 48, 49, 50, 51, 52, 57, 58, 59, 60, 61, 62, 63, 64, 65, 66, 67, 68, 69, 70, 71, 72, 73, 74, 75, 76, 77, 78, 79, 80, 81, 82, 83, 84] (by decide +kernel) (by decide +kernel)
set_option maxRecDepth 20000 in
theorem gX11_misses_X11_refusalOfTold : GoodIn wsX11_misses (wsV RX11 225 RX11 yX11_refusalOfTold wsX11_refusalOfTold) := goodIn_app (goodIn_of _ (by decide +kernel)) ggX11_misses_X11_refusalOfTold
theorem dX11_misses_0 : decode cX11_misses 0 = .ok (.aload_n 0, 1) := by decide +kernel
theorem dX11_misses_1 : decode cX11_misses 1 = .ok (.iload_n 1, 1) := by decide +kernel
theorem dX11_misses_10 : decode cX11_misses 10 = .ok (.iload_n 2, 1) := by decide +kernel
theorem dX11_misses_11 : decode cX11_misses 11 = .ok (.goto 10, 3) := by decide +kernel
theorem dX11_misses_2 : decode cX11_misses 2 = .ok (.invokevirtual 225, 3) := by decide +kernel
theorem dX11_misses_21 : decode cX11_misses 21 = .ok (.ireturn, 1) := by decide +kernel
theorem dX11_misses_5 : decode cX11_misses 5 = .ok (.istore_n 2, 1) := by decide +kernel
theorem dX11_misses_6 : decode cX11_misses 6 = .ok (.iload_n 2, 1) := by decide +kernel
theorem dX11_misses_7 : decode cX11_misses 7 = .ok (.ifCond .eq 7, 3) := by decide +kernel
set_option maxRecDepth 20000 in
theorem ggX11_way_X11_refusalOfTold : GoodIn wsX11_way wsX11_refusalOfTold := goodIn_r _ [6, 1, 7, 8, 9, 10, 5, 11, 12, 13, 14, 15, 16, 17, 18, 19, 20, 21, 22, 23, 24, 25, 26, 27, 28, 29, 30, 31, 32, 33, 34, 35, 36, 37, 38, 39, 40, 41, 42, 43, 44, 45, 46, 47, 48, 49, 50, 51, 52, 133, 134, 135, 136, 137, 138, 139, 140, 141, 142, 143, 144, 145, 146, 147, 148, 149, 150, 151, 152, 153, 154, 155, 156, 157, 158, 159, 160] (by decide +kernel) (by decide +kernel)
set_option maxRecDepth 20000 in
theorem gX11_way_X11_refusalOfTold : GoodIn wsX11_way (wsV RX11 225 RX11 yX11_refusalOfTold wsX11_refusalOfTold) := goodIn_app (goodIn_of _ (by decide +kernel)) ggX11_way_X11_refusalOfTold
theorem dX11_way_0 : decode cX11_way 0 = .ok (.aload_n 0, 1) := by decide +kernel
theorem dX11_way_1 : decode cX11_way 1 = .ok (.iload_n 1, 1) := by decide +kernel
theorem dX11_way_10 : decode cX11_way 10 = .ok (.iload_n 3, 1) := by decide +kernel
theorem dX11_way_11 : decode cX11_way 11 = .ok (.ireturn, 1) := by decide +kernel
theorem dX11_way_2 : decode cX11_way 2 = .ok (.invokevirtual 225, 3) := by decide +kernel
theorem dX11_way_5 : decode cX11_way 5 = .ok (.istore_n 3, 1) := by decide +kernel
theorem dX11_way_6 : decode cX11_way 6 = .ok (.iload_n 3, 1) := by decide +kernel
theorem dX11_way_7 : decode cX11_way 7 = .ok (.ifCond .eq 5, 3) := by decide +kernel
set_option maxRecDepth 20000 in
theorem ggX11_grow_X11_refusalOfTold : GoodIn wsX11_grow wsX11_refusalOfTold := goodIn_r _ [7, 1, 2, 8, 9, 10, 6, 11, 12, 13, 14, 15, 16, 17, 18, 19, 20, 21, 22, 23, 24, 25, 26, 27, 28, 29, 30, 31, 32, 33, 34, 35, 36, 37, 38, 39, 40, 41, 42, 43, 44, 45, 46, 47, 48, 49, 50, 51, 52, 154, 155, 156, 157, 158, 159, 160, 161, 162, 163, 164, 165, 166, 167, 168, 169, 170, 171, 172, 173, 174, 175, 176, 177, 178, 179, 180, 181] (by decide +kernel) (by decide +kernel)
set_option maxRecDepth 20000 in
theorem gX11_grow_X11_refusalOfTold : GoodIn wsX11_grow (wsV RX11 225 RX11 yX11_refusalOfTold wsX11_refusalOfTold) := goodIn_app (goodIn_of _ (by decide +kernel)) ggX11_grow_X11_refusalOfTold
theorem dX11_grow_0 : decode cX11_grow 0 = .ok (.aload_n 0, 1) := by decide +kernel
theorem dX11_grow_1 : decode cX11_grow 1 = .ok (.iload_n 1, 1) := by decide +kernel
theorem dX11_grow_10 : decode cX11_grow 10 = .ok (.iload_n 2, 1) := by decide +kernel
theorem dX11_grow_11 : decode cX11_grow 11 = .ok (.ireturn, 1) := by decide +kernel
theorem dX11_grow_2 : decode cX11_grow 2 = .ok (.invokevirtual 225, 3) := by decide +kernel
theorem dX11_grow_5 : decode cX11_grow 5 = .ok (.istore_n 2, 1) := by decide +kernel
theorem dX11_grow_6 : decode cX11_grow 6 = .ok (.iload_n 2, 1) := by decide +kernel
theorem dX11_grow_7 : decode cX11_grow 7 = .ok (.ifCond .eq 5, 3) := by decide +kernel
set_option maxRecDepth 20000 in
theorem ggX11_chains_X11_isSheet : GoodIn wsX11_chains wsX11_isSheet := goodIn_r _ [7] (by decide +kernel) (by decide +kernel)
set_option maxRecDepth 20000 in
theorem gX11_chains_X11_isSheet : GoodIn wsX11_chains (va_wsS RX11 248 yX11_isSheet wsX11_isSheet) := goodIn_app (goodIn_of _ (by decide +kernel)) ggX11_chains_X11_isSheet
set_option maxRecDepth 20000 in
theorem ggX11_chains_X6_isMissing : GoodIn wsX11_chains wsX6_isMissing := goodIn_r _ [12, 13, 99, 100, 101] (by decide +kernel) (by decide +kernel)
set_option maxRecDepth 20000 in
theorem gX11_chains_X6_isMissing : GoodIn wsX11_chains (wsV RX11 251 RX6 yX6_isMissing wsX6_isMissing) := goodIn_app (goodIn_of _ (by decide +kernel)) ggX11_chains_X6_isMissing
theorem dX11_chains_0 : decode cX11_chains 0 = .ok (.iload_n 1, 1) := by decide +kernel
theorem dX11_chains_1 : decode cX11_chains 1 = .ok (.invokestatic 248, 3) := by decide +kernel
theorem dX11_chains_11 : decode cX11_chains 11 = .ok (.ifCond .eq 12, 3) := by decide +kernel
theorem dX11_chains_14 : decode cX11_chains 14 = .ok (.iload_n 3, 1) := by decide +kernel
theorem dX11_chains_15 : decode cX11_chains 15 = .ok (.ifCond .lt 8, 3) := by decide +kernel
theorem dX11_chains_18 : decode cX11_chains 18 = .ok (.iload_n 3, 1) := by decide +kernel
theorem dX11_chains_19 : decode cX11_chains 19 = .ok (.iconst 2, 1) := by decide +kernel
theorem dX11_chains_20 : decode cX11_chains 20 = .ok (.if_icmp .le 6, 3) := by decide +kernel
theorem dX11_chains_23 : decode cX11_chains 23 = .ok (.bipush (-2), 2) := by decide +kernel
theorem dX11_chains_25 : decode cX11_chains 25 = .ok (.ireturn, 1) := by decide +kernel
theorem dX11_chains_26 : decode cX11_chains 26 = .ok (.aload_n 0, 1) := by decide +kernel
theorem dX11_chains_27 : decode cX11_chains 27 = .ok (.getfield 75, 3) := by decide +kernel
theorem dX11_chains_30 : decode cX11_chains 30 = .ok (.iload_n 1, 1) := by decide +kernel
theorem dX11_chains_31 : decode cX11_chains 31 = .ok (.aaload, 1) := by decide +kernel
theorem dX11_chains_32 : decode cX11_chains 32 = .ok (.invokevirtual 251, 3) := by decide +kernel
theorem dX11_chains_35 : decode cX11_chains 35 = .ok (.ifCond .ne 15, 3) := by decide +kernel
theorem dX11_chains_4 : decode cX11_chains 4 = .ok (.ifCond .eq 19, 3) := by decide +kernel
theorem dX11_chains_50 : decode cX11_chains 50 = .ok (.bipush (-11), 2) := by decide +kernel
theorem dX11_chains_52 : decode cX11_chains 52 = .ok (.ireturn, 1) := by decide +kernel
theorem dX11_chains_7 : decode cX11_chains 7 = .ok (.iload_n 2, 1) := by decide +kernel
theorem dX11_chains_8 : decode cX11_chains 8 = .ok (.invokestatic 248, 3) := by decide +kernel
theorem dX11_isSort_0 : decode cX11_isSort 0 = .ok (.iload_n 0, 1) := by decide +kernel
theorem dX11_isSort_1 : decode cX11_isSort 1 = .ok (.ifCond .eq 8, 3) := by decide +kernel
theorem dX11_isSort_10 : decode cX11_isSort 10 = .ok (.goto 4, 3) := by decide +kernel
theorem dX11_isSort_13 : decode cX11_isSort 13 = .ok (.iconst 0, 1) := by decide +kernel
theorem dX11_isSort_14 : decode cX11_isSort 14 = .ok (.ireturn, 1) := by decide +kernel
theorem dX11_isSort_4 : decode cX11_isSort 4 = .ok (.iload_n 0, 1) := by decide +kernel
theorem dX11_isSort_5 : decode cX11_isSort 5 = .ok (.iconst 1, 1) := by decide +kernel
theorem dX11_isSort_6 : decode cX11_isSort 6 = .ok (.if_icmp .ne 7, 3) := by decide +kernel
theorem dX11_isSort_9 : decode cX11_isSort 9 = .ok (.iconst 1, 1) := by decide +kernel
set_option maxRecDepth 20000 in
theorem ggX3_layFirst_X2_all : GoodIn wsX3_layFirst wsX2_all := goodIn_r _ [6, 7, 68, 69, 70] (by decide +kernel) (by decide +kernel)
set_option maxRecDepth 20000 in
theorem gX3_layFirst_X2_all : GoodIn wsX3_layFirst (wsV RX3 77 RX2 yX2_all wsX2_all) := goodIn_app (goodIn_of _ (by decide +kernel)) ggX3_layFirst_X2_all
theorem dX3_layFirst_0 : decode cX3_layFirst 0 = .ok (.aload_n 0, 1) := by decide +kernel
theorem dX3_layFirst_1 : decode cX3_layFirst 1 = .ok (.getfield 23, 3) := by decide +kernel
theorem dX3_layFirst_10 : decode cX3_layFirst 10 = .ok (.iload_n 3, 1) := by decide +kernel
theorem dX3_layFirst_11 : decode cX3_layFirst 11 = .ok (.aload_n 1, 1) := by decide +kernel
theorem dX3_layFirst_110 : decode cX3_layFirst 110 = .ok (.return_, 1) := by decide +kernel
theorem dX3_layFirst_12 : decode cX3_layFirst 12 = .ok (.arraylength, 1) := by decide +kernel
theorem dX3_layFirst_13 : decode cX3_layFirst 13 = .ok (.if_icmp .ge 13, 3) := by decide +kernel
theorem dX3_layFirst_16 : decode cX3_layFirst 16 = .ok (.aload_n 1, 1) := by decide +kernel
theorem dX3_layFirst_17 : decode cX3_layFirst 17 = .ok (.iload_n 3, 1) := by decide +kernel
theorem dX3_layFirst_18 : decode cX3_layFirst 18 = .ok (.iconst (-1), 1) := by decide +kernel
theorem dX3_layFirst_19 : decode cX3_layFirst 19 = .ok (.iastore, 1) := by decide +kernel
theorem dX3_layFirst_20 : decode cX3_layFirst 20 = .ok (.iinc 3 1, 3) := by decide +kernel
theorem dX3_layFirst_23 : decode cX3_layFirst 23 = .ok (.goto (-13), 3) := by decide +kernel
theorem dX3_layFirst_26 : decode cX3_layFirst 26 = .ok (.iconst 0, 1) := by decide +kernel
theorem dX3_layFirst_27 : decode cX3_layFirst 27 = .ok (.istore_n 3, 1) := by decide +kernel
theorem dX3_layFirst_28 : decode cX3_layFirst 28 = .ok (.iload_n 3, 1) := by decide +kernel
theorem dX3_layFirst_29 : decode cX3_layFirst 29 = .ok (.aload_n 0, 1) := by decide +kernel
theorem dX3_layFirst_30 : decode cX3_layFirst 30 = .ok (.getfield 23, 3) := by decide +kernel
theorem dX3_layFirst_33 : decode cX3_layFirst 33 = .ok (.getfield 81, 3) := by decide +kernel
theorem dX3_layFirst_36 : decode cX3_layFirst 36 = .ok (.if_icmp .ge 74, 3) := by decide +kernel
theorem dX3_layFirst_4 : decode cX3_layFirst 4 = .ok (.invokevirtual 77, 3) := by decide +kernel
theorem dX3_layFirst_7 : decode cX3_layFirst 7 = .ok (.istore_n 2, 1) := by decide +kernel
theorem dX3_layFirst_8 : decode cX3_layFirst 8 = .ok (.iconst 0, 1) := by decide +kernel
theorem dX3_layFirst_9 : decode cX3_layFirst 9 = .ok (.istore_n 3, 1) := by decide +kernel
set_option maxRecDepth 20000 in
theorem ggX9_becomeFirst_X3_layFirst : GoodIn wsX9_becomeFirst wsX3_layFirst := goodIn_r _ [7, 8, 9, 10, 11, 12, 13, 14, 15, 16, 17, 6, 18, 19, 20, 21, 22, 23, 24, 25, 26, 27, 28, 29, 30, 31, 32, 33, 34, 35, 36, 37, 38, 39, 40, 41, 42, 43, 44, 45, 46, 47, 48, 49, 50, 51, 52, 53, 54, 55, 56, 57, 58, 59, 60, 61, 62, 63, 64, 65, 66, 67, 68, 69, 76, 77, 78, 79, 80, 81, 82, 83, 84] (by decide +kernel) (by decide +kernel)
set_option maxRecDepth 20000 in
theorem gX9_becomeFirst_X3_layFirst : GoodIn wsX9_becomeFirst (wsV RX9 29 RX3 yX3_layFirst wsX3_layFirst) := goodIn_app (goodIn_of _ (by decide +kernel)) ggX9_becomeFirst_X3_layFirst
theorem dX9_becomeFirst_0 : decode cX9_becomeFirst 0 = .ok (.aload_n 0, 1) := by decide +kernel
theorem dX9_becomeFirst_1 : decode cX9_becomeFirst 1 = .ok (.getfield 25, 3) := by decide +kernel
theorem dX9_becomeFirst_11 : decode cX9_becomeFirst 11 = .ok (.return_, 1) := by decide +kernel
theorem dX9_becomeFirst_4 : decode cX9_becomeFirst 4 = .ok (.aload_n 0, 1) := by decide +kernel
theorem dX9_becomeFirst_5 : decode cX9_becomeFirst 5 = .ok (.getfield 9, 3) := by decide +kernel
theorem dX9_becomeFirst_8 : decode cX9_becomeFirst 8 = .ok (.invokevirtual 29, 3) := by decide +kernel
theorem dX6_become_0 : decode cX6_become 0 = .ok (.aload_n 0, 1) := by decide +kernel
theorem dX6_become_1 : decode cX6_become 1 = .ok (.iload_n 1, 1) := by decide +kernel
theorem dX6_become_10 : decode cX6_become 10 = .ok (.invokestatic 19, 3) := by decide +kernel
theorem dX6_become_13 : decode cX6_become 13 = .ok (.invokestatic 25, 3) := by decide +kernel
theorem dX6_become_16 : decode cX6_become 16 = .ok (.putfield 28, 3) := by decide +kernel
theorem dX6_become_19 : decode cX6_become 19 = .ok (.iconst 0, 1) := by decide +kernel
theorem dX6_become_2 : decode cX6_become 2 = .ok (.putfield 15, 3) := by decide +kernel
theorem dX6_become_20 : decode cX6_become 20 = .ok (.istore_n 3, 1) := by decide +kernel
theorem dX6_become_21 : decode cX6_become 21 = .ok (.iload_n 3, 1) := by decide +kernel
theorem dX6_become_22 : decode cX6_become 22 = .ok (.bipush 40, 2) := by decide +kernel
theorem dX6_become_24 : decode cX6_become 24 = .ok (.if_icmp .ge 16, 3) := by decide +kernel
theorem dX6_become_27 : decode cX6_become 27 = .ok (.aload_n 0, 1) := by decide +kernel
theorem dX6_become_28 : decode cX6_become 28 = .ok (.getfield 9, 3) := by decide +kernel
theorem dX6_become_31 : decode cX6_become 31 = .ok (.iload_n 3, 1) := by decide +kernel
theorem dX6_become_32 : decode cX6_become 32 = .ok (.iconst 0, 1) := by decide +kernel
theorem dX6_become_33 : decode cX6_become 33 = .ok (.iastore, 1) := by decide +kernel
theorem dX6_become_34 : decode cX6_become 34 = .ok (.iinc 3 1, 3) := by decide +kernel
theorem dX6_become_37 : decode cX6_become 37 = .ok (.goto (-16), 3) := by decide +kernel
theorem dX6_become_40 : decode cX6_become 40 = .ok (.return_, 1) := by decide +kernel
theorem dX6_become_5 : decode cX6_become 5 = .ok (.aload_n 0, 1) := by decide +kernel
theorem dX6_become_6 : decode cX6_become 6 = .ok (.iconst 0, 1) := by decide +kernel
theorem dX6_become_7 : decode cX6_become 7 = .ok (.iload_n 2, 1) := by decide +kernel
theorem dX6_become_8 : decode cX6_become 8 = .ok (.bipush 40, 2) := by decide +kernel
set_option maxRecDepth 20000 in
theorem ggX9_writeTo_X6_become : GoodIn wsX9_writeTo wsX6_become := goodIn_r _ [7, 8, 9, 10, 11, 12, 13, 14, 15, 16, 17, 35, 36, 37] (by decide +kernel) (by decide +kernel)
set_option maxRecDepth 20000 in
theorem gX9_writeTo_X6_become : GoodIn wsX9_writeTo (wsV RX9 52 RX6 yX6_become wsX6_become) := goodIn_app (goodIn_of _ (by decide +kernel)) ggX9_writeTo_X6_become
theorem dX9_writeTo_0 : decode cX9_writeTo 0 = .ok (.aload_n 1, 1) := by decide +kernel
theorem dX9_writeTo_1 : decode cX9_writeTo 1 = .ok (.iload_n 2, 1) := by decide +kernel
theorem dX9_writeTo_12 : decode cX9_writeTo 12 = .ok (.iconst 0, 1) := by decide +kernel
theorem dX9_writeTo_13 : decode cX9_writeTo 13 = .ok (.istore_n 3, 1) := by decide +kernel
theorem dX9_writeTo_14 : decode cX9_writeTo 14 = .ok (.iload_n 3, 1) := by decide +kernel
theorem dX9_writeTo_15 : decode cX9_writeTo 15 = .ok (.aload_n 0, 1) := by decide +kernel
theorem dX9_writeTo_16 : decode cX9_writeTo 16 = .ok (.getfield 21, 3) := by decide +kernel
theorem dX9_writeTo_19 : decode cX9_writeTo 19 = .ok (.getfield 41, 3) := by decide +kernel
theorem dX9_writeTo_2 : decode cX9_writeTo 2 = .ok (.aload_n 0, 1) := by decide +kernel
theorem dX9_writeTo_22 : decode cX9_writeTo 22 = .ok (.if_icmp .ge 20, 3) := by decide +kernel
theorem dX9_writeTo_3 : decode cX9_writeTo 3 = .ok (.getfield 21, 3) := by decide +kernel
theorem dX9_writeTo_42 : decode cX9_writeTo 42 = .ok (.return_, 1) := by decide +kernel
theorem dX9_writeTo_6 : decode cX9_writeTo 6 = .ok (.getfield 41, 3) := by decide +kernel
theorem dX9_writeTo_9 : decode cX9_writeTo 9 = .ok (.invokevirtual 52, 3) := by decide +kernel
set_option maxHeartbeats 4000000 in
set_option maxRecDepth 100000 in
theorem c_X11_barriers_0 (l : Launch) (D : va_G) (cI cS : ClassId) (sz : Nat) (h0 h1 h2 h3 h4 h5 h6 h7 h8 h9 h10 h11 h12 h13 h14 h15 h16 h17 h18 : Nat) (x0 : Int32) : Met l yX11_barriers wsX11_barriers ({ frames := 5, cells := 0, slots := 0, locals := 200 }) (PQ D cI cS [(h0, .inr (11, [.ref h1, .ref h2, .ref h3, .ref h4, .ref h5, .ref h6, .ref h7, .int 0, .int 0, .ref h8, .ref h9, .ref h10, .ref h11, .ref h12, .ref h13, .ref h14])), (h1, .inr (2, [.ref h15, .int 0, .int 0])), (h2, .inr (3, [.ref h1, .ref h16, .ref h17, .int 0])), (h4, .inr (10, [.ref h1, .ref h2, .ref h18, .int 0, .int 0, .int 0, .int 0, .int (-1)]))] sz [.ref h0, .int x0]) (QI D [(h0, .inr (11, [.ref h1, .ref h2, .ref h3, .ref h4, .ref h5, .ref h6, .ref h7, .int 0, .int 0, .ref h8, .ref h9, .ref h10, .ref h11, .ref h12, .ref h13, .ref h14])), (h1, .inr (2, [.ref h15, .int 0, .int 0])), (h2, .inr (3, [.ref h1, .ref h16, .ref h17, .int 0])), (h4, .inr (10, [.ref h1, .ref h2, .ref h18, .int 0, .int 0, .int 0, .int 0, .int (-1)]))] [] sz (fun r => r = if x0 < 0 then ((-2) : Int32) else (if x0 ≤ 2 then (if x0 = 0 then (1 : Int32) else (0 : Int32)) else ((-2) : Int32)))) 0 0 (va_A [(h0, .inr (11, [.ref h1, .ref h2, .ref h3, .ref h4, .ref h5, .ref h6, .ref h7, .int 0, .int 0, .ref h8, .ref h9, .ref h10, .ref h11, .ref h12, .ref h13, .ref h14])), (h1, .inr (2, [.ref h15, .int 0, .int 0])), (h2, .inr (3, [.ref h1, .ref h16, .ref h17, .int 0])), (h4, .inr (10, [.ref h1, .ref h2, .ref h18, .int 0, .int 0, .int 0, .int 0, .int (-1)]))] sz) := by
  refine Met.ofW (cc := cX11_barriers) (maxL := 2) (ret := (some .int)) (by decide) rfl ?_
  intro p e s m args below meth c s₁ B hml hv
  obtain ⟨rfl, hsz, hP, hKK, hD0⟩ := hv
  have hx := B.exec
  have hb := B.bytes
  have hr := B.returns
  have hts := atoms_spec (ws := wsX11_barriers) B.pre
  have hown : s.vm.findClass RX11 = some m.cls := findClass_of_methodNamed B.named
  have hlocks := B.notSynchronized
  have hK := hKK.1
  have hN := hKK.2
  have hin10 : ∀ w ∈ wsX100, w ∈ wsX11_barriers := by decide +kernel
  have hin11 : ∀ w ∈ wsX110, w ∈ wsX11_barriers := by decide +kernel
  subst hsz
  have hD := hD0.self (sz := s.heap.size)
  obtain ⟨A, hAe⟩ : ∃ A, A = va_A [(h0, .inr (11, [.ref h1, .ref h2, .ref h3, .ref h4, .ref h5, .ref h6, .ref h7, .int 0, .int 0, .ref h8, .ref h9, .ref h10, .ref h11, .ref h12, .ref h13, .ref h14])), (h1, .inr (2, [.ref h15, .int 0, .int 0])), (h2, .inr (3, [.ref h1, .ref h16, .ref h17, .int 0])), (h4, .inr (10, [.ref h1, .ref h2, .ref h18, .int 0, .int 0, .int 0, .int 0, .int (-1)]))] s.heap.size := ⟨_, rfl⟩
  rw [← hAe] at hD
  have hA : ∀ q : Nat, s.heap.size ≤ q → A q := fun q h => by rw [hAe]; exact Or.inr h
  have hS : va_S A s.heap s.heap [] := va_S.rf
  have hl := lv_entry ([.ref h0, .int x0]) (n := 2) (Nat.le_of_ble_eq_true rfl)
  rw [lg_entry_eq]
  generalize (lg_sl ([.ref h0, .int x0]) ++ List.replicate (2 - (lg_sl ([.ref h0, .int x0])).length) Slot.unset).toArray = ls at hl ⊢
  have hl : lv_has ls 2 [(0, .ref h0), (1, .int x0)] := hl
  refine lv_iload_n hx hb dX11_barriers_0 rfl (lv_at hl 1 rfl) ?_
  refine lv_if_lt (tgt := 9) hx hb dX11_barriers_1 (by decide) (fun c3064 => ?_) (fun c3064 => ?_)
  · refine lv_bipush (v := (-2)) hx hb dX11_barriers_9 (by decide) ?_
    have hP9 := hP.sub (ws' := []) [] rfl
    have hD9 := hD.sub (ws' := []) [] (by decide) rfl
    subst hAe
    exact W.iret (v := (-2)) hx hb hr (fun t ht hW => ⟨⟨_, (), rfl, by rw [if_pos c3064], by rw [ht]; exact hP9, hD9⟩, hS.F ht⟩) hS.2.2 dX11_barriers_11
  · refine lv_iload_n hx hb dX11_barriers_4 rfl (lv_at hl 1 rfl) ?_
    refine lv_iconst (v := 2) hx hb dX11_barriers_5 (by decide) ?_
    refine lv_icmp_le (tgt := 12) hx hb dX11_barriers_6 (by decide) (fun c3065 => ?_) (fun c3065 => ?_)
    · refine lv_aload_n hx hb dX11_barriers_12 rfl (lv_at hl 0 rfl) ?_
      refine va_get (D := D) (ci := 11) (v := .ref h4) (C := RX11) (T := TX11) (N := 16) hx hb hts hin11 hown hK hP 0 rfl rfl 3 (by decide) (hts (.fieldLink RX11 37 "MissedPoints" "witness" "LMissedPoints$Witness;") (by decide +kernel)) (fun _ h9 => h9) rfl dX11_barriers_13 ?_
      have hPc := hP.sub (ws' := [(h4, .inr (10, [.ref h1, .ref h2, .ref h18, .int 0, .int 0, .int 0, .int 0, .int (-1)])), (h1, .inr (2, [.ref h15, .int 0, .int 0])), (h2, .inr (3, [.ref h1, .ref h16, .ref h17, .int 0]))]) [3, 1, 2] rfl
      have hDc := hD.sub (ws' := [(h4, .inr (10, [.ref h1, .ref h2, .ref h18, .int 0, .int 0, .int 0, .int 0, .int (-1)])), (h1, .inr (2, [.ref h15, .int 0, .int 0])), (h2, .inr (3, [.ref h1, .ref h16, .ref h17, .int 0]))]) [3, 1, 2] (by decide) rfl
      refine lz_qv (wr := [(h0, .inr (11, [.ref h1, .ref h2, .ref h3, .ref h4, .ref h5, .ref h6, .ref h7, .int 0, .int 0, .ref h8, .ref h9, .ref h10, .ref h11, .ref h12, .ref h13, .ref h14]))]) (w1 := [(h1, .inr (2, [.ref h15, .int 0, .int 0])), (h2, .inr (3, [.ref h1, .ref h16, .ref h17, .int 0])), (h4, .inr (10, [.ref h1, .ref h2, .ref h18, .int 0, .int 1, .int 0, .int 0, .int 0]))]) (As := []) (rest := []) ⟨hx, hb, hml, hown, hts⟩ (c_X10_seekBarriers_0 l D cI cS _ h4 h1 h2 h18 h15 h16 h17) hKK hP hD hS hA [3, 1, 2] [0] (by decide) rfl rfl (by decide) (by decide) hPc hDc (ci := 10) rfl rfl (cwV 0 hts gX11_barriers_X10_seekBarriers rfl rfl rfl (by decide +kernel) ⟨Nat.le_of_ble_eq_true rfl, Nat.le_of_ble_eq_true rfl⟩) rfl hl.1 rfl (Nat.le_of_ble_eq_true rfl) dX11_barriers_16 ⟨Nat.le_of_ble_eq_true rfl, Nat.le_of_ble_eq_true rfl⟩ (fun H locs hP hD hS => ?_)
      have hP : va_P D cls [(h0, .inr (11, [.ref h1, .ref h2, .ref h3, .ref h4, .ref h5, .ref h6, .ref h7, .int 0, .int 0, .ref h8, .ref h9, .ref h10, .ref h11, .ref h12, .ref h13, .ref h14])), (h1, .inr (2, [.ref h15, .int 0, .int 0])), (h2, .inr (3, [.ref h1, .ref h16, .ref h17, .int 0])), (h4, .inr (10, [.ref h1, .ref h2, .ref h18, .int 0, .int 1, .int 0, .int 0, .int 0]))] H := hP
      have hD : va_D A [(h0, .inr (11, [.ref h1, .ref h2, .ref h3, .ref h4, .ref h5, .ref h6, .ref h7, .int 0, .int 0, .ref h8, .ref h9, .ref h10, .ref h11, .ref h12, .ref h13, .ref h14])), (h1, .inr (2, [.ref h15, .int 0, .int 0])), (h2, .inr (3, [.ref h1, .ref h16, .ref h17, .int 0])), (h4, .inr (10, [.ref h1, .ref h2, .ref h18, .int 0, .int 1, .int 0, .int 0, .int 0]))] := hD
      refine lv_iload_n hx hb dX11_barriers_19 rfl (lv_at hl 1 rfl) ?_
      refine lv_if_ne (tgt := 31) hx hb dX11_barriers_20 (by decide) (fun c3067 => ?_) (fun c3067 => ?_)
      · refine lv_iload_n hx hb dX11_barriers_31 rfl (lv_at hl 1 rfl) ?_
        refine lv_iconst (v := 1) hx hb dX11_barriers_32 (by decide) ?_
        refine lv_icmp_ne (tgt := 46) hx hb dX11_barriers_33 (by decide) (fun c3068 => ?_) (fun c3068 => ?_)
        · refine lv_aload_n hx hb dX11_barriers_46 rfl (lv_at hl 0 rfl) ?_
          refine va_get (D := D) (ci := 11) (v := .ref h4) (C := RX11) (T := TX11) (N := 16) hx hb hts hin11 hown hK hP 0 rfl rfl 3 (by decide) (hts (.fieldLink RX11 37 "MissedPoints" "witness" "LMissedPoints$Witness;") (by decide +kernel)) (fun _ h9 => h9) rfl dX11_barriers_47 ?_
          refine va_getN (D := D) (ci := 10) (v := .int 0) (C := RX10) (T := TX10) (N := 8) hx hb hts hin10 hown hK hP 3 rfl rfl 6 (by decide) (va_Nw.use rfl hN.2.2.2.2.1) (fun _ h9 => h9) rfl dX11_barriers_50 ?_
          have hP9 := hP.sub (ws' := []) [] rfl
          have hD9 := hD.sub (ws' := []) [] (by decide) rfl
          subst hAe
          exact W.iret (v := 0) hx hb hr (fun t ht hW => ⟨⟨_, (), rfl, by rw [if_neg c3064, if_pos c3065, if_neg c3067], by rw [ht]; exact hP9, hD9⟩, hS.F ht⟩) hS.2.2 dX11_barriers_53
        · subst c3068
          refine lv_aload_n hx hb dX11_barriers_36 rfl (lv_at hl 0 rfl) ?_
          refine va_get (D := D) (ci := 11) (v := .ref h4) (C := RX11) (T := TX11) (N := 16) hx hb hts hin11 hown hK hP 0 rfl rfl 3 (by decide) (hts (.fieldLink RX11 37 "MissedPoints" "witness" "LMissedPoints$Witness;") (by decide +kernel)) (fun _ h9 => h9) rfl dX11_barriers_37 ?_
          refine va_getN (D := D) (ci := 10) (v := .int 0) (C := RX10) (T := TX10) (N := 8) hx hb hts hin10 hown hK hP 3 rfl rfl 5 (by decide) (va_Nw.use rfl hN.2.2.2.1) (fun _ h9 => h9) rfl dX11_barriers_40 ?_
          refine lv_goto (tgt := 53) hx hb dX11_barriers_43 (by decide) ?_
          have hP9 := hP.sub (ws' := []) [] rfl
          have hD9 := hD.sub (ws' := []) [] (by decide) rfl
          subst hAe
          exact W.iret (v := 0) hx hb hr (fun t ht hW => ⟨⟨_, (), rfl, by rw [if_neg c3064, if_pos c3065, if_neg c3067], by rw [ht]; exact hP9, hD9⟩, hS.F ht⟩) hS.2.2 dX11_barriers_53
      · subst c3067
        refine lv_aload_n hx hb dX11_barriers_23 rfl (lv_at hl 0 rfl) ?_
        refine va_get (D := D) (ci := 11) (v := .ref h4) (C := RX11) (T := TX11) (N := 16) hx hb hts hin11 hown hK hP 0 rfl rfl 3 (by decide) (hts (.fieldLink RX11 37 "MissedPoints" "witness" "LMissedPoints$Witness;") (by decide +kernel)) (fun _ h9 => h9) rfl dX11_barriers_24 ?_
        refine va_getN (D := D) (ci := 10) (v := .int 1) (C := RX10) (T := TX10) (N := 8) hx hb hts hin10 hown hK hP 3 rfl rfl 4 (by decide) (va_Nw.use rfl hN.2.2.1) (fun _ h9 => h9) rfl dX11_barriers_27 ?_
        have hP9 := hP.sub (ws' := []) [] rfl
        have hD9 := hD.sub (ws' := []) [] (by decide) rfl
        subst hAe
        exact W.iret (v := 1) hx hb hr (fun t ht hW => ⟨⟨_, (), rfl, by rw [if_neg c3064, if_pos c3065, if_pos rfl], by rw [ht]; exact hP9, hD9⟩, hS.F ht⟩) hS.2.2 dX11_barriers_30
    · refine lv_bipush (v := (-2)) hx hb dX11_barriers_9 (by decide) ?_
      have hP9 := hP.sub (ws' := []) [] rfl
      have hD9 := hD.sub (ws' := []) [] (by decide) rfl
      subst hAe
      exact W.iret (v := (-2)) hx hb hr (fun t ht hW => ⟨⟨_, (), rfl, by rw [if_neg c3064, if_neg c3065], by rw [ht]; exact hP9, hD9⟩, hS.F ht⟩) hS.2.2 dX11_barriers_11
set_option maxHeartbeats 4000000 in
set_option maxRecDepth 100000 in
theorem c_X10_isCritical_0 (l : Launch) (D : va_G) (cI cS : ClassId) (h0 h1 h2 h3 : Nat) : Met l yX10_isCritical wsX10_isCritical ({ frames := 1, cells := 0, slots := 0, locals := 40 }) (PS D cI cS [(h0, .inr (10, [.ref h1, .ref h2, .ref h3, .int 0, .int 0, .int 0, .int 0, .int (-1)]))] [.ref h0, .int 0]) (vp_Si (fun r => r = (0 : Int32))) 0 0 (fun _ => False) := by
  refine Met.ofW (cc := cX10_isCritical) (maxL := 4) (ret := (some .boolean)) (by decide) rfl ?_
  intro p e s m args below meth c s₁ B hml hv
  obtain ⟨rfl, hP, hKK⟩ := hv
  have hx := B.exec
  have hb := B.bytes
  have hr := B.returns
  have hts := atoms_spec (ws := wsX10_isCritical) B.pre
  have hown : s.vm.findClass RX10 = some m.cls := findClass_of_methodNamed B.named
  have hlocks := B.notSynchronized
  have hK := hKK.1
  have hN := hKK.2
  have hl := lv_entry ([.ref h0, .int 0]) (n := 4) (Nat.le_of_ble_eq_true rfl)
  rw [lg_entry_eq]
  generalize (lg_sl ([.ref h0, .int 0]) ++ List.replicate (4 - (lg_sl ([.ref h0, .int 0])).length) Slot.unset).toArray = ls at hl ⊢
  have hl : lv_has ls 4 [(0, .ref h0), (1, .int 0)] := hl
  refine lv_iload_n hx hb dX10_isCritical_0 rfl (lv_at hl 1 rfl) ?_
  have hPc := hP.sub (ws' := []) [] rfl
  refine lz_ss (As := [.int 0]) (rest := []) ⟨hx, hb, hml, hown, hts⟩ (c_J6_bitCount_0f7a4_0 l D cI cS) hKK hPc (va_cwS 1 hts gX10_isCritical_J6_bitCount_0f7a4 rfl rfl rfl (by decide +kernel) ⟨Nat.le_of_ble_eq_true rfl, Nat.le_of_ble_eq_true rfl⟩) rfl hl.1 rfl (Nat.le_of_ble_eq_true rfl) dX10_isCritical_1 ⟨Nat.le_of_ble_eq_true rfl, Nat.le_of_ble_eq_true rfl⟩ (fun r3074 hw => ?_)
  subst hw
  refine lv_istore_n (lv' := [(2, .int 0), (0, .ref h0), (1, .int 0)]) hx hb dX10_isCritical_4 rfl hl (by decide) rfl (fun ls hl => ?_)
  refine lv_iload_n hx hb dX10_isCritical_5 rfl (lv_at hl 0 rfl) ?_
  refine lv_iconst (v := 1) hx hb dX10_isCritical_6 (by decide) ?_
  refine lv_iand hx hb dX10_isCritical_7 ?_
  refine lz_top (y := 0) (by decide) ?_
  refine lv_if_ne (tgt := 13) hx hb dX10_isCritical_8 (by decide) (fun c3075 => ?_) (fun c3075 => ?_)
  · exact absurd c3075 (by decide)
  · refine lv_iconst (v := 0) hx hb dX10_isCritical_11 (by decide) ?_
    exact W.zret (v := 0) hx hb hr (by decide) (fun t ht hW => ⟨_, rfl, rfl, ht⟩) (fun q hq => absurd hq List.not_mem_nil) dX10_isCritical_12
set_option maxHeartbeats 4000000 in
set_option maxRecDepth 100000 in
theorem c_X11_critical_0 (l : Launch) (D : va_G) (cI cS : ClassId) (h0 h1 h2 h3 h4 h5 h6 h7 h8 h9 h10 h11 h12 h13 h14 h15 h18 : Nat) (x0 : Int32) : Met l yX11_critical wsX11_critical ({ frames := 2, cells := 0, slots := 0, locals := 80 }) (PS D cI cS [(h0, .inr (11, [.ref h1, .ref h2, .ref h3, .ref h4, .ref h5, .ref h6, .ref h7, .int 0, .int 0, .ref h8, .ref h9, .ref h10, .ref h11, .ref h12, .ref h13, .ref h14])), (h1, .inr (2, [.ref h15, .int 0, .int 0])), (h4, .inr (10, [.ref h1, .ref h2, .ref h18, .int 0, .int 0, .int 0, .int 0, .int (-1)]))] [.ref h0, .int x0]) (vp_Si (fun r => r = if x0 = 0 then (0 : Int32) else ((-2) : Int32))) 0 0 (fun _ => False) := by
  refine Met.ofW (cc := cX11_critical) (maxL := 2) (ret := (some .int)) (by decide) rfl ?_
  intro p e s m args below meth c s₁ B hml hv
  obtain ⟨rfl, hP, hKK⟩ := hv
  have hx := B.exec
  have hb := B.bytes
  have hr := B.returns
  have hts := atoms_spec (ws := wsX11_critical) B.pre
  have hown : s.vm.findClass RX11 = some m.cls := findClass_of_methodNamed B.named
  have hlocks := B.notSynchronized
  have hK := hKK.1
  have hN := hKK.2
  have hin11 : ∀ w ∈ wsX110, w ∈ wsX11_critical := by decide +kernel
  have hl := lv_entry ([.ref h0, .int x0]) (n := 2) (Nat.le_of_ble_eq_true rfl)
  rw [lg_entry_eq]
  generalize (lg_sl ([.ref h0, .int x0]) ++ List.replicate (2 - (lg_sl ([.ref h0, .int x0])).length) Slot.unset).toArray = ls at hl ⊢
  have hl : lv_has ls 2 [(0, .ref h0), (1, .int x0)] := hl
  refine lv_aload_n hx hb dX11_critical_0 rfl (lv_at hl 0 rfl) ?_
  refine va_get (D := D) (ci := 11) (v := .ref h1) (C := RX11) (T := TX11) (N := 16) hx hb hts hin11 hown hK hP 0 rfl rfl 0 (by decide) (hts (.fieldLink RX11 12 "MissedPoints" "net" "LMissedPoints$Net;") (by decide +kernel)) (fun _ h9 => h9) rfl dX11_critical_1 ?_
  refine lv_iload_n hx hb dX11_critical_4 rfl (lv_at hl 1 rfl) ?_
  have hPc := hP.sub (ws' := [(h1, .inr (2, [.ref h15, .int 0, .int 0]))]) [1] rfl
  refine lz_sv (As := [.int x0]) (rest := []) ⟨hx, hb, hml, hown, hts⟩ (c_X2_hasAll_0 l D cI cS h1 h15 x0) hKK hPc (ci := 2) rfl rfl (cwV 1 hts gX11_critical_X2_hasAll rfl rfl rfl (by decide +kernel) ⟨Nat.le_of_ble_eq_true rfl, Nat.le_of_ble_eq_true rfl⟩) rfl hl.1 rfl (Nat.le_of_ble_eq_true rfl) dX11_critical_5 ⟨Nat.le_of_ble_eq_true rfl, Nat.le_of_ble_eq_true rfl⟩ (fun r3079 hw => ?_)
  by_cases k3080 : x0 = 0
  · rw [if_pos k3080] at hw
    subst k3080
    subst hw
    refine lv_if_ne (tgt := 14) hx hb dX11_critical_8 (by decide) (fun c3081 => ?_) (fun c3081 => ?_)
    · refine lv_aload_n hx hb dX11_critical_14 rfl (lv_at hl 0 rfl) ?_
      refine va_get (D := D) (ci := 11) (v := .ref h4) (C := RX11) (T := TX11) (N := 16) hx hb hts hin11 hown hK hP 0 rfl rfl 3 (by decide) (hts (.fieldLink RX11 37 "MissedPoints" "witness" "LMissedPoints$Witness;") (by decide +kernel)) (fun _ h9 => h9) rfl dX11_critical_15 ?_
      refine lv_iload_n hx hb dX11_critical_18 rfl (lv_at hl 1 rfl) ?_
      have hPc := hP.sub (ws' := [(h4, .inr (10, [.ref h1, .ref h2, .ref h18, .int 0, .int 0, .int 0, .int 0, .int (-1)]))]) [2] rfl
      refine lz_sv (As := [.int 0]) (rest := []) ⟨hx, hb, hml, hown, hts⟩ (c_X10_isCritical_0 l D cI cS h4 h1 h2 h18) hKK hPc (ci := 10) rfl rfl (cwV 1 hts gX11_critical_X10_isCritical rfl rfl rfl (by decide +kernel) ⟨Nat.le_of_ble_eq_true rfl, Nat.le_of_ble_eq_true rfl⟩) rfl hl.1 rfl (Nat.le_of_ble_eq_true rfl) dX11_critical_19 ⟨Nat.le_of_ble_eq_true rfl, Nat.le_of_ble_eq_true rfl⟩ (fun r3082 hw => ?_)
      subst hw
      refine lv_if_eq (tgt := 29) hx hb dX11_critical_22 (by decide) (fun c3083 => ?_) (fun c3083 => ?_)
      · refine lv_iconst (v := 0) hx hb dX11_critical_29 (by decide) ?_
        exact W.iret (v := 0) hx hb hr (fun t ht hW => ⟨_, rfl, by rw [if_pos rfl], ht⟩) (fun q hq => absurd hq List.not_mem_nil) dX11_critical_30
      · exact absurd c3083 (by decide)
    · exact absurd c3081 (by decide)
  · rw [if_neg k3080] at hw
    subst hw
    refine lv_if_ne (tgt := 14) hx hb dX11_critical_8 (by decide) (fun c3084 => ?_) (fun c3084 => ?_)
    · exact absurd c3084 (by decide)
    · refine lv_bipush (v := (-2)) hx hb dX11_critical_11 (by decide) ?_
      exact W.iret (v := (-2)) hx hb hr (fun t ht hW => ⟨_, rfl, by rw [if_neg k3080], ht⟩) (fun q hq => absurd hq List.not_mem_nil) dX11_critical_13
set_option maxHeartbeats 4000000 in
set_option maxRecDepth 100000 in
theorem c_X11_ear_0 (l : Launch) (D : va_G) (cI cS : ClassId) (h0 h1 h2 h3 h4 h5 h6 h7 h8 h9 h10 h11 h12 h13 h14 h15 h18 : Nat) (x0 x1 : Int32) : Met l yX11_ear wsX11_ear ({ frames := 2, cells := 0, slots := 0, locals := 80 }) (PS D cI cS [(h0, .inr (11, [.ref h1, .ref h2, .ref h3, .ref h4, .ref h5, .ref h6, .ref h7, .int 0, .int 0, .ref h8, .ref h9, .ref h10, .ref h11, .ref h12, .ref h13, .ref h14])), (h1, .inr (2, [.ref h15, .int 0, .int 0])), (h4, .inr (10, [.ref h1, .ref h2, .ref h18, .int 0, .int 0, .int 0, .int 0, .int (-1)]))] [.ref h0, .int x0, .int x1]) (vp_Si (fun r => r = if x0 = 0 then ((-3) : Int32) else ((-2) : Int32))) 0 0 (fun _ => False) := by
  refine Met.ofW (cc := cX11_ear) (maxL := 3) (ret := (some .int)) (by decide) rfl ?_
  intro p e s m args below meth c s₁ B hml hv
  obtain ⟨rfl, hP, hKK⟩ := hv
  have hx := B.exec
  have hb := B.bytes
  have hr := B.returns
  have hts := atoms_spec (ws := wsX11_ear) B.pre
  have hown : s.vm.findClass RX11 = some m.cls := findClass_of_methodNamed B.named
  have hlocks := B.notSynchronized
  have hK := hKK.1
  have hN := hKK.2
  have hin11 : ∀ w ∈ wsX110, w ∈ wsX11_ear := by decide +kernel
  have hl := lv_entry ([.ref h0, .int x0, .int x1]) (n := 3) (Nat.le_of_ble_eq_true rfl)
  rw [lg_entry_eq]
  generalize (lg_sl ([.ref h0, .int x0, .int x1]) ++ List.replicate (3 - (lg_sl ([.ref h0, .int x0, .int x1])).length) Slot.unset).toArray = ls at hl ⊢
  have hl : lv_has ls 3 [(0, .ref h0), (1, .int x0), (2, .int x1)] := hl
  refine lv_aload_n hx hb dX11_ear_0 rfl (lv_at hl 0 rfl) ?_
  refine va_get (D := D) (ci := 11) (v := .ref h1) (C := RX11) (T := TX11) (N := 16) hx hb hts hin11 hown hK hP 0 rfl rfl 0 (by decide) (hts (.fieldLink RX11 12 "MissedPoints" "net" "LMissedPoints$Net;") (by decide +kernel)) (fun _ h9 => h9) rfl dX11_ear_1 ?_
  refine lv_iload_n hx hb dX11_ear_4 rfl (lv_at hl 1 rfl) ?_
  have hPc := hP.sub (ws' := [(h1, .inr (2, [.ref h15, .int 0, .int 0]))]) [1] rfl
  refine lz_sv (As := [.int x0]) (rest := []) ⟨hx, hb, hml, hown, hts⟩ (c_X2_hasAll_0 l D cI cS h1 h15 x0) hKK hPc (ci := 2) rfl rfl (cwV 1 hts gX11_ear_X2_hasAll rfl rfl rfl (by decide +kernel) ⟨Nat.le_of_ble_eq_true rfl, Nat.le_of_ble_eq_true rfl⟩) rfl hl.1 rfl (Nat.le_of_ble_eq_true rfl) dX11_ear_5 ⟨Nat.le_of_ble_eq_true rfl, Nat.le_of_ble_eq_true rfl⟩ (fun r3091 hw => ?_)
  by_cases k3092 : x0 = 0
  · rw [if_pos k3092] at hw
    subst k3092
    subst hw
    refine lv_if_ne (tgt := 14) hx hb dX11_ear_8 (by decide) (fun c3093 => ?_) (fun c3093 => ?_)
    · refine lv_aload_n hx hb dX11_ear_14 rfl (lv_at hl 0 rfl) ?_
      refine va_get (D := D) (ci := 11) (v := .ref h4) (C := RX11) (T := TX11) (N := 16) hx hb hts hin11 hown hK hP 0 rfl rfl 3 (by decide) (hts (.fieldLink RX11 37 "MissedPoints" "witness" "LMissedPoints$Witness;") (by decide +kernel)) (fun _ h9 => h9) rfl dX11_ear_15 ?_
      refine lv_iload_n hx hb dX11_ear_18 rfl (lv_at hl 1 rfl) ?_
      have hPc := hP.sub (ws' := [(h4, .inr (10, [.ref h1, .ref h2, .ref h18, .int 0, .int 0, .int 0, .int 0, .int (-1)]))]) [2] rfl
      refine lz_sv (As := [.int 0]) (rest := []) ⟨hx, hb, hml, hown, hts⟩ (c_X10_isCritical_0 l D cI cS h4 h1 h2 h18) hKK hPc (ci := 10) rfl rfl (cwV 1 hts gX11_ear_X10_isCritical rfl rfl rfl (by decide +kernel) ⟨Nat.le_of_ble_eq_true rfl, Nat.le_of_ble_eq_true rfl⟩) rfl hl.1 rfl (Nat.le_of_ble_eq_true rfl) dX11_ear_19 ⟨Nat.le_of_ble_eq_true rfl, Nat.le_of_ble_eq_true rfl⟩ (fun r3094 hw => ?_)
      subst hw
      refine lv_if_ne (tgt := 28) hx hb dX11_ear_22 (by decide) (fun c3095 => ?_) (fun c3095 => ?_)
      · exact absurd c3095 (by decide)
      · refine lv_bipush (v := (-3)) hx hb dX11_ear_25 (by decide) ?_
        exact W.iret (v := (-3)) hx hb hr (fun t ht hW => ⟨_, rfl, by rw [if_pos rfl], ht⟩) (fun q hq => absurd hq List.not_mem_nil) dX11_ear_27
    · exact absurd c3093 (by decide)
  · rw [if_neg k3092] at hw
    subst hw
    refine lv_if_ne (tgt := 14) hx hb dX11_ear_8 (by decide) (fun c3096 => ?_) (fun c3096 => ?_)
    · exact absurd c3096 (by decide)
    · refine lv_bipush (v := (-2)) hx hb dX11_ear_11 (by decide) ?_
      exact W.iret (v := (-2)) hx hb hr (fun t ht hW => ⟨_, rfl, by rw [if_neg k3092], ht⟩) (fun q hq => absurd hq List.not_mem_nil) dX11_ear_13
set_option maxHeartbeats 4000000 in
set_option maxRecDepth 100000 in
theorem c_X11_verdict_0 (l : Launch) (D : va_G) (cI cS : ClassId) (h0 h1 h2 h3 h4 h5 h6 h7 h8 h9 h10 h11 h12 h13 h14 h15 : Nat) (x0 x1 : Int32) : Met l yX11_verdict wsX11_verdict ({ frames := 2, cells := 0, slots := 0, locals := 80 }) (PS D cI cS [(h0, .inr (11, [.ref h1, .ref h2, .ref h3, .ref h4, .ref h5, .ref h6, .ref h7, .int 0, .int 0, .ref h8, .ref h9, .ref h10, .ref h11, .ref h12, .ref h13, .ref h14])), (h1, .inr (2, [.ref h15, .int 0, .int 0]))] [.ref h0, .int x0, .int x1]) (vp_Si (fun r => r = ((-2) : Int32))) 0 0 (fun _ => False) := by
  refine Met.ofW (cc := cX11_verdict) (maxL := 3) (ret := (some .int)) (by decide) rfl ?_
  intro p e s m args below meth c s₁ B hml hv
  obtain ⟨rfl, hP, hKK⟩ := hv
  have hx := B.exec
  have hb := B.bytes
  have hr := B.returns
  have hts := atoms_spec (ws := wsX11_verdict) B.pre
  have hown : s.vm.findClass RX11 = some m.cls := findClass_of_methodNamed B.named
  have hlocks := B.notSynchronized
  have hK := hKK.1
  have hN := hKK.2
  have hin11 : ∀ w ∈ wsX110, w ∈ wsX11_verdict := by decide +kernel
  have hl := lv_entry ([.ref h0, .int x0, .int x1]) (n := 3) (Nat.le_of_ble_eq_true rfl)
  rw [lg_entry_eq]
  generalize (lg_sl ([.ref h0, .int x0, .int x1]) ++ List.replicate (3 - (lg_sl ([.ref h0, .int x0, .int x1])).length) Slot.unset).toArray = ls at hl ⊢
  have hl : lv_has ls 3 [(0, .ref h0), (1, .int x0), (2, .int x1)] := hl
  refine lv_aload_n hx hb dX11_verdict_0 rfl (lv_at hl 0 rfl) ?_
  refine va_get (D := D) (ci := 11) (v := .ref h1) (C := RX11) (T := TX11) (N := 16) hx hb hts hin11 hown hK hP 0 rfl rfl 0 (by decide) (hts (.fieldLink RX11 12 "MissedPoints" "net" "LMissedPoints$Net;") (by decide +kernel)) (fun _ h9 => h9) rfl dX11_verdict_1 ?_
  refine lv_iload_n hx hb dX11_verdict_4 rfl (lv_at hl 1 rfl) ?_
  refine lv_iload_n hx hb dX11_verdict_5 rfl (lv_at hl 2 rfl) ?_
  have hPc := hP.sub (ws' := [(h1, .inr (2, [.ref h15, .int 0, .int 0]))]) [1] rfl
  refine lz_sv (As := [.int x0, .int x1]) (rest := []) ⟨hx, hb, hml, hown, hts⟩ (c_X2_areTwo_0 l D cI cS h1 h15 x0 x1) hKK hPc (ci := 2) rfl rfl (cwV 2 hts gX11_verdict_X2_areTwo rfl rfl rfl (by decide +kernel) ⟨Nat.le_of_ble_eq_true rfl, Nat.le_of_ble_eq_true rfl⟩) rfl hl.1 rfl (Nat.le_of_ble_eq_true rfl) dX11_verdict_6 ⟨Nat.le_of_ble_eq_true rfl, Nat.le_of_ble_eq_true rfl⟩ (fun r3099 hw => ?_)
  subst hw
  refine lv_if_ne (tgt := 15) hx hb dX11_verdict_9 (by decide) (fun c3100 => ?_) (fun c3100 => ?_)
  · exact absurd c3100 (by decide)
  · refine lv_bipush (v := (-2)) hx hb dX11_verdict_12 (by decide) ?_
    exact W.iret (v := (-2)) hx hb hr (fun t ht hW => ⟨_, rfl, rfl, ht⟩) (fun q hq => absurd hq List.not_mem_nil) dX11_verdict_14
set_option maxHeartbeats 4000000 in
set_option maxRecDepth 100000 in
theorem c_X11_verdicts_0 (l : Launch) (D : va_G) (cI cS : ClassId) (h0 h1 h2 h3 h4 h5 h6 h7 h8 h9 h10 h11 h12 h13 h14 h15 : Nat) (x0 : Int32) : Met l yX11_verdicts wsX11_verdicts ({ frames := 0, cells := 0, slots := 0, locals := 0 }) (PS D cI cS [(h0, .inr (11, [.ref h1, .ref h2, .ref h3, .ref h4, .ref h5, .ref h6, .ref h7, .int 0, .int 0, .ref h8, .ref h9, .ref h10, .ref h11, .ref h12, .ref h13, .ref h14])), (h1, .inr (2, [.ref h15, .int 0, .int 0]))] [.ref h0, .int x0]) (vp_Si (fun r => r = if x0 < 0 then ((-2) : Int32) else (if x0 ≤ 2 then (0 : Int32) else ((-2) : Int32)))) 0 0 (fun _ => False) := by
  refine Met.ofW (cc := cX11_verdicts) (maxL := 5) (ret := (some .int)) (by decide) rfl ?_
  intro p e s m args below meth c s₁ B hml hv
  obtain ⟨rfl, hP, hKK⟩ := hv
  have hx := B.exec
  have hb := B.bytes
  have hr := B.returns
  have hts := atoms_spec (ws := wsX11_verdicts) B.pre
  have hown : s.vm.findClass RX11 = some m.cls := findClass_of_methodNamed B.named
  have hlocks := B.notSynchronized
  have hK := hKK.1
  have hN := hKK.2
  have hin2 : ∀ w ∈ wsX20, w ∈ wsX11_verdicts := by decide +kernel
  have hin11 : ∀ w ∈ wsX110, w ∈ wsX11_verdicts := by decide +kernel
  have hl := lv_entry ([.ref h0, .int x0]) (n := 5) (Nat.le_of_ble_eq_true rfl)
  rw [lg_entry_eq]
  generalize (lg_sl ([.ref h0, .int x0]) ++ List.replicate (5 - (lg_sl ([.ref h0, .int x0])).length) Slot.unset).toArray = ls at hl ⊢
  have hl : lv_has ls 5 [(0, .ref h0), (1, .int x0)] := hl
  refine lv_iload_n hx hb dX11_verdicts_0 rfl (lv_at hl 1 rfl) ?_
  refine lv_if_lt (tgt := 9) hx hb dX11_verdicts_1 (by decide) (fun c3104 => ?_) (fun c3104 => ?_)
  · refine lv_bipush (v := (-2)) hx hb dX11_verdicts_9 (by decide) ?_
    exact W.iret (v := (-2)) hx hb hr (fun t ht hW => ⟨_, rfl, by rw [if_pos c3104], ht⟩) (fun q hq => absurd hq List.not_mem_nil) dX11_verdicts_11
  · refine lv_iload_n hx hb dX11_verdicts_4 rfl (lv_at hl 1 rfl) ?_
    refine lv_iconst (v := 2) hx hb dX11_verdicts_5 (by decide) ?_
    refine lv_icmp_le (tgt := 12) hx hb dX11_verdicts_6 (by decide) (fun c3105 => ?_) (fun c3105 => ?_)
    · refine lv_iconst (v := 0) hx hb dX11_verdicts_12 (by decide) ?_
      refine lv_istore_n (lv' := [(2, .int 0), (0, .ref h0), (1, .int x0)]) hx hb dX11_verdicts_13 rfl hl (by decide) rfl (fun ls hl => ?_)
      refine lv_iconst (v := 0) hx hb dX11_verdicts_14 (by decide) ?_
      refine lv_istore_n (lv' := [(3, .int 0), (2, .int 0), (0, .ref h0), (1, .int x0)]) hx hb dX11_verdicts_15 rfl hl (by decide) rfl (fun ls hl => ?_)
      refine lv_iload_n hx hb dX11_verdicts_16 rfl (lv_at hl 0 rfl) ?_
      refine lv_aload_n hx hb dX11_verdicts_17 rfl (lv_at hl 2 rfl) ?_
      refine va_get (D := D) (ci := 11) (v := .ref h1) (C := RX11) (T := TX11) (N := 16) hx hb hts hin11 hown hK hP 0 rfl rfl 0 (by decide) (hts (.fieldLink RX11 12 "MissedPoints" "net" "LMissedPoints$Net;") (by decide +kernel)) (fun _ h9 => h9) rfl dX11_verdicts_18 ?_
      refine va_getN (D := D) (ci := 2) (v := .int 0) (C := RX2) (T := TX2) (N := 3) hx hb hts hin2 hown hK hP 1 rfl rfl 1 (by decide) (va_Nw.use rfl hN.2.2.2.2.2.2.2.2.2.1) (fun _ h9 => h9) rfl dX11_verdicts_21 ?_
      refine lv_icmp_ge (tgt := 86) hx hb dX11_verdicts_24 (by decide) (fun c3106 => ?_) (fun c3106 => ?_)
      · refine lv_iload_n hx hb dX11_verdicts_86 rfl (lv_at hl 1 rfl) ?_
        exact W.iret (v := 0) hx hb hr (fun t ht hW => ⟨_, rfl, by rw [if_neg c3104, if_pos c3105], ht⟩) (fun q hq => absurd hq List.not_mem_nil) dX11_verdicts_87
      · exact absurd c3106 (by decide)
    · refine lv_bipush (v := (-2)) hx hb dX11_verdicts_9 (by decide) ?_
      exact W.iret (v := (-2)) hx hb hr (fun t ht hW => ⟨_, rfl, by rw [if_neg c3104, if_neg c3105], ht⟩) (fun q hq => absurd hq List.not_mem_nil) dX11_verdicts_11
set_option maxHeartbeats 4000000 in
set_option maxRecDepth 100000 in
theorem c_X11_without_0 (l : Launch) (D : va_G) (cI cS : ClassId) (h0 h1 h2 h3 h4 h5 h6 h7 h8 h9 h10 h11 h12 h13 h14 h15 : Nat) (x0 : Int32) : Met l yX11_without wsX11_without ({ frames := 1, cells := 0, slots := 0, locals := 40 }) (PS D cI cS [(h0, .inr (11, [.ref h1, .ref h2, .ref h3, .ref h4, .ref h5, .ref h6, .ref h7, .int 0, .int 0, .ref h8, .ref h9, .ref h10, .ref h11, .ref h12, .ref h13, .ref h14])), (h1, .inr (2, [.ref h15, .int 0, .int 0]))] [.ref h0, .int x0]) (vp_Si (fun r => r = ((-2) : Int32))) 0 0 (fun _ => False) := by
  refine Met.ofW (cc := cX11_without) (maxL := 2) (ret := (some .int)) (by decide) rfl ?_
  intro p e s m args below meth c s₁ B hml hv
  obtain ⟨rfl, hP, hKK⟩ := hv
  have hx := B.exec
  have hb := B.bytes
  have hr := B.returns
  have hts := atoms_spec (ws := wsX11_without) B.pre
  have hown : s.vm.findClass RX11 = some m.cls := findClass_of_methodNamed B.named
  have hlocks := B.notSynchronized
  have hK := hKK.1
  have hN := hKK.2
  have hin11 : ∀ w ∈ wsX110, w ∈ wsX11_without := by decide +kernel
  have hl := lv_entry ([.ref h0, .int x0]) (n := 2) (Nat.le_of_ble_eq_true rfl)
  rw [lg_entry_eq]
  generalize (lg_sl ([.ref h0, .int x0]) ++ List.replicate (2 - (lg_sl ([.ref h0, .int x0])).length) Slot.unset).toArray = ls at hl ⊢
  have hl : lv_has ls 2 [(0, .ref h0), (1, .int x0)] := hl
  refine lv_aload_n hx hb dX11_without_0 rfl (lv_at hl 0 rfl) ?_
  refine va_get (D := D) (ci := 11) (v := .ref h1) (C := RX11) (T := TX11) (N := 16) hx hb hts hin11 hown hK hP 0 rfl rfl 0 (by decide) (hts (.fieldLink RX11 12 "MissedPoints" "net" "LMissedPoints$Net;") (by decide +kernel)) (fun _ h9 => h9) rfl dX11_without_1 ?_
  refine lv_iload_n hx hb dX11_without_4 rfl (lv_at hl 1 rfl) ?_
  have hPc := hP.sub (ws' := [(h1, .inr (2, [.ref h15, .int 0, .int 0]))]) [1] rfl
  refine lz_sv (As := [.int x0]) (rest := []) ⟨hx, hb, hml, hown, hts⟩ (c_X2_hasPoint_0 l D cI cS h1 h15 x0) hKK hPc (ci := 2) rfl rfl (cwV 1 hts gX11_without_X2_hasPoint rfl rfl rfl (by decide +kernel) ⟨Nat.le_of_ble_eq_true rfl, Nat.le_of_ble_eq_true rfl⟩) rfl hl.1 rfl (Nat.le_of_ble_eq_true rfl) dX11_without_5 ⟨Nat.le_of_ble_eq_true rfl, Nat.le_of_ble_eq_true rfl⟩ (fun r3109 hw => ?_)
  subst hw
  refine lv_if_eq (tgt := 34) hx hb dX11_without_8 (by decide) (fun c3110 => ?_) (fun c3110 => ?_)
  · refine lv_bipush (v := (-2)) hx hb dX11_without_34 (by decide) ?_
    exact W.iret (v := (-2)) hx hb hr (fun t ht hW => ⟨_, rfl, rfl, ht⟩) (fun q hq => absurd hq List.not_mem_nil) dX11_without_36
  · exact absurd c3110 (by decide)
set_option maxHeartbeats 4000000 in
set_option maxRecDepth 100000 in
theorem c_X11_firstOrCount_0 (l : Launch) (D : va_G) (cI cS : ClassId) (h0 h1 h2 h3 h4 h5 h6 h7 h8 h9 h10 h11 h12 h13 h14 h15 : Nat) (x0 : Int32) : Met l yX11_firstOrCount wsX11_firstOrCount ({ frames := 0, cells := 0, slots := 0, locals := 0 }) (PS D cI cS [(h0, .inr (11, [.ref h1, .ref h2, .ref h3, .ref h4, .ref h5, .ref h6, .ref h7, .int 0, .int 0, .ref h8, .ref h9, .ref h10, .ref h11, .ref h12, .ref h13, .ref h14])), (h1, .inr (2, [.ref h15, .int 0, .int 0]))] [.ref h0, .int x0, .int 1]) (vp_Si (fun r => r = if x0 = 0 then ((-1) : Int32) else (if x0 = 1 then (0 : Int32) else ((-2) : Int32)))) 0 0 (fun _ => False) := by
  refine Met.ofW (cc := cX11_firstOrCount) (maxL := 6) (ret := (some .int)) (by decide) rfl ?_
  intro p e s m args below meth c s₁ B hml hv
  obtain ⟨rfl, hP, hKK⟩ := hv
  have hx := B.exec
  have hb := B.bytes
  have hr := B.returns
  have hts := atoms_spec (ws := wsX11_firstOrCount) B.pre
  have hown : s.vm.findClass RX11 = some m.cls := findClass_of_methodNamed B.named
  have hlocks := B.notSynchronized
  have hK := hKK.1
  have hN := hKK.2
  have hin2 : ∀ w ∈ wsX20, w ∈ wsX11_firstOrCount := by decide +kernel
  have hin11 : ∀ w ∈ wsX110, w ∈ wsX11_firstOrCount := by decide +kernel
  have hl := lv_entry ([.ref h0, .int x0, .int 1]) (n := 6) (Nat.le_of_ble_eq_true rfl)
  rw [lg_entry_eq]
  generalize (lg_sl ([.ref h0, .int x0, .int 1]) ++ List.replicate (6 - (lg_sl ([.ref h0, .int x0, .int 1])).length) Slot.unset).toArray = ls at hl ⊢
  have hl : lv_has ls 6 [(0, .ref h0), (1, .int x0), (2, .int 1)] := hl
  refine lv_iload_n hx hb dX11_firstOrCount_0 rfl (lv_at hl 1 rfl) ?_
  refine lv_if_eq (tgt := 12) hx hb dX11_firstOrCount_1 (by decide) (fun c3117 => ?_) (fun c3117 => ?_)
  · subst c3117
    refine lv_iconst (v := 0) hx hb dX11_firstOrCount_12 (by decide) ?_
    refine lv_istore_n (lv' := [(3, .int 0), (0, .ref h0), (1, .int 0), (2, .int 1)]) hx hb dX11_firstOrCount_13 rfl hl (by decide) rfl (fun ls hl => ?_)
    refine lv_iconst (v := 0) hx hb dX11_firstOrCount_14 (by decide) ?_
    refine lv_istore (lv' := [(4, .int 0), (3, .int 0), (0, .ref h0), (1, .int 0), (2, .int 1)]) hx hb dX11_firstOrCount_15 hl (by decide) rfl (fun ls hl => ?_)
    refine lv_iload hx hb dX11_firstOrCount_17 (lv_at hl 0 rfl) ?_
    refine lv_aload_n hx hb dX11_firstOrCount_19 rfl (lv_at hl 2 rfl) ?_
    refine va_get (D := D) (ci := 11) (v := .ref h1) (C := RX11) (T := TX11) (N := 16) hx hb hts hin11 hown hK hP 0 rfl rfl 0 (by decide) (hts (.fieldLink RX11 12 "MissedPoints" "net" "LMissedPoints$Net;") (by decide +kernel)) (fun _ h9 => h9) rfl dX11_firstOrCount_20 ?_
    refine va_getN (D := D) (ci := 2) (v := .int 0) (C := RX2) (T := TX2) (N := 3) hx hb hts hin2 hown hK hP 1 rfl rfl 1 (by decide) (va_Nw.use rfl hN.2.2.2.2.2.2.2.2.2.1) (fun _ h9 => h9) rfl dX11_firstOrCount_23 ?_
    refine lv_icmp_ge (tgt := 111) hx hb dX11_firstOrCount_26 (by decide) (fun c3118 => ?_) (fun c3118 => ?_)
    · refine lv_iload_n hx hb dX11_firstOrCount_111 rfl (lv_at hl 3 rfl) ?_
      refine lv_if_ne (tgt := 119) hx hb dX11_firstOrCount_112 (by decide) (fun c3119 => ?_) (fun c3119 => ?_)
      · exact absurd c3119 (by decide)
      · refine lv_iconst (v := (-1)) hx hb dX11_firstOrCount_115 (by decide) ?_
        refine lv_goto (tgt := 120) hx hb dX11_firstOrCount_116 (by decide) ?_
        exact W.iret (v := (-1)) hx hb hr (fun t ht hW => ⟨_, rfl, by rw [if_pos rfl], ht⟩) (fun q hq => absurd hq List.not_mem_nil) dX11_firstOrCount_120
    · exact absurd c3118 (by decide)
  · refine lv_iload_n hx hb dX11_firstOrCount_4 rfl (lv_at hl 1 rfl) ?_
    refine lv_iconst (v := 1) hx hb dX11_firstOrCount_5 (by decide) ?_
    refine lv_icmp_eq (tgt := 12) hx hb dX11_firstOrCount_6 (by decide) (fun c3120 => ?_) (fun c3120 => ?_)
    · subst c3120
      refine lv_iconst (v := 0) hx hb dX11_firstOrCount_12 (by decide) ?_
      refine lv_istore_n (lv' := [(3, .int 0), (0, .ref h0), (1, .int 1), (2, .int 1)]) hx hb dX11_firstOrCount_13 rfl hl (by decide) rfl (fun ls hl => ?_)
      refine lv_iconst (v := 0) hx hb dX11_firstOrCount_14 (by decide) ?_
      refine lv_istore (lv' := [(4, .int 0), (3, .int 0), (0, .ref h0), (1, .int 1), (2, .int 1)]) hx hb dX11_firstOrCount_15 hl (by decide) rfl (fun ls hl => ?_)
      refine lv_iload hx hb dX11_firstOrCount_17 (lv_at hl 0 rfl) ?_
      refine lv_aload_n hx hb dX11_firstOrCount_19 rfl (lv_at hl 2 rfl) ?_
      refine va_get (D := D) (ci := 11) (v := .ref h1) (C := RX11) (T := TX11) (N := 16) hx hb hts hin11 hown hK hP 0 rfl rfl 0 (by decide) (hts (.fieldLink RX11 12 "MissedPoints" "net" "LMissedPoints$Net;") (by decide +kernel)) (fun _ h9 => h9) rfl dX11_firstOrCount_20 ?_
      refine va_getN (D := D) (ci := 2) (v := .int 0) (C := RX2) (T := TX2) (N := 3) hx hb hts hin2 hown hK hP 1 rfl rfl 1 (by decide) (va_Nw.use rfl hN.2.2.2.2.2.2.2.2.2.1) (fun _ h9 => h9) rfl dX11_firstOrCount_23 ?_
      refine lv_icmp_ge (tgt := 111) hx hb dX11_firstOrCount_26 (by decide) (fun c3121 => ?_) (fun c3121 => ?_)
      · refine lv_iload_n hx hb dX11_firstOrCount_111 rfl (lv_at hl 3 rfl) ?_
        refine lv_if_ne (tgt := 119) hx hb dX11_firstOrCount_112 (by decide) (fun c3122 => ?_) (fun c3122 => ?_)
        · refine lv_iload_n hx hb dX11_firstOrCount_119 rfl (lv_at hl 1 rfl) ?_
          exact W.iret (v := 0) hx hb hr (fun t ht hW => ⟨_, rfl, by rw [if_neg c3117, if_pos rfl], ht⟩) (fun q hq => absurd hq List.not_mem_nil) dX11_firstOrCount_120
        · exact absurd c3122 (by decide)
      · exact absurd c3121 (by decide)
    · refine lv_bipush (v := (-2)) hx hb dX11_firstOrCount_9 (by decide) ?_
      exact W.iret (v := (-2)) hx hb hr (fun t ht hW => ⟨_, rfl, by rw [if_neg c3117, if_neg c3120], ht⟩) (fun q hq => absurd hq List.not_mem_nil) dX11_firstOrCount_11
set_option maxHeartbeats 4000000 in
set_option maxRecDepth 100000 in
theorem c_X11_mends_0 (l : Launch) (D : va_G) (cI cS : ClassId) (h0 h1 h2 h3 h4 h5 h6 h7 h8 h9 h10 h11 h12 h13 h14 h15 : Nat) (x0 : Int32) : Met l yX11_mends wsX11_mends ({ frames := 1, cells := 0, slots := 0, locals := 40 }) (PS D cI cS [(h0, .inr (11, [.ref h1, .ref h2, .ref h3, .ref h4, .ref h5, .ref h6, .ref h7, .int 0, .int 0, .ref h8, .ref h9, .ref h10, .ref h11, .ref h12, .ref h13, .ref h14])), (h1, .inr (2, [.ref h15, .int 0, .int 0]))] [.ref h0, .int x0]) (vp_Si (fun r => r = if x0 = 0 then ((-1) : Int32) else (if x0 = 1 then (0 : Int32) else ((-2) : Int32)))) 0 0 (fun _ => False) := by
  refine Met.ofW (cc := cX11_mends) (maxL := 2) (ret := (some .int)) (by decide) rfl ?_
  intro p e s m args below meth c s₁ B hml hv
  obtain ⟨rfl, hP, hKK⟩ := hv
  have hx := B.exec
  have hb := B.bytes
  have hr := B.returns
  have hts := atoms_spec (ws := wsX11_mends) B.pre
  have hown : s.vm.findClass RX11 = some m.cls := findClass_of_methodNamed B.named
  have hlocks := B.notSynchronized
  have hK := hKK.1
  have hN := hKK.2
  have hl := lv_entry ([.ref h0, .int x0]) (n := 2) (Nat.le_of_ble_eq_true rfl)
  rw [lg_entry_eq]
  generalize (lg_sl ([.ref h0, .int x0]) ++ List.replicate (2 - (lg_sl ([.ref h0, .int x0])).length) Slot.unset).toArray = ls at hl ⊢
  have hl : lv_has ls 2 [(0, .ref h0), (1, .int x0)] := hl
  refine lv_aload_n hx hb dX11_mends_0 rfl (lv_at hl 0 rfl) ?_
  refine lv_iload_n hx hb dX11_mends_1 rfl (lv_at hl 1 rfl) ?_
  refine lv_iconst (v := 1) hx hb dX11_mends_2 (by decide) ?_
  have hPc := hP.sub (ws' := [(h0, .inr (11, [.ref h1, .ref h2, .ref h3, .ref h4, .ref h5, .ref h6, .ref h7, .int 0, .int 0, .ref h8, .ref h9, .ref h10, .ref h11, .ref h12, .ref h13, .ref h14])), (h1, .inr (2, [.ref h15, .int 0, .int 0]))]) [0, 1] rfl
  refine lz_sv (As := [.int x0, .int 1]) (rest := []) ⟨hx, hb, hml, hown, hts⟩ (c_X11_firstOrCount_0 l D cI cS h0 h1 h2 h3 h4 h5 h6 h7 h8 h9 h10 h11 h12 h13 h14 h15 x0) hKK hPc (ci := 11) rfl rfl (cwV 2 hts gX11_mends_X11_firstOrCount rfl rfl rfl (by decide +kernel) ⟨Nat.le_of_ble_eq_true rfl, Nat.le_of_ble_eq_true rfl⟩) rfl hl.1 rfl (Nat.le_of_ble_eq_true rfl) dX11_mends_3 ⟨Nat.le_of_ble_eq_true rfl, Nat.le_of_ble_eq_true rfl⟩ (fun r3126 hw => ?_)
  by_cases k3127 : x0 = 0
  · rw [if_pos k3127] at hw
    subst k3127
    subst hw
    exact W.iret (v := (-1)) hx hb hr (fun t ht hW => ⟨_, rfl, by rw [if_pos rfl], ht⟩) (fun q hq => absurd hq List.not_mem_nil) dX11_mends_6
  · rw [if_neg k3127] at hw
    by_cases k3128 : x0 = 1
    · rw [if_pos k3128] at hw
      subst k3128
      subst hw
      exact W.iret (v := 0) hx hb hr (fun t ht hW => ⟨_, rfl, by rw [if_neg k3127, if_pos rfl], ht⟩) (fun q hq => absurd hq List.not_mem_nil) dX11_mends_6
    · rw [if_neg k3128] at hw
      subst hw
      exact W.iret (v := (-2)) hx hb hr (fun t ht hW => ⟨_, rfl, by rw [if_neg k3127, if_neg k3128], ht⟩) (fun q hq => absurd hq List.not_mem_nil) dX11_mends_6
set_option maxHeartbeats 4000000 in
set_option maxRecDepth 100000 in
theorem c_X11_firstOrCount_1 (l : Launch) (D : va_G) (cI cS : ClassId) (h0 h1 h2 h3 h4 h5 h6 h7 h8 h9 h10 h11 h12 h13 h14 h15 : Nat) (x0 : Int32) : Met l yX11_firstOrCount wsX11_firstOrCount ({ frames := 0, cells := 0, slots := 0, locals := 0 }) (PS D cI cS [(h0, .inr (11, [.ref h1, .ref h2, .ref h3, .ref h4, .ref h5, .ref h6, .ref h7, .int 0, .int 0, .ref h8, .ref h9, .ref h10, .ref h11, .ref h12, .ref h13, .ref h14])), (h1, .inr (2, [.ref h15, .int 0, .int 0]))] [.ref h0, .int x0, .int 0]) (vp_Si (fun r => r = if x0 = 0 then ((-1) : Int32) else (if x0 = 1 then (0 : Int32) else ((-2) : Int32)))) 0 0 (fun _ => False) := by
  refine Met.ofW (cc := cX11_firstOrCount) (maxL := 6) (ret := (some .int)) (by decide) rfl ?_
  intro p e s m args below meth c s₁ B hml hv
  obtain ⟨rfl, hP, hKK⟩ := hv
  have hx := B.exec
  have hb := B.bytes
  have hr := B.returns
  have hts := atoms_spec (ws := wsX11_firstOrCount) B.pre
  have hown : s.vm.findClass RX11 = some m.cls := findClass_of_methodNamed B.named
  have hlocks := B.notSynchronized
  have hK := hKK.1
  have hN := hKK.2
  have hin2 : ∀ w ∈ wsX20, w ∈ wsX11_firstOrCount := by decide +kernel
  have hin11 : ∀ w ∈ wsX110, w ∈ wsX11_firstOrCount := by decide +kernel
  have hl := lv_entry ([.ref h0, .int x0, .int 0]) (n := 6) (Nat.le_of_ble_eq_true rfl)
  rw [lg_entry_eq]
  generalize (lg_sl ([.ref h0, .int x0, .int 0]) ++ List.replicate (6 - (lg_sl ([.ref h0, .int x0, .int 0])).length) Slot.unset).toArray = ls at hl ⊢
  have hl : lv_has ls 6 [(0, .ref h0), (1, .int x0), (2, .int 0)] := hl
  refine lv_iload_n hx hb dX11_firstOrCount_0 rfl (lv_at hl 1 rfl) ?_
  refine lv_if_eq (tgt := 12) hx hb dX11_firstOrCount_1 (by decide) (fun c3135 => ?_) (fun c3135 => ?_)
  · subst c3135
    refine lv_iconst (v := 0) hx hb dX11_firstOrCount_12 (by decide) ?_
    refine lv_istore_n (lv' := [(3, .int 0), (0, .ref h0), (1, .int 0), (2, .int 0)]) hx hb dX11_firstOrCount_13 rfl hl (by decide) rfl (fun ls hl => ?_)
    refine lv_iconst (v := 0) hx hb dX11_firstOrCount_14 (by decide) ?_
    refine lv_istore (lv' := [(4, .int 0), (3, .int 0), (0, .ref h0), (1, .int 0), (2, .int 0)]) hx hb dX11_firstOrCount_15 hl (by decide) rfl (fun ls hl => ?_)
    refine lv_iload hx hb dX11_firstOrCount_17 (lv_at hl 0 rfl) ?_
    refine lv_aload_n hx hb dX11_firstOrCount_19 rfl (lv_at hl 2 rfl) ?_
    refine va_get (D := D) (ci := 11) (v := .ref h1) (C := RX11) (T := TX11) (N := 16) hx hb hts hin11 hown hK hP 0 rfl rfl 0 (by decide) (hts (.fieldLink RX11 12 "MissedPoints" "net" "LMissedPoints$Net;") (by decide +kernel)) (fun _ h9 => h9) rfl dX11_firstOrCount_20 ?_
    refine va_getN (D := D) (ci := 2) (v := .int 0) (C := RX2) (T := TX2) (N := 3) hx hb hts hin2 hown hK hP 1 rfl rfl 1 (by decide) (va_Nw.use rfl hN.2.2.2.2.2.2.2.2.2.1) (fun _ h9 => h9) rfl dX11_firstOrCount_23 ?_
    refine lv_icmp_ge (tgt := 111) hx hb dX11_firstOrCount_26 (by decide) (fun c3136 => ?_) (fun c3136 => ?_)
    · refine lv_iload_n hx hb dX11_firstOrCount_111 rfl (lv_at hl 3 rfl) ?_
      refine lv_if_ne (tgt := 119) hx hb dX11_firstOrCount_112 (by decide) (fun c3137 => ?_) (fun c3137 => ?_)
      · exact absurd c3137 (by decide)
      · refine lv_iconst (v := (-1)) hx hb dX11_firstOrCount_115 (by decide) ?_
        refine lv_goto (tgt := 120) hx hb dX11_firstOrCount_116 (by decide) ?_
        exact W.iret (v := (-1)) hx hb hr (fun t ht hW => ⟨_, rfl, by rw [if_pos rfl], ht⟩) (fun q hq => absurd hq List.not_mem_nil) dX11_firstOrCount_120
    · exact absurd c3136 (by decide)
  · refine lv_iload_n hx hb dX11_firstOrCount_4 rfl (lv_at hl 1 rfl) ?_
    refine lv_iconst (v := 1) hx hb dX11_firstOrCount_5 (by decide) ?_
    refine lv_icmp_eq (tgt := 12) hx hb dX11_firstOrCount_6 (by decide) (fun c3138 => ?_) (fun c3138 => ?_)
    · subst c3138
      refine lv_iconst (v := 0) hx hb dX11_firstOrCount_12 (by decide) ?_
      refine lv_istore_n (lv' := [(3, .int 0), (0, .ref h0), (1, .int 1), (2, .int 0)]) hx hb dX11_firstOrCount_13 rfl hl (by decide) rfl (fun ls hl => ?_)
      refine lv_iconst (v := 0) hx hb dX11_firstOrCount_14 (by decide) ?_
      refine lv_istore (lv' := [(4, .int 0), (3, .int 0), (0, .ref h0), (1, .int 1), (2, .int 0)]) hx hb dX11_firstOrCount_15 hl (by decide) rfl (fun ls hl => ?_)
      refine lv_iload hx hb dX11_firstOrCount_17 (lv_at hl 0 rfl) ?_
      refine lv_aload_n hx hb dX11_firstOrCount_19 rfl (lv_at hl 2 rfl) ?_
      refine va_get (D := D) (ci := 11) (v := .ref h1) (C := RX11) (T := TX11) (N := 16) hx hb hts hin11 hown hK hP 0 rfl rfl 0 (by decide) (hts (.fieldLink RX11 12 "MissedPoints" "net" "LMissedPoints$Net;") (by decide +kernel)) (fun _ h9 => h9) rfl dX11_firstOrCount_20 ?_
      refine va_getN (D := D) (ci := 2) (v := .int 0) (C := RX2) (T := TX2) (N := 3) hx hb hts hin2 hown hK hP 1 rfl rfl 1 (by decide) (va_Nw.use rfl hN.2.2.2.2.2.2.2.2.2.1) (fun _ h9 => h9) rfl dX11_firstOrCount_23 ?_
      refine lv_icmp_ge (tgt := 111) hx hb dX11_firstOrCount_26 (by decide) (fun c3139 => ?_) (fun c3139 => ?_)
      · refine lv_iload_n hx hb dX11_firstOrCount_111 rfl (lv_at hl 3 rfl) ?_
        refine lv_if_ne (tgt := 119) hx hb dX11_firstOrCount_112 (by decide) (fun c3140 => ?_) (fun c3140 => ?_)
        · refine lv_iload_n hx hb dX11_firstOrCount_119 rfl (lv_at hl 1 rfl) ?_
          exact W.iret (v := 0) hx hb hr (fun t ht hW => ⟨_, rfl, by rw [if_neg c3135, if_pos rfl], ht⟩) (fun q hq => absurd hq List.not_mem_nil) dX11_firstOrCount_120
        · exact absurd c3140 (by decide)
      · exact absurd c3139 (by decide)
    · refine lv_bipush (v := (-2)) hx hb dX11_firstOrCount_9 (by decide) ?_
      exact W.iret (v := (-2)) hx hb hr (fun t ht hW => ⟨_, rfl, by rw [if_neg c3135, if_neg c3138], ht⟩) (fun q hq => absurd hq List.not_mem_nil) dX11_firstOrCount_11
set_option maxHeartbeats 4000000 in
set_option maxRecDepth 100000 in
theorem c_X11_breaks_0 (l : Launch) (D : va_G) (cI cS : ClassId) (h0 h1 h2 h3 h4 h5 h6 h7 h8 h9 h10 h11 h12 h13 h14 h15 : Nat) (x0 : Int32) : Met l yX11_breaks wsX11_breaks ({ frames := 1, cells := 0, slots := 0, locals := 40 }) (PS D cI cS [(h0, .inr (11, [.ref h1, .ref h2, .ref h3, .ref h4, .ref h5, .ref h6, .ref h7, .int 0, .int 0, .ref h8, .ref h9, .ref h10, .ref h11, .ref h12, .ref h13, .ref h14])), (h1, .inr (2, [.ref h15, .int 0, .int 0]))] [.ref h0, .int x0]) (vp_Si (fun r => r = if x0 = 0 then ((-1) : Int32) else (if x0 = 1 then (0 : Int32) else ((-2) : Int32)))) 0 0 (fun _ => False) := by
  refine Met.ofW (cc := cX11_breaks) (maxL := 2) (ret := (some .int)) (by decide) rfl ?_
  intro p e s m args below meth c s₁ B hml hv
  obtain ⟨rfl, hP, hKK⟩ := hv
  have hx := B.exec
  have hb := B.bytes
  have hr := B.returns
  have hts := atoms_spec (ws := wsX11_breaks) B.pre
  have hown : s.vm.findClass RX11 = some m.cls := findClass_of_methodNamed B.named
  have hlocks := B.notSynchronized
  have hK := hKK.1
  have hN := hKK.2
  have hl := lv_entry ([.ref h0, .int x0]) (n := 2) (Nat.le_of_ble_eq_true rfl)
  rw [lg_entry_eq]
  generalize (lg_sl ([.ref h0, .int x0]) ++ List.replicate (2 - (lg_sl ([.ref h0, .int x0])).length) Slot.unset).toArray = ls at hl ⊢
  have hl : lv_has ls 2 [(0, .ref h0), (1, .int x0)] := hl
  refine lv_aload_n hx hb dX11_breaks_0 rfl (lv_at hl 0 rfl) ?_
  refine lv_iload_n hx hb dX11_breaks_1 rfl (lv_at hl 1 rfl) ?_
  refine lv_iconst (v := 0) hx hb dX11_breaks_2 (by decide) ?_
  have hPc := hP.sub (ws' := [(h0, .inr (11, [.ref h1, .ref h2, .ref h3, .ref h4, .ref h5, .ref h6, .ref h7, .int 0, .int 0, .ref h8, .ref h9, .ref h10, .ref h11, .ref h12, .ref h13, .ref h14])), (h1, .inr (2, [.ref h15, .int 0, .int 0]))]) [0, 1] rfl
  refine lz_sv (As := [.int x0, .int 0]) (rest := []) ⟨hx, hb, hml, hown, hts⟩ (c_X11_firstOrCount_1 l D cI cS h0 h1 h2 h3 h4 h5 h6 h7 h8 h9 h10 h11 h12 h13 h14 h15 x0) hKK hPc (ci := 11) rfl rfl (cwV 2 hts gX11_breaks_X11_firstOrCount rfl rfl rfl (by decide +kernel) ⟨Nat.le_of_ble_eq_true rfl, Nat.le_of_ble_eq_true rfl⟩) rfl hl.1 rfl (Nat.le_of_ble_eq_true rfl) dX11_breaks_3 ⟨Nat.le_of_ble_eq_true rfl, Nat.le_of_ble_eq_true rfl⟩ (fun r3144 hw => ?_)
  by_cases k3145 : x0 = 0
  · rw [if_pos k3145] at hw
    subst k3145
    subst hw
    exact W.iret (v := (-1)) hx hb hr (fun t ht hW => ⟨_, rfl, by rw [if_pos rfl], ht⟩) (fun q hq => absurd hq List.not_mem_nil) dX11_breaks_6
  · rw [if_neg k3145] at hw
    by_cases k3146 : x0 = 1
    · rw [if_pos k3146] at hw
      subst k3146
      subst hw
      exact W.iret (v := 0) hx hb hr (fun t ht hW => ⟨_, rfl, by rw [if_neg k3145, if_pos rfl], ht⟩) (fun q hq => absurd hq List.not_mem_nil) dX11_breaks_6
    · rw [if_neg k3146] at hw
      subst hw
      exact W.iret (v := (-2)) hx hb hr (fun t ht hW => ⟨_, rfl, by rw [if_neg k3145, if_neg k3146], ht⟩) (fun q hq => absurd hq List.not_mem_nil) dX11_breaks_6
set_option maxHeartbeats 4000000 in
set_option maxRecDepth 100000 in
theorem c_X11_isSheet_0 (l : Launch) (D : va_G) (cI cS : ClassId) (x0 : Int32) : Met l yX11_isSheet wsX11_isSheet ({ frames := 0, cells := 0, slots := 0, locals := 0 }) (PS D cI cS [] [.int x0]) (vp_Si (fun r => r = if x0 < 0 then (0 : Int32) else (if (4 : Int32) ≤ x0 then (0 : Int32) else (1 : Int32)))) 0 0 (fun _ => False) := by
  refine Met.ofW (cc := cX11_isSheet) (maxL := 1) (ret := (some .boolean)) (by decide) rfl ?_
  intro p e s m args below meth c s₁ B hml hv
  obtain ⟨rfl, hP, hKK⟩ := hv
  have hx := B.exec
  have hb := B.bytes
  have hr := B.returns
  have hts := atoms_spec (ws := wsX11_isSheet) B.pre
  have hown : s.vm.findClass RX11 = some m.cls := findClass_of_methodNamed B.named
  have hlocks := B.notSynchronized
  have hK := hKK.1
  have hN := hKK.2
  have hl := lv_entry ([.int x0]) (n := 1) (Nat.le_of_ble_eq_true rfl)
  rw [lg_entry_eq]
  generalize (lg_sl ([.int x0]) ++ List.replicate (1 - (lg_sl ([.int x0])).length) Slot.unset).toArray = ls at hl ⊢
  have hl : lv_has ls 1 [(0, .int x0)] := hl
  refine lv_iload_n hx hb dX11_isSheet_0 rfl (lv_at hl 0 rfl) ?_
  refine lv_if_lt (tgt := 13) hx hb dX11_isSheet_1 (by decide) (fun c3149 => ?_) (fun c3149 => ?_)
  · refine lv_iconst (v := 0) hx hb dX11_isSheet_13 (by decide) ?_
    exact W.zret (v := 0) hx hb hr (by decide) (fun t ht hW => ⟨_, rfl, by rw [if_pos c3149], ht⟩) (fun q hq => absurd hq List.not_mem_nil) dX11_isSheet_14
  · refine lv_iload_n hx hb dX11_isSheet_4 rfl (lv_at hl 0 rfl) ?_
    refine lv_iconst (v := 4) hx hb dX11_isSheet_5 (by decide) ?_
    refine lv_icmp_ge (tgt := 13) hx hb dX11_isSheet_6 (by decide) (fun c3150 => ?_) (fun c3150 => ?_)
    · refine lv_iconst (v := 0) hx hb dX11_isSheet_13 (by decide) ?_
      exact W.zret (v := 0) hx hb hr (by decide) (fun t ht hW => ⟨_, rfl, by rw [if_neg c3149, if_pos c3150], ht⟩) (fun q hq => absurd hq List.not_mem_nil) dX11_isSheet_14
    · refine lv_iconst (v := 1) hx hb dX11_isSheet_9 (by decide) ?_
      refine lv_goto (tgt := 14) hx hb dX11_isSheet_10 (by decide) ?_
      exact W.zret (v := 1) hx hb hr (by decide) (fun t ht hW => ⟨_, rfl, by rw [if_neg c3149, if_neg c3150], ht⟩) (fun q hq => absurd hq List.not_mem_nil) dX11_isSheet_14
set_option maxHeartbeats 4000000 in
set_option maxRecDepth 100000 in
theorem c_X6_isMissing_0 (l : Launch) (D : va_G) (cI cS : ClassId) (h0 h1 : Nat) : Met l yX6_isMissing wsX6_isMissing ({ frames := 0, cells := 0, slots := 0, locals := 0 }) (PS D cI cS [(h0, .inr (6, [.ref h1, .int (-1), .int 0]))] [.ref h0]) (vp_Si (fun r => r = (1 : Int32))) 0 0 (fun _ => False) := by
  refine Met.ofW (cc := cX6_isMissing) (maxL := 1) (ret := (some .boolean)) (by decide) rfl ?_
  intro p e s m args below meth c s₁ B hml hv
  obtain ⟨rfl, hP, hKK⟩ := hv
  have hx := B.exec
  have hb := B.bytes
  have hr := B.returns
  have hts := atoms_spec (ws := wsX6_isMissing) B.pre
  have hown : s.vm.findClass RX6 = some m.cls := findClass_of_methodNamed B.named
  have hlocks := B.notSynchronized
  have hK := hKK.1
  have hN := hKK.2
  have hin6 : ∀ w ∈ wsX60, w ∈ wsX6_isMissing := by decide +kernel
  have hl := lv_entry ([.ref h0]) (n := 1) (Nat.le_of_ble_eq_true rfl)
  rw [lg_entry_eq]
  generalize (lg_sl ([.ref h0]) ++ List.replicate (1 - (lg_sl ([.ref h0])).length) Slot.unset).toArray = ls at hl ⊢
  have hl : lv_has ls 1 [(0, .ref h0)] := hl
  refine lv_aload_n hx hb dX6_isMissing_0 rfl (lv_at hl 0 rfl) ?_
  refine va_get (D := D) (ci := 6) (v := .int (-1)) (C := RX6) (T := TX6) (N := 3) hx hb hts hin6 hown hK hP 0 rfl rfl 1 (by decide) (hts (.fieldLink RX6 15 "MissedPoints$Sheet" "sort" "I") (by decide +kernel)) (fun _ h9 => h9) rfl dX6_isMissing_1 ?_
  refine lv_iconst (v := (-1)) hx hb dX6_isMissing_4 (by decide) ?_
  refine lv_icmp_ne (tgt := 12) hx hb dX6_isMissing_5 (by decide) (fun c3159 => ?_) (fun c3159 => ?_)
  · exact absurd c3159 (by decide)
  · refine lv_iconst (v := 1) hx hb dX6_isMissing_8 (by decide) ?_
    refine lv_goto (tgt := 13) hx hb dX6_isMissing_9 (by decide) ?_
    exact W.zret (v := 1) hx hb hr (by decide) (fun t ht hW => ⟨_, rfl, rfl, ht⟩) (fun q hq => absurd hq List.not_mem_nil) dX6_isMissing_13
set_option maxHeartbeats 4000000 in
set_option maxRecDepth 100000 in
theorem c_X11_refusalOfSheet_0 (l : Launch) (D : va_G) (cI cS : ClassId) (h0 h1 h2 h3 h4 h5 h6 h7 h8 h9 h10 h11 h12 h13 h14 h25 h26 h27 h28 h41 h42 h43 h44 : Nat) (x0 : Int32) : Met l yX11_refusalOfSheet wsX11_refusalOfSheet ({ frames := 1, cells := 0, slots := 0, locals := 40 }) (PS D cI cS [(h0, .inr (11, [.ref h1, .ref h2, .ref h3, .ref h4, .ref h5, .ref h6, .ref h7, .int 0, .int 0, .ref h8, .ref h9, .ref h10, .ref h11, .ref h12, .ref h13, .ref h14])), (h11, .inl (cS, 4, .inr (.inr (.inr (.inr (fun k => [h25, h26, h27, h28][k]?)))))), (h25, .inr (6, [.ref h41, .int (-1), .int 0])), (h26, .inr (6, [.ref h42, .int (-1), .int 0])), (h27, .inr (6, [.ref h43, .int (-1), .int 0])), (h28, .inr (6, [.ref h44, .int (-1), .int 0]))] [.ref h0, .int x0]) (vp_Si (fun r => r = if x0 < 0 then ((-2) : Int32) else (if (4 : Int32) ≤ x0 then ((-2) : Int32) else ((-11) : Int32)))) 0 0 (fun _ => False) := by
  refine Met.ofW (cc := cX11_refusalOfSheet) (maxL := 2) (ret := (some .int)) (by decide) rfl ?_
  intro p e s m args below meth c s₁ B hml hv
  obtain ⟨rfl, hP, hKK⟩ := hv
  have hx := B.exec
  have hb := B.bytes
  have hr := B.returns
  have hts := atoms_spec (ws := wsX11_refusalOfSheet) B.pre
  have hown : s.vm.findClass RX11 = some m.cls := findClass_of_methodNamed B.named
  have hlocks := B.notSynchronized
  have hK := hKK.1
  have hN := hKK.2
  have hin11 : ∀ w ∈ wsX110, w ∈ wsX11_refusalOfSheet := by decide +kernel
  have hl := lv_entry ([.ref h0, .int x0]) (n := 2) (Nat.le_of_ble_eq_true rfl)
  rw [lg_entry_eq]
  generalize (lg_sl ([.ref h0, .int x0]) ++ List.replicate (2 - (lg_sl ([.ref h0, .int x0])).length) Slot.unset).toArray = ls at hl ⊢
  have hl : lv_has ls 2 [(0, .ref h0), (1, .int x0)] := hl
  refine lv_iload_n hx hb dX11_refusalOfSheet_0 rfl (lv_at hl 1 rfl) ?_
  have hPc := hP.sub (ws' := []) [] rfl
  refine lz_ss (As := [.int x0]) (rest := []) ⟨hx, hb, hml, hown, hts⟩ (c_X11_isSheet_0 l D cI cS x0) hKK hPc (va_cwS 1 hts gX11_refusalOfSheet_X11_isSheet rfl rfl rfl (by decide +kernel) ⟨Nat.le_of_ble_eq_true rfl, Nat.le_of_ble_eq_true rfl⟩) rfl hl.1 rfl (Nat.le_of_ble_eq_true rfl) dX11_refusalOfSheet_1 ⟨Nat.le_of_ble_eq_true rfl, Nat.le_of_ble_eq_true rfl⟩ (fun r3170 hw => ?_)
  by_cases k3171 : x0 < 0
  · rw [if_pos k3171] at hw
    subst hw
    refine lv_if_ne (tgt := 10) hx hb dX11_refusalOfSheet_4 (by decide) (fun c3172 => ?_) (fun c3172 => ?_)
    · exact absurd c3172 (by decide)
    · refine lv_bipush (v := (-2)) hx hb dX11_refusalOfSheet_7 (by decide) ?_
      exact W.iret (v := (-2)) hx hb hr (fun t ht hW => ⟨_, rfl, by rw [if_pos k3171], ht⟩) (fun q hq => absurd hq List.not_mem_nil) dX11_refusalOfSheet_9
  · rw [if_neg k3171] at hw
    by_cases k3173 : (4 : Int32) ≤ x0
    · rw [if_pos k3173] at hw
      subst hw
      refine lv_if_ne (tgt := 10) hx hb dX11_refusalOfSheet_4 (by decide) (fun c3174 => ?_) (fun c3174 => ?_)
      · exact absurd c3174 (by decide)
      · refine lv_bipush (v := (-2)) hx hb dX11_refusalOfSheet_7 (by decide) ?_
        exact W.iret (v := (-2)) hx hb hr (fun t ht hW => ⟨_, rfl, by rw [if_neg k3171, if_pos k3173], ht⟩) (fun q hq => absurd hq List.not_mem_nil) dX11_refusalOfSheet_9
    · rw [if_neg k3173] at hw
      subst hw
      refine lv_if_ne (tgt := 10) hx hb dX11_refusalOfSheet_4 (by decide) (fun c3175 => ?_) (fun c3175 => ?_)
      · refine lv_aload_n hx hb dX11_refusalOfSheet_10 rfl (lv_at hl 0 rfl) ?_
        refine va_get (D := D) (ci := 11) (v := .ref h11) (C := RX11) (T := TX11) (N := 16) hx hb hts hin11 hown hK hP 0 rfl rfl 12 (by decide) (hts (.fieldLink RX11 75 "MissedPoints" "sheets" "[LMissedPoints$Sheet;") (by decide +kernel)) (fun _ h9 => h9) rfl dX11_refusalOfSheet_11 ?_
        refine lv_iload_n hx hb dX11_refusalOfSheet_14 rfl (lv_at hl 1 rfl) ?_
        by_cases k3176 : x0 = 0
        · subst k3176
          refine va_aldq hx hb hK hP 1 1 rfl rfl (lz_vp (x := 0) (n := 4) (by decide) (by decide)) dX11_refusalOfSheet_15 ?_
          refine lz_va (y := .ref h25) rfl ?_
          have hPc := hP.sub (ws' := [(h25, .inr (6, [.ref h41, .int (-1), .int 0]))]) [2] rfl
          refine lz_sv (As := []) (rest := []) ⟨hx, hb, hml, hown, hts⟩ (c_X6_isMissing_0 l D cI cS h25 h41) hKK hPc (ci := 6) rfl rfl (cwV 0 hts gX11_refusalOfSheet_X6_isMissing rfl rfl rfl (by decide +kernel) ⟨Nat.le_of_ble_eq_true rfl, Nat.le_of_ble_eq_true rfl⟩) rfl hl.1 rfl (Nat.le_of_ble_eq_true rfl) dX11_refusalOfSheet_16 ⟨Nat.le_of_ble_eq_true rfl, Nat.le_of_ble_eq_true rfl⟩ (fun r3177 hw => ?_)
          subst hw
          refine lv_if_eq (tgt := 27) hx hb dX11_refusalOfSheet_19 (by decide) (fun c3178 => ?_) (fun c3178 => ?_)
          · exact absurd c3178 (by decide)
          · refine lv_bipush (v := (-11)) hx hb dX11_refusalOfSheet_22 (by decide) ?_
            refine lv_goto (tgt := 28) hx hb dX11_refusalOfSheet_24 (by decide) ?_
            exact W.iret (v := (-11)) hx hb hr (fun t ht hW => ⟨_, rfl, by rw [if_neg k3171, if_neg k3173], ht⟩) (fun q hq => absurd hq List.not_mem_nil) dX11_refusalOfSheet_28
        · by_cases k3179 : x0 = 1
          · subst k3179
            refine va_aldq hx hb hK hP 1 1 rfl rfl (lz_vp (x := 1) (n := 4) (by decide) (by decide)) dX11_refusalOfSheet_15 ?_
            refine lz_va (y := .ref h26) rfl ?_
            have hPc := hP.sub (ws' := [(h26, .inr (6, [.ref h42, .int (-1), .int 0]))]) [3] rfl
            refine lz_sv (As := []) (rest := []) ⟨hx, hb, hml, hown, hts⟩ (c_X6_isMissing_0 l D cI cS h26 h42) hKK hPc (ci := 6) rfl rfl (cwV 0 hts gX11_refusalOfSheet_X6_isMissing rfl rfl rfl (by decide +kernel) ⟨Nat.le_of_ble_eq_true rfl, Nat.le_of_ble_eq_true rfl⟩) rfl hl.1 rfl (Nat.le_of_ble_eq_true rfl) dX11_refusalOfSheet_16 ⟨Nat.le_of_ble_eq_true rfl, Nat.le_of_ble_eq_true rfl⟩ (fun r3180 hw => ?_)
            subst hw
            refine lv_if_eq (tgt := 27) hx hb dX11_refusalOfSheet_19 (by decide) (fun c3181 => ?_) (fun c3181 => ?_)
            · exact absurd c3181 (by decide)
            · refine lv_bipush (v := (-11)) hx hb dX11_refusalOfSheet_22 (by decide) ?_
              refine lv_goto (tgt := 28) hx hb dX11_refusalOfSheet_24 (by decide) ?_
              exact W.iret (v := (-11)) hx hb hr (fun t ht hW => ⟨_, rfl, by rw [if_neg k3171, if_neg k3173], ht⟩) (fun q hq => absurd hq List.not_mem_nil) dX11_refusalOfSheet_28
          · by_cases k3182 : x0 = 2
            · subst k3182
              refine va_aldq hx hb hK hP 1 1 rfl rfl (lz_vp (x := 2) (n := 4) (by decide) (by decide)) dX11_refusalOfSheet_15 ?_
              refine lz_va (y := .ref h27) rfl ?_
              have hPc := hP.sub (ws' := [(h27, .inr (6, [.ref h43, .int (-1), .int 0]))]) [4] rfl
              refine lz_sv (As := []) (rest := []) ⟨hx, hb, hml, hown, hts⟩ (c_X6_isMissing_0 l D cI cS h27 h43) hKK hPc (ci := 6) rfl rfl (cwV 0 hts gX11_refusalOfSheet_X6_isMissing rfl rfl rfl (by decide +kernel) ⟨Nat.le_of_ble_eq_true rfl, Nat.le_of_ble_eq_true rfl⟩) rfl hl.1 rfl (Nat.le_of_ble_eq_true rfl) dX11_refusalOfSheet_16 ⟨Nat.le_of_ble_eq_true rfl, Nat.le_of_ble_eq_true rfl⟩ (fun r3183 hw => ?_)
              subst hw
              refine lv_if_eq (tgt := 27) hx hb dX11_refusalOfSheet_19 (by decide) (fun c3184 => ?_) (fun c3184 => ?_)
              · exact absurd c3184 (by decide)
              · refine lv_bipush (v := (-11)) hx hb dX11_refusalOfSheet_22 (by decide) ?_
                refine lv_goto (tgt := 28) hx hb dX11_refusalOfSheet_24 (by decide) ?_
                exact W.iret (v := (-11)) hx hb hr (fun t ht hW => ⟨_, rfl, by rw [if_neg k3171, if_neg k3173], ht⟩) (fun q hq => absurd hq List.not_mem_nil) dX11_refusalOfSheet_28
            · obtain rfl : x0 = 3 := by have zf1 := mt (lz_lt x0 (0 : Int32)).mpr k3171; have zf2 := mt (lz_le (4 : Int32) x0).mpr k3173; have zf3 := mt (lz_eq x0 (0 : Int32)).mpr k3176; have zf4 := mt (lz_eq x0 (1 : Int32)).mpr k3179; have zf5 := mt (lz_eq x0 (2 : Int32)).mpr k3182; have zn0 : (0 : Int32).toInt = 0 := (by decide); have zn1 : (1 : Int32).toInt = 1 := (by decide); have zn2 : (2 : Int32).toInt = 2 := (by decide); have zn3 : (3 : Int32).toInt = 3 := (by decide); have zn4 : (4 : Int32).toInt = 4 := (by decide); rw [lz_eq]; omega
              refine va_aldq hx hb hK hP 1 1 rfl rfl (lz_vp (x := 3) (n := 4) (by decide) (by decide)) dX11_refusalOfSheet_15 ?_
              refine lz_va (y := .ref h28) rfl ?_
              have hPc := hP.sub (ws' := [(h28, .inr (6, [.ref h44, .int (-1), .int 0]))]) [5] rfl
              refine lz_sv (As := []) (rest := []) ⟨hx, hb, hml, hown, hts⟩ (c_X6_isMissing_0 l D cI cS h28 h44) hKK hPc (ci := 6) rfl rfl (cwV 0 hts gX11_refusalOfSheet_X6_isMissing rfl rfl rfl (by decide +kernel) ⟨Nat.le_of_ble_eq_true rfl, Nat.le_of_ble_eq_true rfl⟩) rfl hl.1 rfl (Nat.le_of_ble_eq_true rfl) dX11_refusalOfSheet_16 ⟨Nat.le_of_ble_eq_true rfl, Nat.le_of_ble_eq_true rfl⟩ (fun r3185 hw => ?_)
              subst hw
              refine lv_if_eq (tgt := 27) hx hb dX11_refusalOfSheet_19 (by decide) (fun c3186 => ?_) (fun c3186 => ?_)
              · exact absurd c3186 (by decide)
              · refine lv_bipush (v := (-11)) hx hb dX11_refusalOfSheet_22 (by decide) ?_
                refine lv_goto (tgt := 28) hx hb dX11_refusalOfSheet_24 (by decide) ?_
                exact W.iret (v := (-11)) hx hb hr (fun t ht hW => ⟨_, rfl, by rw [if_neg k3171, if_neg k3173], ht⟩) (fun q hq => absurd hq List.not_mem_nil) dX11_refusalOfSheet_28
      · exact absurd c3175 (by decide)
set_option maxHeartbeats 4000000 in
set_option maxRecDepth 100000 in
theorem c_X11_isTold_0 (l : Launch) (D : va_G) (cI cS : ClassId) (h0 h1 h2 h3 h4 h5 h6 h7 h8 h9 h10 h11 h12 h13 h14 h25 h26 h27 h28 h41 h42 h43 h44 : Nat) (x0 : Int32) : Met l yX11_isTold wsX11_isTold ({ frames := 2, cells := 0, slots := 0, locals := 80 }) (PS D cI cS [(h0, .inr (11, [.ref h1, .ref h2, .ref h3, .ref h4, .ref h5, .ref h6, .ref h7, .int 0, .int 0, .ref h8, .ref h9, .ref h10, .ref h11, .ref h12, .ref h13, .ref h14])), (h11, .inl (cS, 4, .inr (.inr (.inr (.inr (fun k => [h25, h26, h27, h28][k]?)))))), (h25, .inr (6, [.ref h41, .int (-1), .int 0])), (h26, .inr (6, [.ref h42, .int (-1), .int 0])), (h27, .inr (6, [.ref h43, .int (-1), .int 0])), (h28, .inr (6, [.ref h44, .int (-1), .int 0]))] [.ref h0, .int x0]) (vp_Si (fun r => r = if x0 < 0 then ((-2) : Int32) else (if (4 : Int32) ≤ x0 then ((-2) : Int32) else ((-11) : Int32)))) 0 0 (fun _ => False) := by
  refine Met.ofW (cc := cX11_isTold) (maxL := 3) (ret := (some .int)) (by decide) rfl ?_
  intro p e s m args below meth c s₁ B hml hv
  obtain ⟨rfl, hP, hKK⟩ := hv
  have hx := B.exec
  have hb := B.bytes
  have hr := B.returns
  have hts := atoms_spec (ws := wsX11_isTold) B.pre
  have hown : s.vm.findClass RX11 = some m.cls := findClass_of_methodNamed B.named
  have hlocks := B.notSynchronized
  have hK := hKK.1
  have hN := hKK.2
  have hl := lv_entry ([.ref h0, .int x0]) (n := 3) (Nat.le_of_ble_eq_true rfl)
  rw [lg_entry_eq]
  generalize (lg_sl ([.ref h0, .int x0]) ++ List.replicate (3 - (lg_sl ([.ref h0, .int x0])).length) Slot.unset).toArray = ls at hl ⊢
  have hl : lv_has ls 3 [(0, .ref h0), (1, .int x0)] := hl
  refine lv_aload_n hx hb dX11_isTold_0 rfl (lv_at hl 0 rfl) ?_
  refine lv_iload_n hx hb dX11_isTold_1 rfl (lv_at hl 1 rfl) ?_
  have hPc := hP.sub (ws' := [(h0, .inr (11, [.ref h1, .ref h2, .ref h3, .ref h4, .ref h5, .ref h6, .ref h7, .int 0, .int 0, .ref h8, .ref h9, .ref h10, .ref h11, .ref h12, .ref h13, .ref h14])), (h11, .inl (cS, 4, .inr (.inr (.inr (.inr (fun k => [h25, h26, h27, h28][k]?)))))), (h25, .inr (6, [.ref h41, .int (-1), .int 0])), (h26, .inr (6, [.ref h42, .int (-1), .int 0])), (h27, .inr (6, [.ref h43, .int (-1), .int 0])), (h28, .inr (6, [.ref h44, .int (-1), .int 0]))]) [0, 1, 2, 3, 4, 5] rfl
  refine lz_sv (As := [.int x0]) (rest := []) ⟨hx, hb, hml, hown, hts⟩ (c_X11_refusalOfSheet_0 l D cI cS h0 h1 h2 h3 h4 h5 h6 h7 h8 h9 h10 h11 h12 h13 h14 h25 h26 h27 h28 h41 h42 h43 h44 x0) hKK hPc (ci := 11) rfl rfl (cwV 1 hts gX11_isTold_X11_refusalOfSheet rfl rfl rfl (by decide +kernel) ⟨Nat.le_of_ble_eq_true rfl, Nat.le_of_ble_eq_true rfl⟩) rfl hl.1 rfl (Nat.le_of_ble_eq_true rfl) dX11_isTold_2 ⟨Nat.le_of_ble_eq_true rfl, Nat.le_of_ble_eq_true rfl⟩ (fun r3193 hw => ?_)
  by_cases k3194 : x0 < 0
  · rw [if_pos k3194] at hw
    subst hw
    refine lv_istore_n (lv' := [(2, .int (-2)), (0, .ref h0), (1, .int x0)]) hx hb dX11_isTold_5 rfl hl (by decide) rfl (fun ls hl => ?_)
    refine lv_iload_n hx hb dX11_isTold_6 rfl (lv_at hl 0 rfl) ?_
    refine lv_if_eq (tgt := 12) hx hb dX11_isTold_7 (by decide) (fun c3195 => ?_) (fun c3195 => ?_)
    · exact absurd c3195 (by decide)
    · refine lv_iload_n hx hb dX11_isTold_10 rfl (lv_at hl 0 rfl) ?_
      exact W.iret (v := (-2)) hx hb hr (fun t ht hW => ⟨_, rfl, by rw [if_pos k3194], ht⟩) (fun q hq => absurd hq List.not_mem_nil) dX11_isTold_11
  · rw [if_neg k3194] at hw
    by_cases k3196 : (4 : Int32) ≤ x0
    · rw [if_pos k3196] at hw
      subst hw
      refine lv_istore_n (lv' := [(2, .int (-2)), (0, .ref h0), (1, .int x0)]) hx hb dX11_isTold_5 rfl hl (by decide) rfl (fun ls hl => ?_)
      refine lv_iload_n hx hb dX11_isTold_6 rfl (lv_at hl 0 rfl) ?_
      refine lv_if_eq (tgt := 12) hx hb dX11_isTold_7 (by decide) (fun c3197 => ?_) (fun c3197 => ?_)
      · exact absurd c3197 (by decide)
      · refine lv_iload_n hx hb dX11_isTold_10 rfl (lv_at hl 0 rfl) ?_
        exact W.iret (v := (-2)) hx hb hr (fun t ht hW => ⟨_, rfl, by rw [if_neg k3194, if_pos k3196], ht⟩) (fun q hq => absurd hq List.not_mem_nil) dX11_isTold_11
    · rw [if_neg k3196] at hw
      subst hw
      refine lv_istore_n (lv' := [(2, .int (-11)), (0, .ref h0), (1, .int x0)]) hx hb dX11_isTold_5 rfl hl (by decide) rfl (fun ls hl => ?_)
      refine lv_iload_n hx hb dX11_isTold_6 rfl (lv_at hl 0 rfl) ?_
      refine lv_if_eq (tgt := 12) hx hb dX11_isTold_7 (by decide) (fun c3198 => ?_) (fun c3198 => ?_)
      · exact absurd c3198 (by decide)
      · refine lv_iload_n hx hb dX11_isTold_10 rfl (lv_at hl 0 rfl) ?_
        exact W.iret (v := (-11)) hx hb hr (fun t ht hW => ⟨_, rfl, by rw [if_neg k3194, if_neg k3196], ht⟩) (fun q hq => absurd hq List.not_mem_nil) dX11_isTold_11
set_option maxHeartbeats 4000000 in
set_option maxRecDepth 100000 in
theorem c_X11_refusalOfTold_0 (l : Launch) (D : va_G) (cI cS : ClassId) (h0 h1 h2 h3 h4 h5 h6 h7 h8 h9 h10 h11 h12 h13 h14 h25 h26 h27 h28 h41 h42 h43 h44 : Nat) (x0 : Int32) : Met l yX11_refusalOfTold wsX11_refusalOfTold ({ frames := 2, cells := 0, slots := 0, locals := 80 }) (PS D cI cS [(h0, .inr (11, [.ref h1, .ref h2, .ref h3, .ref h4, .ref h5, .ref h6, .ref h7, .int 0, .int 0, .ref h8, .ref h9, .ref h10, .ref h11, .ref h12, .ref h13, .ref h14])), (h11, .inl (cS, 4, .inr (.inr (.inr (.inr (fun k => [h25, h26, h27, h28][k]?)))))), (h25, .inr (6, [.ref h41, .int (-1), .int 0])), (h26, .inr (6, [.ref h42, .int (-1), .int 0])), (h27, .inr (6, [.ref h43, .int (-1), .int 0])), (h28, .inr (6, [.ref h44, .int (-1), .int 0]))] [.ref h0, .int x0]) (vp_Si (fun r => r = if x0 < 0 then ((-2) : Int32) else (if (4 : Int32) ≤ x0 then ((-2) : Int32) else ((-11) : Int32)))) 0 0 (fun _ => False) := by
  refine Met.ofW (cc := cX11_refusalOfTold) (maxL := 3) (ret := (some .int)) (by decide) rfl ?_
  intro p e s m args below meth c s₁ B hml hv
  obtain ⟨rfl, hP, hKK⟩ := hv
  have hx := B.exec
  have hb := B.bytes
  have hr := B.returns
  have hts := atoms_spec (ws := wsX11_refusalOfTold) B.pre
  have hown : s.vm.findClass RX11 = some m.cls := findClass_of_methodNamed B.named
  have hlocks := B.notSynchronized
  have hK := hKK.1
  have hN := hKK.2
  have hl := lv_entry ([.ref h0, .int x0]) (n := 3) (Nat.le_of_ble_eq_true rfl)
  rw [lg_entry_eq]
  generalize (lg_sl ([.ref h0, .int x0]) ++ List.replicate (3 - (lg_sl ([.ref h0, .int x0])).length) Slot.unset).toArray = ls at hl ⊢
  have hl : lv_has ls 3 [(0, .ref h0), (1, .int x0)] := hl
  refine lv_aload_n hx hb dX11_refusalOfTold_0 rfl (lv_at hl 0 rfl) ?_
  refine lv_iload_n hx hb dX11_refusalOfTold_1 rfl (lv_at hl 1 rfl) ?_
  have hPc := hP.sub (ws' := [(h0, .inr (11, [.ref h1, .ref h2, .ref h3, .ref h4, .ref h5, .ref h6, .ref h7, .int 0, .int 0, .ref h8, .ref h9, .ref h10, .ref h11, .ref h12, .ref h13, .ref h14])), (h11, .inl (cS, 4, .inr (.inr (.inr (.inr (fun k => [h25, h26, h27, h28][k]?)))))), (h25, .inr (6, [.ref h41, .int (-1), .int 0])), (h26, .inr (6, [.ref h42, .int (-1), .int 0])), (h27, .inr (6, [.ref h43, .int (-1), .int 0])), (h28, .inr (6, [.ref h44, .int (-1), .int 0]))]) [0, 1, 2, 3, 4, 5] rfl
  refine lz_sv (As := [.int x0]) (rest := []) ⟨hx, hb, hml, hown, hts⟩ (c_X11_refusalOfSheet_0 l D cI cS h0 h1 h2 h3 h4 h5 h6 h7 h8 h9 h10 h11 h12 h13 h14 h25 h26 h27 h28 h41 h42 h43 h44 x0) hKK hPc (ci := 11) rfl rfl (cwV 1 hts gX11_refusalOfTold_X11_refusalOfSheet rfl rfl rfl (by decide +kernel) ⟨Nat.le_of_ble_eq_true rfl, Nat.le_of_ble_eq_true rfl⟩) rfl hl.1 rfl (Nat.le_of_ble_eq_true rfl) dX11_refusalOfTold_2 ⟨Nat.le_of_ble_eq_true rfl, Nat.le_of_ble_eq_true rfl⟩ (fun r3205 hw => ?_)
  by_cases k3206 : x0 < 0
  · rw [if_pos k3206] at hw
    subst hw
    refine lv_istore_n (lv' := [(2, .int (-2)), (0, .ref h0), (1, .int x0)]) hx hb dX11_refusalOfTold_5 rfl hl (by decide) rfl (fun ls hl => ?_)
    refine lv_iload_n hx hb dX11_refusalOfTold_6 rfl (lv_at hl 0 rfl) ?_
    refine lv_if_eq (tgt := 12) hx hb dX11_refusalOfTold_7 (by decide) (fun c3207 => ?_) (fun c3207 => ?_)
    · exact absurd c3207 (by decide)
    · refine lv_iload_n hx hb dX11_refusalOfTold_10 rfl (lv_at hl 0 rfl) ?_
      exact W.iret (v := (-2)) hx hb hr (fun t ht hW => ⟨_, rfl, by rw [if_pos k3206], ht⟩) (fun q hq => absurd hq List.not_mem_nil) dX11_refusalOfTold_11
  · rw [if_neg k3206] at hw
    by_cases k3208 : (4 : Int32) ≤ x0
    · rw [if_pos k3208] at hw
      subst hw
      refine lv_istore_n (lv' := [(2, .int (-2)), (0, .ref h0), (1, .int x0)]) hx hb dX11_refusalOfTold_5 rfl hl (by decide) rfl (fun ls hl => ?_)
      refine lv_iload_n hx hb dX11_refusalOfTold_6 rfl (lv_at hl 0 rfl) ?_
      refine lv_if_eq (tgt := 12) hx hb dX11_refusalOfTold_7 (by decide) (fun c3209 => ?_) (fun c3209 => ?_)
      · exact absurd c3209 (by decide)
      · refine lv_iload_n hx hb dX11_refusalOfTold_10 rfl (lv_at hl 0 rfl) ?_
        exact W.iret (v := (-2)) hx hb hr (fun t ht hW => ⟨_, rfl, by rw [if_neg k3206, if_pos k3208], ht⟩) (fun q hq => absurd hq List.not_mem_nil) dX11_refusalOfTold_11
    · rw [if_neg k3208] at hw
      subst hw
      refine lv_istore_n (lv' := [(2, .int (-11)), (0, .ref h0), (1, .int x0)]) hx hb dX11_refusalOfTold_5 rfl hl (by decide) rfl (fun ls hl => ?_)
      refine lv_iload_n hx hb dX11_refusalOfTold_6 rfl (lv_at hl 0 rfl) ?_
      refine lv_if_eq (tgt := 12) hx hb dX11_refusalOfTold_7 (by decide) (fun c3210 => ?_) (fun c3210 => ?_)
      · exact absurd c3210 (by decide)
      · refine lv_iload_n hx hb dX11_refusalOfTold_10 rfl (lv_at hl 0 rfl) ?_
        exact W.iret (v := (-11)) hx hb hr (fun t ht hW => ⟨_, rfl, by rw [if_neg k3206, if_neg k3208], ht⟩) (fun q hq => absurd hq List.not_mem_nil) dX11_refusalOfTold_11
set_option maxHeartbeats 4000000 in
set_option maxRecDepth 100000 in
theorem c_X11_misses_0 (l : Launch) (D : va_G) (cI cS : ClassId) (h0 h1 h2 h3 h4 h5 h6 h7 h8 h9 h10 h11 h12 h13 h14 h25 h26 h27 h28 h41 h42 h43 h44 : Nat) (x0 : Int32) : Met l yX11_misses wsX11_misses ({ frames := 3, cells := 0, slots := 0, locals := 120 }) (PS D cI cS [(h0, .inr (11, [.ref h1, .ref h2, .ref h3, .ref h4, .ref h5, .ref h6, .ref h7, .int 0, .int 0, .ref h8, .ref h9, .ref h10, .ref h11, .ref h12, .ref h13, .ref h14])), (h11, .inl (cS, 4, .inr (.inr (.inr (.inr (fun k => [h25, h26, h27, h28][k]?)))))), (h25, .inr (6, [.ref h41, .int (-1), .int 0])), (h26, .inr (6, [.ref h42, .int (-1), .int 0])), (h27, .inr (6, [.ref h43, .int (-1), .int 0])), (h28, .inr (6, [.ref h44, .int (-1), .int 0]))] [.ref h0, .int x0]) (vp_Si (fun r => r = if x0 < 0 then ((-2) : Int32) else (if (4 : Int32) ≤ x0 then ((-2) : Int32) else ((-11) : Int32)))) 0 0 (fun _ => False) := by
  refine Met.ofW (cc := cX11_misses) (maxL := 3) (ret := (some .int)) (by decide) rfl ?_
  intro p e s m args below meth c s₁ B hml hv
  obtain ⟨rfl, hP, hKK⟩ := hv
  have hx := B.exec
  have hb := B.bytes
  have hr := B.returns
  have hts := atoms_spec (ws := wsX11_misses) B.pre
  have hown : s.vm.findClass RX11 = some m.cls := findClass_of_methodNamed B.named
  have hlocks := B.notSynchronized
  have hK := hKK.1
  have hN := hKK.2
  have hl := lv_entry ([.ref h0, .int x0]) (n := 3) (Nat.le_of_ble_eq_true rfl)
  rw [lg_entry_eq]
  generalize (lg_sl ([.ref h0, .int x0]) ++ List.replicate (3 - (lg_sl ([.ref h0, .int x0])).length) Slot.unset).toArray = ls at hl ⊢
  have hl : lv_has ls 3 [(0, .ref h0), (1, .int x0)] := hl
  refine lv_aload_n hx hb dX11_misses_0 rfl (lv_at hl 0 rfl) ?_
  refine lv_iload_n hx hb dX11_misses_1 rfl (lv_at hl 1 rfl) ?_
  have hPc := hP.sub (ws' := [(h0, .inr (11, [.ref h1, .ref h2, .ref h3, .ref h4, .ref h5, .ref h6, .ref h7, .int 0, .int 0, .ref h8, .ref h9, .ref h10, .ref h11, .ref h12, .ref h13, .ref h14])), (h11, .inl (cS, 4, .inr (.inr (.inr (.inr (fun k => [h25, h26, h27, h28][k]?)))))), (h25, .inr (6, [.ref h41, .int (-1), .int 0])), (h26, .inr (6, [.ref h42, .int (-1), .int 0])), (h27, .inr (6, [.ref h43, .int (-1), .int 0])), (h28, .inr (6, [.ref h44, .int (-1), .int 0]))]) [0, 1, 2, 3, 4, 5] rfl
  refine lz_sv (As := [.int x0]) (rest := []) ⟨hx, hb, hml, hown, hts⟩ (c_X11_refusalOfTold_0 l D cI cS h0 h1 h2 h3 h4 h5 h6 h7 h8 h9 h10 h11 h12 h13 h14 h25 h26 h27 h28 h41 h42 h43 h44 x0) hKK hPc (ci := 11) rfl rfl (cwV 1 hts gX11_misses_X11_refusalOfTold rfl rfl rfl (by decide +kernel) ⟨Nat.le_of_ble_eq_true rfl, Nat.le_of_ble_eq_true rfl⟩) rfl hl.1 rfl (Nat.le_of_ble_eq_true rfl) dX11_misses_2 ⟨Nat.le_of_ble_eq_true rfl, Nat.le_of_ble_eq_true rfl⟩ (fun r3217 hw => ?_)
  by_cases k3218 : x0 < 0
  · rw [if_pos k3218] at hw
    subst hw
    refine lv_istore_n (lv' := [(2, .int (-2)), (0, .ref h0), (1, .int x0)]) hx hb dX11_misses_5 rfl hl (by decide) rfl (fun ls hl => ?_)
    refine lv_iload_n hx hb dX11_misses_6 rfl (lv_at hl 0 rfl) ?_
    refine lv_if_eq (tgt := 14) hx hb dX11_misses_7 (by decide) (fun c3219 => ?_) (fun c3219 => ?_)
    · exact absurd c3219 (by decide)
    · refine lv_iload_n hx hb dX11_misses_10 rfl (lv_at hl 0 rfl) ?_
      refine lv_goto (tgt := 21) hx hb dX11_misses_11 (by decide) ?_
      exact W.iret (v := (-2)) hx hb hr (fun t ht hW => ⟨_, rfl, by rw [if_pos k3218], ht⟩) (fun q hq => absurd hq List.not_mem_nil) dX11_misses_21
  · rw [if_neg k3218] at hw
    by_cases k3220 : (4 : Int32) ≤ x0
    · rw [if_pos k3220] at hw
      subst hw
      refine lv_istore_n (lv' := [(2, .int (-2)), (0, .ref h0), (1, .int x0)]) hx hb dX11_misses_5 rfl hl (by decide) rfl (fun ls hl => ?_)
      refine lv_iload_n hx hb dX11_misses_6 rfl (lv_at hl 0 rfl) ?_
      refine lv_if_eq (tgt := 14) hx hb dX11_misses_7 (by decide) (fun c3221 => ?_) (fun c3221 => ?_)
      · exact absurd c3221 (by decide)
      · refine lv_iload_n hx hb dX11_misses_10 rfl (lv_at hl 0 rfl) ?_
        refine lv_goto (tgt := 21) hx hb dX11_misses_11 (by decide) ?_
        exact W.iret (v := (-2)) hx hb hr (fun t ht hW => ⟨_, rfl, by rw [if_neg k3218, if_pos k3220], ht⟩) (fun q hq => absurd hq List.not_mem_nil) dX11_misses_21
    · rw [if_neg k3220] at hw
      subst hw
      refine lv_istore_n (lv' := [(2, .int (-11)), (0, .ref h0), (1, .int x0)]) hx hb dX11_misses_5 rfl hl (by decide) rfl (fun ls hl => ?_)
      refine lv_iload_n hx hb dX11_misses_6 rfl (lv_at hl 0 rfl) ?_
      refine lv_if_eq (tgt := 14) hx hb dX11_misses_7 (by decide) (fun c3222 => ?_) (fun c3222 => ?_)
      · exact absurd c3222 (by decide)
      · refine lv_iload_n hx hb dX11_misses_10 rfl (lv_at hl 0 rfl) ?_
        refine lv_goto (tgt := 21) hx hb dX11_misses_11 (by decide) ?_
        exact W.iret (v := (-11)) hx hb hr (fun t ht hW => ⟨_, rfl, by rw [if_neg k3218, if_neg k3220], ht⟩) (fun q hq => absurd hq List.not_mem_nil) dX11_misses_21
set_option maxHeartbeats 4000000 in
set_option maxRecDepth 100000 in
theorem c_X11_way_0 (l : Launch) (D : va_G) (cI cS : ClassId) (h0 h1 h2 h3 h4 h5 h6 h7 h8 h9 h10 h11 h12 h13 h14 h25 h26 h27 h28 h41 h42 h43 h44 : Nat) (x0 x1 : Int32) : Met l yX11_way wsX11_way ({ frames := 3, cells := 0, slots := 0, locals := 120 }) (PS D cI cS [(h0, .inr (11, [.ref h1, .ref h2, .ref h3, .ref h4, .ref h5, .ref h6, .ref h7, .int 0, .int 0, .ref h8, .ref h9, .ref h10, .ref h11, .ref h12, .ref h13, .ref h14])), (h11, .inl (cS, 4, .inr (.inr (.inr (.inr (fun k => [h25, h26, h27, h28][k]?)))))), (h25, .inr (6, [.ref h41, .int (-1), .int 0])), (h26, .inr (6, [.ref h42, .int (-1), .int 0])), (h27, .inr (6, [.ref h43, .int (-1), .int 0])), (h28, .inr (6, [.ref h44, .int (-1), .int 0]))] [.ref h0, .int x0, .int x1]) (vp_Si (fun r => r = if x0 < 0 then ((-2) : Int32) else (if (4 : Int32) ≤ x0 then ((-2) : Int32) else ((-11) : Int32)))) 0 0 (fun _ => False) := by
  refine Met.ofW (cc := cX11_way) (maxL := 5) (ret := (some .int)) (by decide) rfl ?_
  intro p e s m args below meth c s₁ B hml hv
  obtain ⟨rfl, hP, hKK⟩ := hv
  have hx := B.exec
  have hb := B.bytes
  have hr := B.returns
  have hts := atoms_spec (ws := wsX11_way) B.pre
  have hown : s.vm.findClass RX11 = some m.cls := findClass_of_methodNamed B.named
  have hlocks := B.notSynchronized
  have hK := hKK.1
  have hN := hKK.2
  have hl := lv_entry ([.ref h0, .int x0, .int x1]) (n := 5) (Nat.le_of_ble_eq_true rfl)
  rw [lg_entry_eq]
  generalize (lg_sl ([.ref h0, .int x0, .int x1]) ++ List.replicate (5 - (lg_sl ([.ref h0, .int x0, .int x1])).length) Slot.unset).toArray = ls at hl ⊢
  have hl : lv_has ls 5 [(0, .ref h0), (1, .int x0), (2, .int x1)] := hl
  refine lv_aload_n hx hb dX11_way_0 rfl (lv_at hl 0 rfl) ?_
  refine lv_iload_n hx hb dX11_way_1 rfl (lv_at hl 1 rfl) ?_
  have hPc := hP.sub (ws' := [(h0, .inr (11, [.ref h1, .ref h2, .ref h3, .ref h4, .ref h5, .ref h6, .ref h7, .int 0, .int 0, .ref h8, .ref h9, .ref h10, .ref h11, .ref h12, .ref h13, .ref h14])), (h11, .inl (cS, 4, .inr (.inr (.inr (.inr (fun k => [h25, h26, h27, h28][k]?)))))), (h25, .inr (6, [.ref h41, .int (-1), .int 0])), (h26, .inr (6, [.ref h42, .int (-1), .int 0])), (h27, .inr (6, [.ref h43, .int (-1), .int 0])), (h28, .inr (6, [.ref h44, .int (-1), .int 0]))]) [0, 1, 2, 3, 4, 5] rfl
  refine lz_sv (As := [.int x0]) (rest := []) ⟨hx, hb, hml, hown, hts⟩ (c_X11_refusalOfTold_0 l D cI cS h0 h1 h2 h3 h4 h5 h6 h7 h8 h9 h10 h11 h12 h13 h14 h25 h26 h27 h28 h41 h42 h43 h44 x0) hKK hPc (ci := 11) rfl rfl (cwV 1 hts gX11_way_X11_refusalOfTold rfl rfl rfl (by decide +kernel) ⟨Nat.le_of_ble_eq_true rfl, Nat.le_of_ble_eq_true rfl⟩) rfl hl.1 rfl (Nat.le_of_ble_eq_true rfl) dX11_way_2 ⟨Nat.le_of_ble_eq_true rfl, Nat.le_of_ble_eq_true rfl⟩ (fun r3229 hw => ?_)
  by_cases k3230 : x0 < 0
  · rw [if_pos k3230] at hw
    subst hw
    refine lv_istore_n (lv' := [(3, .int (-2)), (0, .ref h0), (1, .int x0), (2, .int x1)]) hx hb dX11_way_5 rfl hl (by decide) rfl (fun ls hl => ?_)
    refine lv_iload_n hx hb dX11_way_6 rfl (lv_at hl 0 rfl) ?_
    refine lv_if_eq (tgt := 12) hx hb dX11_way_7 (by decide) (fun c3231 => ?_) (fun c3231 => ?_)
    · exact absurd c3231 (by decide)
    · refine lv_iload_n hx hb dX11_way_10 rfl (lv_at hl 0 rfl) ?_
      exact W.iret (v := (-2)) hx hb hr (fun t ht hW => ⟨_, rfl, by rw [if_pos k3230], ht⟩) (fun q hq => absurd hq List.not_mem_nil) dX11_way_11
  · rw [if_neg k3230] at hw
    by_cases k3232 : (4 : Int32) ≤ x0
    · rw [if_pos k3232] at hw
      subst hw
      refine lv_istore_n (lv' := [(3, .int (-2)), (0, .ref h0), (1, .int x0), (2, .int x1)]) hx hb dX11_way_5 rfl hl (by decide) rfl (fun ls hl => ?_)
      refine lv_iload_n hx hb dX11_way_6 rfl (lv_at hl 0 rfl) ?_
      refine lv_if_eq (tgt := 12) hx hb dX11_way_7 (by decide) (fun c3233 => ?_) (fun c3233 => ?_)
      · exact absurd c3233 (by decide)
      · refine lv_iload_n hx hb dX11_way_10 rfl (lv_at hl 0 rfl) ?_
        exact W.iret (v := (-2)) hx hb hr (fun t ht hW => ⟨_, rfl, by rw [if_neg k3230, if_pos k3232], ht⟩) (fun q hq => absurd hq List.not_mem_nil) dX11_way_11
    · rw [if_neg k3232] at hw
      subst hw
      refine lv_istore_n (lv' := [(3, .int (-11)), (0, .ref h0), (1, .int x0), (2, .int x1)]) hx hb dX11_way_5 rfl hl (by decide) rfl (fun ls hl => ?_)
      refine lv_iload_n hx hb dX11_way_6 rfl (lv_at hl 0 rfl) ?_
      refine lv_if_eq (tgt := 12) hx hb dX11_way_7 (by decide) (fun c3234 => ?_) (fun c3234 => ?_)
      · exact absurd c3234 (by decide)
      · refine lv_iload_n hx hb dX11_way_10 rfl (lv_at hl 0 rfl) ?_
        exact W.iret (v := (-11)) hx hb hr (fun t ht hW => ⟨_, rfl, by rw [if_neg k3230, if_neg k3232], ht⟩) (fun q hq => absurd hq List.not_mem_nil) dX11_way_11
set_option maxHeartbeats 4000000 in
set_option maxRecDepth 100000 in
theorem c_X11_grow_0 (l : Launch) (D : va_G) (cI cS : ClassId) (h0 h1 h2 h3 h4 h5 h6 h7 h8 h9 h10 h11 h12 h13 h14 h25 h26 h27 h28 h41 h42 h43 h44 : Nat) (x0 : Int32) : Met l yX11_grow wsX11_grow ({ frames := 3, cells := 0, slots := 0, locals := 120 }) (PS D cI cS [(h0, .inr (11, [.ref h1, .ref h2, .ref h3, .ref h4, .ref h5, .ref h6, .ref h7, .int 0, .int 0, .ref h8, .ref h9, .ref h10, .ref h11, .ref h12, .ref h13, .ref h14])), (h11, .inl (cS, 4, .inr (.inr (.inr (.inr (fun k => [h25, h26, h27, h28][k]?)))))), (h25, .inr (6, [.ref h41, .int (-1), .int 0])), (h26, .inr (6, [.ref h42, .int (-1), .int 0])), (h27, .inr (6, [.ref h43, .int (-1), .int 0])), (h28, .inr (6, [.ref h44, .int (-1), .int 0]))] [.ref h0, .int x0]) (vp_Si (fun r => r = if x0 < 0 then ((-2) : Int32) else (if (4 : Int32) ≤ x0 then ((-2) : Int32) else ((-11) : Int32)))) 0 0 (fun _ => False) := by
  refine Met.ofW (cc := cX11_grow) (maxL := 3) (ret := (some .int)) (by decide) rfl ?_
  intro p e s m args below meth c s₁ B hml hv
  obtain ⟨rfl, hP, hKK⟩ := hv
  have hx := B.exec
  have hb := B.bytes
  have hr := B.returns
  have hts := atoms_spec (ws := wsX11_grow) B.pre
  have hown : s.vm.findClass RX11 = some m.cls := findClass_of_methodNamed B.named
  have hlocks := B.notSynchronized
  have hK := hKK.1
  have hN := hKK.2
  have hl := lv_entry ([.ref h0, .int x0]) (n := 3) (Nat.le_of_ble_eq_true rfl)
  rw [lg_entry_eq]
  generalize (lg_sl ([.ref h0, .int x0]) ++ List.replicate (3 - (lg_sl ([.ref h0, .int x0])).length) Slot.unset).toArray = ls at hl ⊢
  have hl : lv_has ls 3 [(0, .ref h0), (1, .int x0)] := hl
  refine lv_aload_n hx hb dX11_grow_0 rfl (lv_at hl 0 rfl) ?_
  refine lv_iload_n hx hb dX11_grow_1 rfl (lv_at hl 1 rfl) ?_
  have hPc := hP.sub (ws' := [(h0, .inr (11, [.ref h1, .ref h2, .ref h3, .ref h4, .ref h5, .ref h6, .ref h7, .int 0, .int 0, .ref h8, .ref h9, .ref h10, .ref h11, .ref h12, .ref h13, .ref h14])), (h11, .inl (cS, 4, .inr (.inr (.inr (.inr (fun k => [h25, h26, h27, h28][k]?)))))), (h25, .inr (6, [.ref h41, .int (-1), .int 0])), (h26, .inr (6, [.ref h42, .int (-1), .int 0])), (h27, .inr (6, [.ref h43, .int (-1), .int 0])), (h28, .inr (6, [.ref h44, .int (-1), .int 0]))]) [0, 1, 2, 3, 4, 5] rfl
  refine lz_sv (As := [.int x0]) (rest := []) ⟨hx, hb, hml, hown, hts⟩ (c_X11_refusalOfTold_0 l D cI cS h0 h1 h2 h3 h4 h5 h6 h7 h8 h9 h10 h11 h12 h13 h14 h25 h26 h27 h28 h41 h42 h43 h44 x0) hKK hPc (ci := 11) rfl rfl (cwV 1 hts gX11_grow_X11_refusalOfTold rfl rfl rfl (by decide +kernel) ⟨Nat.le_of_ble_eq_true rfl, Nat.le_of_ble_eq_true rfl⟩) rfl hl.1 rfl (Nat.le_of_ble_eq_true rfl) dX11_grow_2 ⟨Nat.le_of_ble_eq_true rfl, Nat.le_of_ble_eq_true rfl⟩ (fun r3241 hw => ?_)
  by_cases k3242 : x0 < 0
  · rw [if_pos k3242] at hw
    subst hw
    refine lv_istore_n (lv' := [(2, .int (-2)), (0, .ref h0), (1, .int x0)]) hx hb dX11_grow_5 rfl hl (by decide) rfl (fun ls hl => ?_)
    refine lv_iload_n hx hb dX11_grow_6 rfl (lv_at hl 0 rfl) ?_
    refine lv_if_eq (tgt := 12) hx hb dX11_grow_7 (by decide) (fun c3243 => ?_) (fun c3243 => ?_)
    · exact absurd c3243 (by decide)
    · refine lv_iload_n hx hb dX11_grow_10 rfl (lv_at hl 0 rfl) ?_
      exact W.iret (v := (-2)) hx hb hr (fun t ht hW => ⟨_, rfl, by rw [if_pos k3242], ht⟩) (fun q hq => absurd hq List.not_mem_nil) dX11_grow_11
  · rw [if_neg k3242] at hw
    by_cases k3244 : (4 : Int32) ≤ x0
    · rw [if_pos k3244] at hw
      subst hw
      refine lv_istore_n (lv' := [(2, .int (-2)), (0, .ref h0), (1, .int x0)]) hx hb dX11_grow_5 rfl hl (by decide) rfl (fun ls hl => ?_)
      refine lv_iload_n hx hb dX11_grow_6 rfl (lv_at hl 0 rfl) ?_
      refine lv_if_eq (tgt := 12) hx hb dX11_grow_7 (by decide) (fun c3245 => ?_) (fun c3245 => ?_)
      · exact absurd c3245 (by decide)
      · refine lv_iload_n hx hb dX11_grow_10 rfl (lv_at hl 0 rfl) ?_
        exact W.iret (v := (-2)) hx hb hr (fun t ht hW => ⟨_, rfl, by rw [if_neg k3242, if_pos k3244], ht⟩) (fun q hq => absurd hq List.not_mem_nil) dX11_grow_11
    · rw [if_neg k3244] at hw
      subst hw
      refine lv_istore_n (lv' := [(2, .int (-11)), (0, .ref h0), (1, .int x0)]) hx hb dX11_grow_5 rfl hl (by decide) rfl (fun ls hl => ?_)
      refine lv_iload_n hx hb dX11_grow_6 rfl (lv_at hl 0 rfl) ?_
      refine lv_if_eq (tgt := 12) hx hb dX11_grow_7 (by decide) (fun c3246 => ?_) (fun c3246 => ?_)
      · exact absurd c3246 (by decide)
      · refine lv_iload_n hx hb dX11_grow_10 rfl (lv_at hl 0 rfl) ?_
        exact W.iret (v := (-11)) hx hb hr (fun t ht hW => ⟨_, rfl, by rw [if_neg k3242, if_neg k3244], ht⟩) (fun q hq => absurd hq List.not_mem_nil) dX11_grow_11
set_option maxHeartbeats 4000000 in
set_option maxRecDepth 100000 in
theorem c_X11_chains_0 (l : Launch) (D : va_G) (cI cS : ClassId) (h0 h1 h2 h3 h4 h5 h6 h7 h8 h9 h10 h11 h12 h13 h14 h25 h26 h27 h28 h41 h42 h43 h44 : Nat) (x0 x1 x2 : Int32) : Met l yX11_chains wsX11_chains ({ frames := 1, cells := 0, slots := 0, locals := 40 }) (PS D cI cS [(h0, .inr (11, [.ref h1, .ref h2, .ref h3, .ref h4, .ref h5, .ref h6, .ref h7, .int 0, .int 0, .ref h8, .ref h9, .ref h10, .ref h11, .ref h12, .ref h13, .ref h14])), (h11, .inl (cS, 4, .inr (.inr (.inr (.inr (fun k => [h25, h26, h27, h28][k]?)))))), (h25, .inr (6, [.ref h41, .int (-1), .int 0])), (h26, .inr (6, [.ref h42, .int (-1), .int 0])), (h27, .inr (6, [.ref h43, .int (-1), .int 0])), (h28, .inr (6, [.ref h44, .int (-1), .int 0]))] [.ref h0, .int x0, .int x1, .int x2]) (vp_Si (fun r => r = if x0 < 0 then ((-2) : Int32) else (if (4 : Int32) ≤ x0 then ((-2) : Int32) else (if x1 < 0 then ((-2) : Int32) else (if (4 : Int32) ≤ x1 then ((-2) : Int32) else (if x2 < 0 then ((-2) : Int32) else (if x2 ≤ 2 then ((-11) : Int32) else ((-2) : Int32)))))))) 0 0 (fun _ => False) := by
  refine Met.ofW (cc := cX11_chains) (maxL := 4) (ret := (some .int)) (by decide) rfl ?_
  intro p e s m args below meth c s₁ B hml hv
  obtain ⟨rfl, hP, hKK⟩ := hv
  have hx := B.exec
  have hb := B.bytes
  have hr := B.returns
  have hts := atoms_spec (ws := wsX11_chains) B.pre
  have hown : s.vm.findClass RX11 = some m.cls := findClass_of_methodNamed B.named
  have hlocks := B.notSynchronized
  have hK := hKK.1
  have hN := hKK.2
  have hin11 : ∀ w ∈ wsX110, w ∈ wsX11_chains := by decide +kernel
  have hl := lv_entry ([.ref h0, .int x0, .int x1, .int x2]) (n := 4) (Nat.le_of_ble_eq_true rfl)
  rw [lg_entry_eq]
  generalize (lg_sl ([.ref h0, .int x0, .int x1, .int x2]) ++ List.replicate (4 - (lg_sl ([.ref h0, .int x0, .int x1, .int x2])).length) Slot.unset).toArray = ls at hl ⊢
  have hl : lv_has ls 4 [(0, .ref h0), (1, .int x0), (2, .int x1), (3, .int x2)] := hl
  refine lv_iload_n hx hb dX11_chains_0 rfl (lv_at hl 1 rfl) ?_
  have hPc := hP.sub (ws' := []) [] rfl
  refine lz_ss (As := [.int x0]) (rest := []) ⟨hx, hb, hml, hown, hts⟩ (c_X11_isSheet_0 l D cI cS x0) hKK hPc (va_cwS 1 hts gX11_chains_X11_isSheet rfl rfl rfl (by decide +kernel) ⟨Nat.le_of_ble_eq_true rfl, Nat.le_of_ble_eq_true rfl⟩) rfl hl.1 rfl (Nat.le_of_ble_eq_true rfl) dX11_chains_1 ⟨Nat.le_of_ble_eq_true rfl, Nat.le_of_ble_eq_true rfl⟩ (fun r3272 hw => ?_)
  by_cases k3273 : x0 < 0
  · rw [if_pos k3273] at hw
    subst hw
    refine lv_if_eq (tgt := 23) hx hb dX11_chains_4 (by decide) (fun c3274 => ?_) (fun c3274 => ?_)
    · refine lv_bipush (v := (-2)) hx hb dX11_chains_23 (by decide) ?_
      exact W.iret (v := (-2)) hx hb hr (fun t ht hW => ⟨_, rfl, by rw [if_pos k3273], ht⟩) (fun q hq => absurd hq List.not_mem_nil) dX11_chains_25
    · exact absurd c3274 (by decide)
  · rw [if_neg k3273] at hw
    by_cases k3275 : (4 : Int32) ≤ x0
    · rw [if_pos k3275] at hw
      subst hw
      refine lv_if_eq (tgt := 23) hx hb dX11_chains_4 (by decide) (fun c3276 => ?_) (fun c3276 => ?_)
      · refine lv_bipush (v := (-2)) hx hb dX11_chains_23 (by decide) ?_
        exact W.iret (v := (-2)) hx hb hr (fun t ht hW => ⟨_, rfl, by rw [if_neg k3273, if_pos k3275], ht⟩) (fun q hq => absurd hq List.not_mem_nil) dX11_chains_25
      · exact absurd c3276 (by decide)
    · rw [if_neg k3275] at hw
      subst hw
      refine lv_if_eq (tgt := 23) hx hb dX11_chains_4 (by decide) (fun c3277 => ?_) (fun c3277 => ?_)
      · exact absurd c3277 (by decide)
      · refine lv_iload_n hx hb dX11_chains_7 rfl (lv_at hl 2 rfl) ?_
        have hPc := hP.sub (ws' := []) [] rfl
        refine lz_ss (As := [.int x1]) (rest := []) ⟨hx, hb, hml, hown, hts⟩ (c_X11_isSheet_0 l D cI cS x1) hKK hPc (va_cwS 1 hts gX11_chains_X11_isSheet rfl rfl rfl (by decide +kernel) ⟨Nat.le_of_ble_eq_true rfl, Nat.le_of_ble_eq_true rfl⟩) rfl hl.1 rfl (Nat.le_of_ble_eq_true rfl) dX11_chains_8 ⟨Nat.le_of_ble_eq_true rfl, Nat.le_of_ble_eq_true rfl⟩ (fun r3278 hw => ?_)
        by_cases k3279 : x1 < 0
        · rw [if_pos k3279] at hw
          subst hw
          refine lv_if_eq (tgt := 23) hx hb dX11_chains_11 (by decide) (fun c3280 => ?_) (fun c3280 => ?_)
          · refine lv_bipush (v := (-2)) hx hb dX11_chains_23 (by decide) ?_
            exact W.iret (v := (-2)) hx hb hr (fun t ht hW => ⟨_, rfl, by rw [if_neg k3273, if_neg k3275, if_pos k3279], ht⟩) (fun q hq => absurd hq List.not_mem_nil) dX11_chains_25
          · exact absurd c3280 (by decide)
        · rw [if_neg k3279] at hw
          by_cases k3281 : (4 : Int32) ≤ x1
          · rw [if_pos k3281] at hw
            subst hw
            refine lv_if_eq (tgt := 23) hx hb dX11_chains_11 (by decide) (fun c3282 => ?_) (fun c3282 => ?_)
            · refine lv_bipush (v := (-2)) hx hb dX11_chains_23 (by decide) ?_
              exact W.iret (v := (-2)) hx hb hr (fun t ht hW => ⟨_, rfl, by rw [if_neg k3273, if_neg k3275, if_neg k3279, if_pos k3281], ht⟩) (fun q hq => absurd hq List.not_mem_nil) dX11_chains_25
            · exact absurd c3282 (by decide)
          · rw [if_neg k3281] at hw
            subst hw
            refine lv_if_eq (tgt := 23) hx hb dX11_chains_11 (by decide) (fun c3283 => ?_) (fun c3283 => ?_)
            · exact absurd c3283 (by decide)
            · refine lv_iload_n hx hb dX11_chains_14 rfl (lv_at hl 3 rfl) ?_
              refine lv_if_lt (tgt := 23) hx hb dX11_chains_15 (by decide) (fun c3284 => ?_) (fun c3284 => ?_)
              · refine lv_bipush (v := (-2)) hx hb dX11_chains_23 (by decide) ?_
                exact W.iret (v := (-2)) hx hb hr (fun t ht hW => ⟨_, rfl, by rw [if_neg k3273, if_neg k3275, if_neg k3279, if_neg k3281, if_pos c3284], ht⟩) (fun q hq => absurd hq List.not_mem_nil) dX11_chains_25
              · refine lv_iload_n hx hb dX11_chains_18 rfl (lv_at hl 3 rfl) ?_
                refine lv_iconst (v := 2) hx hb dX11_chains_19 (by decide) ?_
                refine lv_icmp_le (tgt := 26) hx hb dX11_chains_20 (by decide) (fun c3285 => ?_) (fun c3285 => ?_)
                · refine lv_aload_n hx hb dX11_chains_26 rfl (lv_at hl 0 rfl) ?_
                  refine va_get (D := D) (ci := 11) (v := .ref h11) (C := RX11) (T := TX11) (N := 16) hx hb hts hin11 hown hK hP 0 rfl rfl 12 (by decide) (hts (.fieldLink RX11 75 "MissedPoints" "sheets" "[LMissedPoints$Sheet;") (by decide +kernel)) (fun _ h9 => h9) rfl dX11_chains_27 ?_
                  refine lv_iload_n hx hb dX11_chains_30 rfl (lv_at hl 1 rfl) ?_
                  by_cases k3286 : x0 = 0
                  · subst k3286
                    refine va_aldq hx hb hK hP 1 1 rfl rfl (lz_vp (x := 0) (n := 4) (by decide) (by decide)) dX11_chains_31 ?_
                    refine lz_va (y := .ref h25) rfl ?_
                    have hPc := hP.sub (ws' := [(h25, .inr (6, [.ref h41, .int (-1), .int 0]))]) [2] rfl
                    refine lz_sv (As := []) (rest := []) ⟨hx, hb, hml, hown, hts⟩ (c_X6_isMissing_0 l D cI cS h25 h41) hKK hPc (ci := 6) rfl rfl (cwV 0 hts gX11_chains_X6_isMissing rfl rfl rfl (by decide +kernel) ⟨Nat.le_of_ble_eq_true rfl, Nat.le_of_ble_eq_true rfl⟩) rfl hl.1 rfl (Nat.le_of_ble_eq_true rfl) dX11_chains_32 ⟨Nat.le_of_ble_eq_true rfl, Nat.le_of_ble_eq_true rfl⟩ (fun r3287 hw => ?_)
                    subst hw
                    refine lv_if_ne (tgt := 50) hx hb dX11_chains_35 (by decide) (fun c3288 => ?_) (fun c3288 => ?_)
                    · refine lv_bipush (v := (-11)) hx hb dX11_chains_50 (by decide) ?_
                      exact W.iret (v := (-11)) hx hb hr (fun t ht hW => ⟨_, rfl, by rw [if_neg k3273, if_neg k3275, if_neg k3279, if_neg k3281, if_neg c3284, if_pos c3285], ht⟩) (fun q hq => absurd hq List.not_mem_nil) dX11_chains_52
                    · exact absurd c3288 (by decide)
                  · by_cases k3289 : x0 = 1
                    · subst k3289
                      refine va_aldq hx hb hK hP 1 1 rfl rfl (lz_vp (x := 1) (n := 4) (by decide) (by decide)) dX11_chains_31 ?_
                      refine lz_va (y := .ref h26) rfl ?_
                      have hPc := hP.sub (ws' := [(h26, .inr (6, [.ref h42, .int (-1), .int 0]))]) [3] rfl
                      refine lz_sv (As := []) (rest := []) ⟨hx, hb, hml, hown, hts⟩ (c_X6_isMissing_0 l D cI cS h26 h42) hKK hPc (ci := 6) rfl rfl (cwV 0 hts gX11_chains_X6_isMissing rfl rfl rfl (by decide +kernel) ⟨Nat.le_of_ble_eq_true rfl, Nat.le_of_ble_eq_true rfl⟩) rfl hl.1 rfl (Nat.le_of_ble_eq_true rfl) dX11_chains_32 ⟨Nat.le_of_ble_eq_true rfl, Nat.le_of_ble_eq_true rfl⟩ (fun r3290 hw => ?_)
                      subst hw
                      refine lv_if_ne (tgt := 50) hx hb dX11_chains_35 (by decide) (fun c3291 => ?_) (fun c3291 => ?_)
                      · refine lv_bipush (v := (-11)) hx hb dX11_chains_50 (by decide) ?_
                        exact W.iret (v := (-11)) hx hb hr (fun t ht hW => ⟨_, rfl, by rw [if_neg k3273, if_neg k3275, if_neg k3279, if_neg k3281, if_neg c3284, if_pos c3285], ht⟩) (fun q hq => absurd hq List.not_mem_nil) dX11_chains_52
                      · exact absurd c3291 (by decide)
                    · by_cases k3292 : x0 = 2
                      · subst k3292
                        refine va_aldq hx hb hK hP 1 1 rfl rfl (lz_vp (x := 2) (n := 4) (by decide) (by decide)) dX11_chains_31 ?_
                        refine lz_va (y := .ref h27) rfl ?_
                        have hPc := hP.sub (ws' := [(h27, .inr (6, [.ref h43, .int (-1), .int 0]))]) [4] rfl
                        refine lz_sv (As := []) (rest := []) ⟨hx, hb, hml, hown, hts⟩ (c_X6_isMissing_0 l D cI cS h27 h43) hKK hPc (ci := 6) rfl rfl (cwV 0 hts gX11_chains_X6_isMissing rfl rfl rfl (by decide +kernel) ⟨Nat.le_of_ble_eq_true rfl, Nat.le_of_ble_eq_true rfl⟩) rfl hl.1 rfl (Nat.le_of_ble_eq_true rfl) dX11_chains_32 ⟨Nat.le_of_ble_eq_true rfl, Nat.le_of_ble_eq_true rfl⟩ (fun r3293 hw => ?_)
                        subst hw
                        refine lv_if_ne (tgt := 50) hx hb dX11_chains_35 (by decide) (fun c3294 => ?_) (fun c3294 => ?_)
                        · refine lv_bipush (v := (-11)) hx hb dX11_chains_50 (by decide) ?_
                          exact W.iret (v := (-11)) hx hb hr (fun t ht hW => ⟨_, rfl, by rw [if_neg k3273, if_neg k3275, if_neg k3279, if_neg k3281, if_neg c3284, if_pos c3285], ht⟩) (fun q hq => absurd hq List.not_mem_nil) dX11_chains_52
                        · exact absurd c3294 (by decide)
                      · obtain rfl : x0 = 3 := by have zf1 := mt (lz_lt x0 (0 : Int32)).mpr k3273; have zf2 := mt (lz_le (4 : Int32) x0).mpr k3275; have zf3 := mt (lz_lt x1 (0 : Int32)).mpr k3279; have zf4 := mt (lz_le (4 : Int32) x1).mpr k3281; have zf5 := mt (lz_lt x2 (0 : Int32)).mpr c3284; have zf6 := (lz_le x2 (2 : Int32)).mp c3285; have zf7 := mt (lz_eq x0 (0 : Int32)).mpr k3286; have zf8 := mt (lz_eq x0 (1 : Int32)).mpr k3289; have zf9 := mt (lz_eq x0 (2 : Int32)).mpr k3292; have zn0 : (0 : Int32).toInt = 0 := (by decide); have zn1 : (1 : Int32).toInt = 1 := (by decide); have zn2 : (2 : Int32).toInt = 2 := (by decide); have zn3 : (3 : Int32).toInt = 3 := (by decide); have zn4 : (4 : Int32).toInt = 4 := (by decide); rw [lz_eq]; omega
                        refine va_aldq hx hb hK hP 1 1 rfl rfl (lz_vp (x := 3) (n := 4) (by decide) (by decide)) dX11_chains_31 ?_
                        refine lz_va (y := .ref h28) rfl ?_
                        have hPc := hP.sub (ws' := [(h28, .inr (6, [.ref h44, .int (-1), .int 0]))]) [5] rfl
                        refine lz_sv (As := []) (rest := []) ⟨hx, hb, hml, hown, hts⟩ (c_X6_isMissing_0 l D cI cS h28 h44) hKK hPc (ci := 6) rfl rfl (cwV 0 hts gX11_chains_X6_isMissing rfl rfl rfl (by decide +kernel) ⟨Nat.le_of_ble_eq_true rfl, Nat.le_of_ble_eq_true rfl⟩) rfl hl.1 rfl (Nat.le_of_ble_eq_true rfl) dX11_chains_32 ⟨Nat.le_of_ble_eq_true rfl, Nat.le_of_ble_eq_true rfl⟩ (fun r3295 hw => ?_)
                        subst hw
                        refine lv_if_ne (tgt := 50) hx hb dX11_chains_35 (by decide) (fun c3296 => ?_) (fun c3296 => ?_)
                        · refine lv_bipush (v := (-11)) hx hb dX11_chains_50 (by decide) ?_
                          exact W.iret (v := (-11)) hx hb hr (fun t ht hW => ⟨_, rfl, by rw [if_neg k3273, if_neg k3275, if_neg k3279, if_neg k3281, if_neg c3284, if_pos c3285], ht⟩) (fun q hq => absurd hq List.not_mem_nil) dX11_chains_52
                        · exact absurd c3296 (by decide)
                · refine lv_bipush (v := (-2)) hx hb dX11_chains_23 (by decide) ?_
                  exact W.iret (v := (-2)) hx hb hr (fun t ht hW => ⟨_, rfl, by rw [if_neg k3273, if_neg k3275, if_neg k3279, if_neg k3281, if_neg c3284, if_neg c3285], ht⟩) (fun q hq => absurd hq List.not_mem_nil) dX11_chains_25
set_option maxHeartbeats 4000000 in
set_option maxRecDepth 100000 in
theorem c_X11_isSort_0 (l : Launch) (D : va_G) (cI cS : ClassId) (x0 : Int32) : Met l yX11_isSort wsX11_isSort ({ frames := 0, cells := 0, slots := 0, locals := 0 }) (PS D cI cS [] [.int x0]) (vp_Si (fun r => r = if x0 = 0 then (1 : Int32) else (if x0 = 1 then (1 : Int32) else (0 : Int32)))) 0 0 (fun _ => False) := by
  refine Met.ofW (cc := cX11_isSort) (maxL := 1) (ret := (some .boolean)) (by decide) rfl ?_
  intro p e s m args below meth c s₁ B hml hv
  obtain ⟨rfl, hP, hKK⟩ := hv
  have hx := B.exec
  have hb := B.bytes
  have hr := B.returns
  have hts := atoms_spec (ws := wsX11_isSort) B.pre
  have hown : s.vm.findClass RX11 = some m.cls := findClass_of_methodNamed B.named
  have hlocks := B.notSynchronized
  have hK := hKK.1
  have hN := hKK.2
  have hl := lv_entry ([.int x0]) (n := 1) (Nat.le_of_ble_eq_true rfl)
  rw [lg_entry_eq]
  generalize (lg_sl ([.int x0]) ++ List.replicate (1 - (lg_sl ([.int x0])).length) Slot.unset).toArray = ls at hl ⊢
  have hl : lv_has ls 1 [(0, .int x0)] := hl
  refine lv_iload_n hx hb dX11_isSort_0 rfl (lv_at hl 0 rfl) ?_
  refine lv_if_eq (tgt := 9) hx hb dX11_isSort_1 (by decide) (fun c3305 => ?_) (fun c3305 => ?_)
  · subst c3305
    refine lv_iconst (v := 1) hx hb dX11_isSort_9 (by decide) ?_
    refine lv_goto (tgt := 14) hx hb dX11_isSort_10 (by decide) ?_
    exact W.zret (v := 1) hx hb hr (by decide) (fun t ht hW => ⟨_, rfl, by rw [if_pos rfl], ht⟩) (fun q hq => absurd hq List.not_mem_nil) dX11_isSort_14
  · refine lv_iload_n hx hb dX11_isSort_4 rfl (lv_at hl 0 rfl) ?_
    refine lv_iconst (v := 1) hx hb dX11_isSort_5 (by decide) ?_
    refine lv_icmp_ne (tgt := 13) hx hb dX11_isSort_6 (by decide) (fun c3306 => ?_) (fun c3306 => ?_)
    · refine lv_iconst (v := 0) hx hb dX11_isSort_13 (by decide) ?_
      exact W.zret (v := 0) hx hb hr (by decide) (fun t ht hW => ⟨_, rfl, by rw [if_neg c3305, if_neg c3306], ht⟩) (fun q hq => absurd hq List.not_mem_nil) dX11_isSort_14
    · subst c3306
      refine lv_iconst (v := 1) hx hb dX11_isSort_9 (by decide) ?_
      refine lv_goto (tgt := 14) hx hb dX11_isSort_10 (by decide) ?_
      exact W.zret (v := 1) hx hb hr (by decide) (fun t ht hW => ⟨_, rfl, by rw [if_neg c3305, if_pos rfl], ht⟩) (fun q hq => absurd hq List.not_mem_nil) dX11_isSort_14
set_option maxHeartbeats 4000000 in
set_option maxRecDepth 100000 in
theorem c_X3_layFirst_0 (l : Launch) (D : va_G) (cI cS : ClassId) (sz : Nat) (h0 h1 h2 h3 h4 h5 : Nat) : Met l yX3_layFirst wsX3_layFirst ({ frames := 1, cells := 0, slots := 0, locals := 40 }) (PQ D cI cS [(h0, .inr (3, [.ref h2, .ref h3, .ref h4, .int 0])), (h1, .inl (cI, 12, .inl (fun _ => 0))), (h2, .inr (2, [.ref h5, .int 0, .int 0]))] sz [.ref h0, .ref h1]) (QV D [(h0, .inr (3, [.ref h2, .ref h3, .ref h4, .int 0])), (h1, .inl (cI, 12, .inl (fun _ => 0))), (h2, .inr (2, [.ref h5, .int 0, .int 0]))] [(h0, .inr (3, [.ref h2, .ref h3, .ref h4, .int 0])), (h1, .inl (cI, 12, .inl (upd (upd (upd (upd (upd (upd (upd (upd (upd (upd (upd (upd (fun _ => 0) 0 (-1)) 1 (-1)) 2 (-1)) 3 (-1)) 4 (-1)) 5 (-1)) 6 (-1)) 7 (-1)) 8 (-1)) 9 (-1)) 10 (-1)) 11 (-1)))), (h2, .inr (2, [.ref h5, .int 0, .int 0]))] sz) 0 0 (va_A [(h0, .inr (3, [.ref h2, .ref h3, .ref h4, .int 0])), (h1, .inl (cI, 12, .inl (fun _ => 0))), (h2, .inr (2, [.ref h5, .int 0, .int 0]))] sz) := by
  refine Met.ofW (cc := cX3_layFirst) (maxL := 5) (ret := none) (by decide) rfl ?_
  intro p e s m args below meth c s₁ B hml hv
  obtain ⟨rfl, hsz, hP, hKK, hD0⟩ := hv
  have hx := B.exec
  have hb := B.bytes
  have hr := B.returns
  have hts := atoms_spec (ws := wsX3_layFirst) B.pre
  have hown : s.vm.findClass RX3 = some m.cls := findClass_of_methodNamed B.named
  have hlocks := B.notSynchronized
  have hK := hKK.1
  have hN := hKK.2
  have hin2 : ∀ w ∈ wsX20, w ∈ wsX3_layFirst := by decide +kernel
  have hin3 : ∀ w ∈ wsX30, w ∈ wsX3_layFirst := by decide +kernel
  subst hsz
  have hD := hD0.self (sz := s.heap.size)
  obtain ⟨A, hAe⟩ : ∃ A, A = va_A [(h0, .inr (3, [.ref h2, .ref h3, .ref h4, .int 0])), (h1, .inl (cI, 12, .inl (fun _ => 0))), (h2, .inr (2, [.ref h5, .int 0, .int 0]))] s.heap.size := ⟨_, rfl⟩
  rw [← hAe] at hD
  have hA : ∀ q : Nat, s.heap.size ≤ q → A q := fun q h => by rw [hAe]; exact Or.inr h
  have hS : va_S A s.heap s.heap [] := va_S.rf
  have hl := lv_entry ([.ref h0, .ref h1]) (n := 5) (Nat.le_of_ble_eq_true rfl)
  rw [lg_entry_eq]
  generalize (lg_sl ([.ref h0, .ref h1]) ++ List.replicate (5 - (lg_sl ([.ref h0, .ref h1])).length) Slot.unset).toArray = ls at hl ⊢
  have hl : lv_has ls 5 [(0, .ref h0), (1, .ref h1)] := hl
  refine lv_aload_n hx hb dX3_layFirst_0 rfl (lv_at hl 0 rfl) ?_
  refine va_get (D := D) (ci := 3) (v := .ref h2) (C := RX3) (T := TX3) (N := 4) hx hb hts hin3 hown hK hP 0 rfl rfl 0 (by decide) (hts (.fieldLink RX3 23 "MissedPoints$Pairs" "net" "LMissedPoints$Net;") (by decide +kernel)) (fun _ h9 => h9) rfl dX3_layFirst_1 ?_
  have hPc := hP.sub (ws' := [(h2, .inr (2, [.ref h5, .int 0, .int 0]))]) [2] rfl
  refine lz_sv (As := []) (rest := []) ⟨hx, hb, hml, hown, hts⟩ (c_X2_all_0 l D cI cS h2 h5) hKK hPc (ci := 2) rfl rfl (cwV 0 hts gX3_layFirst_X2_all rfl rfl rfl (by decide +kernel) ⟨Nat.le_of_ble_eq_true rfl, Nat.le_of_ble_eq_true rfl⟩) rfl hl.1 rfl (Nat.le_of_ble_eq_true rfl) dX3_layFirst_4 ⟨Nat.le_of_ble_eq_true rfl, Nat.le_of_ble_eq_true rfl⟩ (fun r3325 hw => ?_)
  subst hw
  refine lv_istore_n (lv' := [(2, .int 0), (0, .ref h0), (1, .ref h1)]) hx hb dX3_layFirst_7 rfl hl (by decide) rfl (fun ls hl => ?_)
  refine lv_iconst (v := 0) hx hb dX3_layFirst_8 (by decide) ?_
  refine lv_istore_n (lv' := [(3, .int 0), (2, .int 0), (0, .ref h0), (1, .ref h1)]) hx hb dX3_layFirst_9 rfl hl (by decide) rfl (fun ls hl => ?_)
  refine lv_iload_n hx hb dX3_layFirst_10 rfl (lv_at hl 0 rfl) ?_
  refine lv_aload_n hx hb dX3_layFirst_11 rfl (lv_at hl 3 rfl) ?_
  refine va_alen hx hb hK hP 1 0 rfl rfl (v := 12) (by decide) dX3_layFirst_12 ?_
  refine lv_icmp_ge (tgt := 26) hx hb dX3_layFirst_13 (by decide) (fun c3326 => ?_) (fun c3326 => ?_)
  · exact absurd c3326 (by decide)
  · refine lv_aload_n hx hb dX3_layFirst_16 rfl (lv_at hl 3 rfl) ?_
    refine lv_iload_n hx hb dX3_layFirst_17 rfl (lv_at hl 0 rfl) ?_
    refine lv_iconst (v := (-1)) hx hb dX3_layFirst_18 (by decide) ?_
    refine va_iast hx hb hK hP hD hS 1 0 rfl rfl (lz_vp (x := 0) (n := 12) (by decide) (by decide)) dX3_layFirst_19 (fun H locs hP hD hS => ?_)
    have hP : va_P D cls [(h0, .inr (3, [.ref h2, .ref h3, .ref h4, .int 0])), (h1, .inl (cI, 12, .inl (upd (fun _ => 0) 0 (-1)))), (h2, .inr (2, [.ref h5, .int 0, .int 0]))] H := hP
    have hD : va_D A [(h0, .inr (3, [.ref h2, .ref h3, .ref h4, .int 0])), (h1, .inl (cI, 12, .inl (upd (fun _ => 0) 0 (-1)))), (h2, .inr (2, [.ref h5, .int 0, .int 0]))] := hD
    refine lv_iinc (v := 1) (lv' := [(3, .int 1), (2, .int 0), (0, .ref h0), (1, .ref h1)]) hx hb dX3_layFirst_20 hl (k := 0) rfl (by decide) (by decide) rfl (fun ls hl => ?_)
    refine lv_goto (tgt := 10) hx hb dX3_layFirst_23 (by decide) ?_
    refine lv_iload_n hx hb dX3_layFirst_10 rfl (lv_at hl 0 rfl) ?_
    refine lv_aload_n hx hb dX3_layFirst_11 rfl (lv_at hl 3 rfl) ?_
    refine va_alen hx hb hK hP 1 0 rfl rfl (v := 12) (by decide) dX3_layFirst_12 ?_
    refine lv_icmp_ge (tgt := 26) hx hb dX3_layFirst_13 (by decide) (fun c3327 => ?_) (fun c3327 => ?_)
    · exact absurd c3327 (by decide)
    · refine lv_aload_n hx hb dX3_layFirst_16 rfl (lv_at hl 3 rfl) ?_
      refine lv_iload_n hx hb dX3_layFirst_17 rfl (lv_at hl 0 rfl) ?_
      refine lv_iconst (v := (-1)) hx hb dX3_layFirst_18 (by decide) ?_
      refine va_iast hx hb hK hP hD hS 1 0 rfl rfl (lz_vp (x := 1) (n := 12) (by decide) (by decide)) dX3_layFirst_19 (fun H locs hP hD hS => ?_)
      have hP : va_P D cls [(h0, .inr (3, [.ref h2, .ref h3, .ref h4, .int 0])), (h1, .inl (cI, 12, .inl (upd (upd (fun _ => 0) 0 (-1)) 1 (-1)))), (h2, .inr (2, [.ref h5, .int 0, .int 0]))] H := hP
      have hD : va_D A [(h0, .inr (3, [.ref h2, .ref h3, .ref h4, .int 0])), (h1, .inl (cI, 12, .inl (upd (upd (fun _ => 0) 0 (-1)) 1 (-1)))), (h2, .inr (2, [.ref h5, .int 0, .int 0]))] := hD
      refine lv_iinc (v := 2) (lv' := [(3, .int 2), (2, .int 0), (0, .ref h0), (1, .ref h1)]) hx hb dX3_layFirst_20 hl (k := 0) rfl (by decide) (by decide) rfl (fun ls hl => ?_)
      refine lv_goto (tgt := 10) hx hb dX3_layFirst_23 (by decide) ?_
      refine lv_iload_n hx hb dX3_layFirst_10 rfl (lv_at hl 0 rfl) ?_
      refine lv_aload_n hx hb dX3_layFirst_11 rfl (lv_at hl 3 rfl) ?_
      refine va_alen hx hb hK hP 1 0 rfl rfl (v := 12) (by decide) dX3_layFirst_12 ?_
      refine lv_icmp_ge (tgt := 26) hx hb dX3_layFirst_13 (by decide) (fun c3328 => ?_) (fun c3328 => ?_)
      · exact absurd c3328 (by decide)
      · refine lv_aload_n hx hb dX3_layFirst_16 rfl (lv_at hl 3 rfl) ?_
        refine lv_iload_n hx hb dX3_layFirst_17 rfl (lv_at hl 0 rfl) ?_
        refine lv_iconst (v := (-1)) hx hb dX3_layFirst_18 (by decide) ?_
        refine va_iast hx hb hK hP hD hS 1 0 rfl rfl (lz_vp (x := 2) (n := 12) (by decide) (by decide)) dX3_layFirst_19 (fun H locs hP hD hS => ?_)
        have hP : va_P D cls [(h0, .inr (3, [.ref h2, .ref h3, .ref h4, .int 0])), (h1, .inl (cI, 12, .inl (upd (upd (upd (fun _ => 0) 0 (-1)) 1 (-1)) 2 (-1)))), (h2, .inr (2, [.ref h5, .int 0, .int 0]))] H := hP
        have hD : va_D A [(h0, .inr (3, [.ref h2, .ref h3, .ref h4, .int 0])), (h1, .inl (cI, 12, .inl (upd (upd (upd (fun _ => 0) 0 (-1)) 1 (-1)) 2 (-1)))), (h2, .inr (2, [.ref h5, .int 0, .int 0]))] := hD
        refine lv_iinc (v := 3) (lv' := [(3, .int 3), (2, .int 0), (0, .ref h0), (1, .ref h1)]) hx hb dX3_layFirst_20 hl (k := 0) rfl (by decide) (by decide) rfl (fun ls hl => ?_)
        refine lv_goto (tgt := 10) hx hb dX3_layFirst_23 (by decide) ?_
        refine lv_iload_n hx hb dX3_layFirst_10 rfl (lv_at hl 0 rfl) ?_
        refine lv_aload_n hx hb dX3_layFirst_11 rfl (lv_at hl 3 rfl) ?_
        refine va_alen hx hb hK hP 1 0 rfl rfl (v := 12) (by decide) dX3_layFirst_12 ?_
        refine lv_icmp_ge (tgt := 26) hx hb dX3_layFirst_13 (by decide) (fun c3329 => ?_) (fun c3329 => ?_)
        · exact absurd c3329 (by decide)
        · refine lv_aload_n hx hb dX3_layFirst_16 rfl (lv_at hl 3 rfl) ?_
          refine lv_iload_n hx hb dX3_layFirst_17 rfl (lv_at hl 0 rfl) ?_
          refine lv_iconst (v := (-1)) hx hb dX3_layFirst_18 (by decide) ?_
          refine va_iast hx hb hK hP hD hS 1 0 rfl rfl (lz_vp (x := 3) (n := 12) (by decide) (by decide)) dX3_layFirst_19 (fun H locs hP hD hS => ?_)
          have hP : va_P D cls [(h0, .inr (3, [.ref h2, .ref h3, .ref h4, .int 0])), (h1, .inl (cI, 12, .inl (upd (upd (upd (upd (fun _ => 0) 0 (-1)) 1 (-1)) 2 (-1)) 3 (-1)))), (h2, .inr (2, [.ref h5, .int 0, .int 0]))] H := hP
          have hD : va_D A [(h0, .inr (3, [.ref h2, .ref h3, .ref h4, .int 0])), (h1, .inl (cI, 12, .inl (upd (upd (upd (upd (fun _ => 0) 0 (-1)) 1 (-1)) 2 (-1)) 3 (-1)))), (h2, .inr (2, [.ref h5, .int 0, .int 0]))] := hD
          refine lv_iinc (v := 4) (lv' := [(3, .int 4), (2, .int 0), (0, .ref h0), (1, .ref h1)]) hx hb dX3_layFirst_20 hl (k := 0) rfl (by decide) (by decide) rfl (fun ls hl => ?_)
          refine lv_goto (tgt := 10) hx hb dX3_layFirst_23 (by decide) ?_
          refine lv_iload_n hx hb dX3_layFirst_10 rfl (lv_at hl 0 rfl) ?_
          refine lv_aload_n hx hb dX3_layFirst_11 rfl (lv_at hl 3 rfl) ?_
          refine va_alen hx hb hK hP 1 0 rfl rfl (v := 12) (by decide) dX3_layFirst_12 ?_
          refine lv_icmp_ge (tgt := 26) hx hb dX3_layFirst_13 (by decide) (fun c3330 => ?_) (fun c3330 => ?_)
          · exact absurd c3330 (by decide)
          · refine lv_aload_n hx hb dX3_layFirst_16 rfl (lv_at hl 3 rfl) ?_
            refine lv_iload_n hx hb dX3_layFirst_17 rfl (lv_at hl 0 rfl) ?_
            refine lv_iconst (v := (-1)) hx hb dX3_layFirst_18 (by decide) ?_
            refine va_iast hx hb hK hP hD hS 1 0 rfl rfl (lz_vp (x := 4) (n := 12) (by decide) (by decide)) dX3_layFirst_19 (fun H locs hP hD hS => ?_)
            have hP : va_P D cls [(h0, .inr (3, [.ref h2, .ref h3, .ref h4, .int 0])), (h1, .inl (cI, 12, .inl (upd (upd (upd (upd (upd (fun _ => 0) 0 (-1)) 1 (-1)) 2 (-1)) 3 (-1)) 4 (-1)))), (h2, .inr (2, [.ref h5, .int 0, .int 0]))] H := hP
            have hD : va_D A [(h0, .inr (3, [.ref h2, .ref h3, .ref h4, .int 0])), (h1, .inl (cI, 12, .inl (upd (upd (upd (upd (upd (fun _ => 0) 0 (-1)) 1 (-1)) 2 (-1)) 3 (-1)) 4 (-1)))), (h2, .inr (2, [.ref h5, .int 0, .int 0]))] := hD
            refine lv_iinc (v := 5) (lv' := [(3, .int 5), (2, .int 0), (0, .ref h0), (1, .ref h1)]) hx hb dX3_layFirst_20 hl (k := 0) rfl (by decide) (by decide) rfl (fun ls hl => ?_)
            refine lv_goto (tgt := 10) hx hb dX3_layFirst_23 (by decide) ?_
            refine lv_iload_n hx hb dX3_layFirst_10 rfl (lv_at hl 0 rfl) ?_
            refine lv_aload_n hx hb dX3_layFirst_11 rfl (lv_at hl 3 rfl) ?_
            refine va_alen hx hb hK hP 1 0 rfl rfl (v := 12) (by decide) dX3_layFirst_12 ?_
            refine lv_icmp_ge (tgt := 26) hx hb dX3_layFirst_13 (by decide) (fun c3331 => ?_) (fun c3331 => ?_)
            · exact absurd c3331 (by decide)
            · refine lv_aload_n hx hb dX3_layFirst_16 rfl (lv_at hl 3 rfl) ?_
              refine lv_iload_n hx hb dX3_layFirst_17 rfl (lv_at hl 0 rfl) ?_
              refine lv_iconst (v := (-1)) hx hb dX3_layFirst_18 (by decide) ?_
              refine va_iast hx hb hK hP hD hS 1 0 rfl rfl (lz_vp (x := 5) (n := 12) (by decide) (by decide)) dX3_layFirst_19 (fun H locs hP hD hS => ?_)
              have hP : va_P D cls [(h0, .inr (3, [.ref h2, .ref h3, .ref h4, .int 0])), (h1, .inl (cI, 12, .inl (upd (upd (upd (upd (upd (upd (fun _ => 0) 0 (-1)) 1 (-1)) 2 (-1)) 3 (-1)) 4 (-1)) 5 (-1)))), (h2, .inr (2, [.ref h5, .int 0, .int 0]))] H := hP
              have hD : va_D A [(h0, .inr (3, [.ref h2, .ref h3, .ref h4, .int 0])), (h1, .inl (cI, 12, .inl (upd (upd (upd (upd (upd (upd (fun _ => 0) 0 (-1)) 1 (-1)) 2 (-1)) 3 (-1)) 4 (-1)) 5 (-1)))), (h2, .inr (2, [.ref h5, .int 0, .int 0]))] := hD
              refine lv_iinc (v := 6) (lv' := [(3, .int 6), (2, .int 0), (0, .ref h0), (1, .ref h1)]) hx hb dX3_layFirst_20 hl (k := 0) rfl (by decide) (by decide) rfl (fun ls hl => ?_)
              refine lv_goto (tgt := 10) hx hb dX3_layFirst_23 (by decide) ?_
              refine lv_iload_n hx hb dX3_layFirst_10 rfl (lv_at hl 0 rfl) ?_
              refine lv_aload_n hx hb dX3_layFirst_11 rfl (lv_at hl 3 rfl) ?_
              refine va_alen hx hb hK hP 1 0 rfl rfl (v := 12) (by decide) dX3_layFirst_12 ?_
              refine lv_icmp_ge (tgt := 26) hx hb dX3_layFirst_13 (by decide) (fun c3332 => ?_) (fun c3332 => ?_)
              · exact absurd c3332 (by decide)
              · refine lv_aload_n hx hb dX3_layFirst_16 rfl (lv_at hl 3 rfl) ?_
                refine lv_iload_n hx hb dX3_layFirst_17 rfl (lv_at hl 0 rfl) ?_
                refine lv_iconst (v := (-1)) hx hb dX3_layFirst_18 (by decide) ?_
                refine va_iast hx hb hK hP hD hS 1 0 rfl rfl (lz_vp (x := 6) (n := 12) (by decide) (by decide)) dX3_layFirst_19 (fun H locs hP hD hS => ?_)
                have hP : va_P D cls [(h0, .inr (3, [.ref h2, .ref h3, .ref h4, .int 0])), (h1, .inl (cI, 12, .inl (upd (upd (upd (upd (upd (upd (upd (fun _ => 0) 0 (-1)) 1 (-1)) 2 (-1)) 3 (-1)) 4 (-1)) 5 (-1)) 6 (-1)))), (h2, .inr (2, [.ref h5, .int 0, .int 0]))] H := hP
                have hD : va_D A [(h0, .inr (3, [.ref h2, .ref h3, .ref h4, .int 0])), (h1, .inl (cI, 12, .inl (upd (upd (upd (upd (upd (upd (upd (fun _ => 0) 0 (-1)) 1 (-1)) 2 (-1)) 3 (-1)) 4 (-1)) 5 (-1)) 6 (-1)))), (h2, .inr (2, [.ref h5, .int 0, .int 0]))] := hD
                refine lv_iinc (v := 7) (lv' := [(3, .int 7), (2, .int 0), (0, .ref h0), (1, .ref h1)]) hx hb dX3_layFirst_20 hl (k := 0) rfl (by decide) (by decide) rfl (fun ls hl => ?_)
                refine lv_goto (tgt := 10) hx hb dX3_layFirst_23 (by decide) ?_
                refine lv_iload_n hx hb dX3_layFirst_10 rfl (lv_at hl 0 rfl) ?_
                refine lv_aload_n hx hb dX3_layFirst_11 rfl (lv_at hl 3 rfl) ?_
                refine va_alen hx hb hK hP 1 0 rfl rfl (v := 12) (by decide) dX3_layFirst_12 ?_
                refine lv_icmp_ge (tgt := 26) hx hb dX3_layFirst_13 (by decide) (fun c3333 => ?_) (fun c3333 => ?_)
                · exact absurd c3333 (by decide)
                · refine lv_aload_n hx hb dX3_layFirst_16 rfl (lv_at hl 3 rfl) ?_
                  refine lv_iload_n hx hb dX3_layFirst_17 rfl (lv_at hl 0 rfl) ?_
                  refine lv_iconst (v := (-1)) hx hb dX3_layFirst_18 (by decide) ?_
                  refine va_iast hx hb hK hP hD hS 1 0 rfl rfl (lz_vp (x := 7) (n := 12) (by decide) (by decide)) dX3_layFirst_19 (fun H locs hP hD hS => ?_)
                  have hP : va_P D cls [(h0, .inr (3, [.ref h2, .ref h3, .ref h4, .int 0])), (h1, .inl (cI, 12, .inl (upd (upd (upd (upd (upd (upd (upd (upd (fun _ => 0) 0 (-1)) 1 (-1)) 2 (-1)) 3 (-1)) 4 (-1)) 5 (-1)) 6 (-1)) 7 (-1)))), (h2, .inr (2, [.ref h5, .int 0, .int 0]))] H := hP
                  have hD : va_D A [(h0, .inr (3, [.ref h2, .ref h3, .ref h4, .int 0])), (h1, .inl (cI, 12, .inl (upd (upd (upd (upd (upd (upd (upd (upd (fun _ => 0) 0 (-1)) 1 (-1)) 2 (-1)) 3 (-1)) 4 (-1)) 5 (-1)) 6 (-1)) 7 (-1)))), (h2, .inr (2, [.ref h5, .int 0, .int 0]))] := hD
                  refine lv_iinc (v := 8) (lv' := [(3, .int 8), (2, .int 0), (0, .ref h0), (1, .ref h1)]) hx hb dX3_layFirst_20 hl (k := 0) rfl (by decide) (by decide) rfl (fun ls hl => ?_)
                  refine lv_goto (tgt := 10) hx hb dX3_layFirst_23 (by decide) ?_
                  refine lv_iload_n hx hb dX3_layFirst_10 rfl (lv_at hl 0 rfl) ?_
                  refine lv_aload_n hx hb dX3_layFirst_11 rfl (lv_at hl 3 rfl) ?_
                  refine va_alen hx hb hK hP 1 0 rfl rfl (v := 12) (by decide) dX3_layFirst_12 ?_
                  refine lv_icmp_ge (tgt := 26) hx hb dX3_layFirst_13 (by decide) (fun c3334 => ?_) (fun c3334 => ?_)
                  · exact absurd c3334 (by decide)
                  · refine lv_aload_n hx hb dX3_layFirst_16 rfl (lv_at hl 3 rfl) ?_
                    refine lv_iload_n hx hb dX3_layFirst_17 rfl (lv_at hl 0 rfl) ?_
                    refine lv_iconst (v := (-1)) hx hb dX3_layFirst_18 (by decide) ?_
                    refine va_iast hx hb hK hP hD hS 1 0 rfl rfl (lz_vp (x := 8) (n := 12) (by decide) (by decide)) dX3_layFirst_19 (fun H locs hP hD hS => ?_)
                    have hP : va_P D cls [(h0, .inr (3, [.ref h2, .ref h3, .ref h4, .int 0])), (h1, .inl (cI, 12, .inl (upd (upd (upd (upd (upd (upd (upd (upd (upd (fun _ => 0) 0 (-1)) 1 (-1)) 2 (-1)) 3 (-1)) 4 (-1)) 5 (-1)) 6 (-1)) 7 (-1)) 8 (-1)))), (h2, .inr (2, [.ref h5, .int 0, .int 0]))] H := hP
                    have hD : va_D A [(h0, .inr (3, [.ref h2, .ref h3, .ref h4, .int 0])), (h1, .inl (cI, 12, .inl (upd (upd (upd (upd (upd (upd (upd (upd (upd (fun _ => 0) 0 (-1)) 1 (-1)) 2 (-1)) 3 (-1)) 4 (-1)) 5 (-1)) 6 (-1)) 7 (-1)) 8 (-1)))), (h2, .inr (2, [.ref h5, .int 0, .int 0]))] := hD
                    refine lv_iinc (v := 9) (lv' := [(3, .int 9), (2, .int 0), (0, .ref h0), (1, .ref h1)]) hx hb dX3_layFirst_20 hl (k := 0) rfl (by decide) (by decide) rfl (fun ls hl => ?_)
                    refine lv_goto (tgt := 10) hx hb dX3_layFirst_23 (by decide) ?_
                    refine lv_iload_n hx hb dX3_layFirst_10 rfl (lv_at hl 0 rfl) ?_
                    refine lv_aload_n hx hb dX3_layFirst_11 rfl (lv_at hl 3 rfl) ?_
                    refine va_alen hx hb hK hP 1 0 rfl rfl (v := 12) (by decide) dX3_layFirst_12 ?_
                    refine lv_icmp_ge (tgt := 26) hx hb dX3_layFirst_13 (by decide) (fun c3335 => ?_) (fun c3335 => ?_)
                    · exact absurd c3335 (by decide)
                    · refine lv_aload_n hx hb dX3_layFirst_16 rfl (lv_at hl 3 rfl) ?_
                      refine lv_iload_n hx hb dX3_layFirst_17 rfl (lv_at hl 0 rfl) ?_
                      refine lv_iconst (v := (-1)) hx hb dX3_layFirst_18 (by decide) ?_
                      refine va_iast hx hb hK hP hD hS 1 0 rfl rfl (lz_vp (x := 9) (n := 12) (by decide) (by decide)) dX3_layFirst_19 (fun H locs hP hD hS => ?_)
                      have hP : va_P D cls [(h0, .inr (3, [.ref h2, .ref h3, .ref h4, .int 0])), (h1, .inl (cI, 12, .inl (upd (upd (upd (upd (upd (upd (upd (upd (upd (upd (fun _ => 0) 0 (-1)) 1 (-1)) 2 (-1)) 3 (-1)) 4 (-1)) 5 (-1)) 6 (-1)) 7 (-1)) 8 (-1)) 9 (-1)))), (h2, .inr (2, [.ref h5, .int 0, .int 0]))] H := hP
                      have hD : va_D A [(h0, .inr (3, [.ref h2, .ref h3, .ref h4, .int 0])), (h1, .inl (cI, 12, .inl (upd (upd (upd (upd (upd (upd (upd (upd (upd (upd (fun _ => 0) 0 (-1)) 1 (-1)) 2 (-1)) 3 (-1)) 4 (-1)) 5 (-1)) 6 (-1)) 7 (-1)) 8 (-1)) 9 (-1)))), (h2, .inr (2, [.ref h5, .int 0, .int 0]))] := hD
                      refine lv_iinc (v := 10) (lv' := [(3, .int 10), (2, .int 0), (0, .ref h0), (1, .ref h1)]) hx hb dX3_layFirst_20 hl (k := 0) rfl (by decide) (by decide) rfl (fun ls hl => ?_)
                      refine lv_goto (tgt := 10) hx hb dX3_layFirst_23 (by decide) ?_
                      refine lv_iload_n hx hb dX3_layFirst_10 rfl (lv_at hl 0 rfl) ?_
                      refine lv_aload_n hx hb dX3_layFirst_11 rfl (lv_at hl 3 rfl) ?_
                      refine va_alen hx hb hK hP 1 0 rfl rfl (v := 12) (by decide) dX3_layFirst_12 ?_
                      refine lv_icmp_ge (tgt := 26) hx hb dX3_layFirst_13 (by decide) (fun c3336 => ?_) (fun c3336 => ?_)
                      · exact absurd c3336 (by decide)
                      · refine lv_aload_n hx hb dX3_layFirst_16 rfl (lv_at hl 3 rfl) ?_
                        refine lv_iload_n hx hb dX3_layFirst_17 rfl (lv_at hl 0 rfl) ?_
                        refine lv_iconst (v := (-1)) hx hb dX3_layFirst_18 (by decide) ?_
                        refine va_iast hx hb hK hP hD hS 1 0 rfl rfl (lz_vp (x := 10) (n := 12) (by decide) (by decide)) dX3_layFirst_19 (fun H locs hP hD hS => ?_)
                        have hP : va_P D cls [(h0, .inr (3, [.ref h2, .ref h3, .ref h4, .int 0])), (h1, .inl (cI, 12, .inl (upd (upd (upd (upd (upd (upd (upd (upd (upd (upd (upd (fun _ => 0) 0 (-1)) 1 (-1)) 2 (-1)) 3 (-1)) 4 (-1)) 5 (-1)) 6 (-1)) 7 (-1)) 8 (-1)) 9 (-1)) 10 (-1)))), (h2, .inr (2, [.ref h5, .int 0, .int 0]))] H := hP
                        have hD : va_D A [(h0, .inr (3, [.ref h2, .ref h3, .ref h4, .int 0])), (h1, .inl (cI, 12, .inl (upd (upd (upd (upd (upd (upd (upd (upd (upd (upd (upd (fun _ => 0) 0 (-1)) 1 (-1)) 2 (-1)) 3 (-1)) 4 (-1)) 5 (-1)) 6 (-1)) 7 (-1)) 8 (-1)) 9 (-1)) 10 (-1)))), (h2, .inr (2, [.ref h5, .int 0, .int 0]))] := hD
                        refine lv_iinc (v := 11) (lv' := [(3, .int 11), (2, .int 0), (0, .ref h0), (1, .ref h1)]) hx hb dX3_layFirst_20 hl (k := 0) rfl (by decide) (by decide) rfl (fun ls hl => ?_)
                        refine lv_goto (tgt := 10) hx hb dX3_layFirst_23 (by decide) ?_
                        refine lv_iload_n hx hb dX3_layFirst_10 rfl (lv_at hl 0 rfl) ?_
                        refine lv_aload_n hx hb dX3_layFirst_11 rfl (lv_at hl 3 rfl) ?_
                        refine va_alen hx hb hK hP 1 0 rfl rfl (v := 12) (by decide) dX3_layFirst_12 ?_
                        refine lv_icmp_ge (tgt := 26) hx hb dX3_layFirst_13 (by decide) (fun c3337 => ?_) (fun c3337 => ?_)
                        · exact absurd c3337 (by decide)
                        · refine lv_aload_n hx hb dX3_layFirst_16 rfl (lv_at hl 3 rfl) ?_
                          refine lv_iload_n hx hb dX3_layFirst_17 rfl (lv_at hl 0 rfl) ?_
                          refine lv_iconst (v := (-1)) hx hb dX3_layFirst_18 (by decide) ?_
                          refine va_iast hx hb hK hP hD hS 1 0 rfl rfl (lz_vp (x := 11) (n := 12) (by decide) (by decide)) dX3_layFirst_19 (fun H locs hP hD hS => ?_)
                          have hP : va_P D cls [(h0, .inr (3, [.ref h2, .ref h3, .ref h4, .int 0])), (h1, .inl (cI, 12, .inl (upd (upd (upd (upd (upd (upd (upd (upd (upd (upd (upd (upd (fun _ => 0) 0 (-1)) 1 (-1)) 2 (-1)) 3 (-1)) 4 (-1)) 5 (-1)) 6 (-1)) 7 (-1)) 8 (-1)) 9 (-1)) 10 (-1)) 11 (-1)))), (h2, .inr (2, [.ref h5, .int 0, .int 0]))] H := hP
                          have hD : va_D A [(h0, .inr (3, [.ref h2, .ref h3, .ref h4, .int 0])), (h1, .inl (cI, 12, .inl (upd (upd (upd (upd (upd (upd (upd (upd (upd (upd (upd (upd (fun _ => 0) 0 (-1)) 1 (-1)) 2 (-1)) 3 (-1)) 4 (-1)) 5 (-1)) 6 (-1)) 7 (-1)) 8 (-1)) 9 (-1)) 10 (-1)) 11 (-1)))), (h2, .inr (2, [.ref h5, .int 0, .int 0]))] := hD
                          refine lv_iinc (v := 12) (lv' := [(3, .int 12), (2, .int 0), (0, .ref h0), (1, .ref h1)]) hx hb dX3_layFirst_20 hl (k := 0) rfl (by decide) (by decide) rfl (fun ls hl => ?_)
                          refine lv_goto (tgt := 10) hx hb dX3_layFirst_23 (by decide) ?_
                          refine lv_iload_n hx hb dX3_layFirst_10 rfl (lv_at hl 0 rfl) ?_
                          refine lv_aload_n hx hb dX3_layFirst_11 rfl (lv_at hl 3 rfl) ?_
                          refine va_alen hx hb hK hP 1 0 rfl rfl (v := 12) (by decide) dX3_layFirst_12 ?_
                          refine lv_icmp_ge (tgt := 26) hx hb dX3_layFirst_13 (by decide) (fun c3338 => ?_) (fun c3338 => ?_)
                          · refine lv_iconst (v := 0) hx hb dX3_layFirst_26 (by decide) ?_
                            refine lv_istore_n (lv' := [(3, .int 0), (2, .int 0), (0, .ref h0), (1, .ref h1)]) hx hb dX3_layFirst_27 rfl hl (by decide) rfl (fun ls hl => ?_)
                            refine lv_iload_n hx hb dX3_layFirst_28 rfl (lv_at hl 0 rfl) ?_
                            refine lv_aload_n hx hb dX3_layFirst_29 rfl (lv_at hl 2 rfl) ?_
                            refine va_get (D := D) (ci := 3) (v := .ref h2) (C := RX3) (T := TX3) (N := 4) hx hb hts hin3 hown hK hP 0 rfl rfl 0 (by decide) (hts (.fieldLink RX3 23 "MissedPoints$Pairs" "net" "LMissedPoints$Net;") (by decide +kernel)) (fun _ h9 => h9) rfl dX3_layFirst_30 ?_
                            refine va_getN (D := D) (ci := 2) (v := .int 0) (C := RX2) (T := TX2) (N := 3) hx hb hts hin2 hown hK hP 2 rfl rfl 1 (by decide) (va_Nw.use rfl hN.2.2.2.2.2.2.2.2.2.2.2.2.1) (fun _ h9 => h9) rfl dX3_layFirst_33 ?_
                            refine lv_icmp_ge (tgt := 110) hx hb dX3_layFirst_36 (by decide) (fun c3339 => ?_) (fun c3339 => ?_)
                            · have hP9 := hP.sub (ws' := [(h0, .inr (3, [.ref h2, .ref h3, .ref h4, .int 0])), (h1, .inl (cI, 12, .inl (upd (upd (upd (upd (upd (upd (upd (upd (upd (upd (upd (upd (fun _ => 0) 0 (-1)) 1 (-1)) 2 (-1)) 3 (-1)) 4 (-1)) 5 (-1)) 6 (-1)) 7 (-1)) 8 (-1)) 9 (-1)) 10 (-1)) 11 (-1)))), (h2, .inr (2, [.ref h5, .int 0, .int 0]))]) [0, 1, 2] rfl
                              have hD9 := hD.sub (ws' := [(h0, .inr (3, [.ref h2, .ref h3, .ref h4, .int 0])), (h1, .inl (cI, 12, .inl (upd (upd (upd (upd (upd (upd (upd (upd (upd (upd (upd (upd (fun _ => 0) 0 (-1)) 1 (-1)) 2 (-1)) 3 (-1)) 4 (-1)) 5 (-1)) 6 (-1)) 7 (-1)) 8 (-1)) 9 (-1)) 10 (-1)) 11 (-1)))), (h2, .inr (2, [.ref h5, .int 0, .int 0]))]) [0, 1, 2] (by decide) rfl
                              subst hAe
                              exact W.vret hx hb hr (fun t ht hW => ⟨⟨(), rfl, trivial, by rw [ht]; exact hP9, hD9⟩, hS.F ht⟩) hS.2.2 dX3_layFirst_110
                            · exact absurd c3339 (by decide)
                          · exact absurd c3338 (by decide)
set_option maxHeartbeats 4000000 in
set_option maxRecDepth 100000 in
theorem c_X9_becomeFirst_0 (l : Launch) (D : va_G) (cI cS : ClassId) (sz : Nat) (h0 h1 h2 h3 h4 h5 h6 h7 h8 : Nat) : Met l yX9_becomeFirst wsX9_becomeFirst ({ frames := 2, cells := 0, slots := 0, locals := 80 }) (PQ D cI cS [(h0, .inr (9, [.ref h1, .ref h2, .ref h3, .ref h4, .ref h5, .int 0])), (h1, .inr (2, [.ref h6, .int 0, .int 0])), (h2, .inr (3, [.ref h1, .ref h7, .ref h8, .int 0])), (h3, .inl (cI, 12, .inl (fun _ => 0)))] sz [.ref h0]) (QV D [(h0, .inr (9, [.ref h1, .ref h2, .ref h3, .ref h4, .ref h5, .int 0])), (h1, .inr (2, [.ref h6, .int 0, .int 0])), (h2, .inr (3, [.ref h1, .ref h7, .ref h8, .int 0])), (h3, .inl (cI, 12, .inl (fun _ => 0)))] [(h0, .inr (9, [.ref h1, .ref h2, .ref h3, .ref h4, .ref h5, .int 0])), (h2, .inr (3, [.ref h1, .ref h7, .ref h8, .int 0])), (h3, .inl (cI, 12, .inl (upd (upd (upd (upd (upd (upd (upd (upd (upd (upd (upd (upd (fun _ => 0) 0 (-1)) 1 (-1)) 2 (-1)) 3 (-1)) 4 (-1)) 5 (-1)) 6 (-1)) 7 (-1)) 8 (-1)) 9 (-1)) 10 (-1)) 11 (-1)))), (h1, .inr (2, [.ref h6, .int 0, .int 0]))] sz) 0 0 (va_A [(h0, .inr (9, [.ref h1, .ref h2, .ref h3, .ref h4, .ref h5, .int 0])), (h1, .inr (2, [.ref h6, .int 0, .int 0])), (h2, .inr (3, [.ref h1, .ref h7, .ref h8, .int 0])), (h3, .inl (cI, 12, .inl (fun _ => 0)))] sz) := by
  refine Met.ofW (cc := cX9_becomeFirst) (maxL := 1) (ret := none) (by decide) rfl ?_
  intro p e s m args below meth c s₁ B hml hv
  obtain ⟨rfl, hsz, hP, hKK, hD0⟩ := hv
  have hx := B.exec
  have hb := B.bytes
  have hr := B.returns
  have hts := atoms_spec (ws := wsX9_becomeFirst) B.pre
  have hown : s.vm.findClass RX9 = some m.cls := findClass_of_methodNamed B.named
  have hlocks := B.notSynchronized
  have hK := hKK.1
  have hN := hKK.2
  have hin9 : ∀ w ∈ wsX90, w ∈ wsX9_becomeFirst := by decide +kernel
  subst hsz
  have hD := hD0.self (sz := s.heap.size)
  obtain ⟨A, hAe⟩ : ∃ A, A = va_A [(h0, .inr (9, [.ref h1, .ref h2, .ref h3, .ref h4, .ref h5, .int 0])), (h1, .inr (2, [.ref h6, .int 0, .int 0])), (h2, .inr (3, [.ref h1, .ref h7, .ref h8, .int 0])), (h3, .inl (cI, 12, .inl (fun _ => 0)))] s.heap.size := ⟨_, rfl⟩
  rw [← hAe] at hD
  have hA : ∀ q : Nat, s.heap.size ≤ q → A q := fun q h => by rw [hAe]; exact Or.inr h
  have hS : va_S A s.heap s.heap [] := va_S.rf
  have hl := lv_entry ([.ref h0]) (n := 1) (Nat.le_of_ble_eq_true rfl)
  rw [lg_entry_eq]
  generalize (lg_sl ([.ref h0]) ++ List.replicate (1 - (lg_sl ([.ref h0])).length) Slot.unset).toArray = ls at hl ⊢
  have hl : lv_has ls 1 [(0, .ref h0)] := hl
  refine lv_aload_n hx hb dX9_becomeFirst_0 rfl (lv_at hl 0 rfl) ?_
  refine va_get (D := D) (ci := 9) (v := .ref h2) (C := RX9) (T := TX9) (N := 6) hx hb hts hin9 hown hK hP 0 rfl rfl 1 (by decide) (hts (.fieldLink RX9 25 "MissedPoints$Told" "pairs" "LMissedPoints$Pairs;") (by decide +kernel)) (fun _ h9 => h9) rfl dX9_becomeFirst_1 ?_
  refine lv_aload_n hx hb dX9_becomeFirst_4 rfl (lv_at hl 0 rfl) ?_
  refine va_get (D := D) (ci := 9) (v := .ref h3) (C := RX9) (T := TX9) (N := 6) hx hb hts hin9 hown hK hP 0 rfl rfl 2 (by decide) (hts (.fieldLink RX9 9 "MissedPoints$Told" "mates" "[I") (by decide +kernel)) (fun _ h9 => h9) rfl dX9_becomeFirst_5 ?_
  have hPc := hP.sub (ws' := [(h2, .inr (3, [.ref h1, .ref h7, .ref h8, .int 0])), (h3, .inl (cI, 12, .inl (fun _ => 0))), (h1, .inr (2, [.ref h6, .int 0, .int 0]))]) [2, 3, 1] rfl
  have hDc := hD.sub (ws' := [(h2, .inr (3, [.ref h1, .ref h7, .ref h8, .int 0])), (h3, .inl (cI, 12, .inl (fun _ => 0))), (h1, .inr (2, [.ref h6, .int 0, .int 0]))]) [2, 3, 1] (by decide) rfl
  refine lz_qv (wr := [(h0, .inr (9, [.ref h1, .ref h2, .ref h3, .ref h4, .ref h5, .int 0]))]) (w1 := [(h2, .inr (3, [.ref h1, .ref h7, .ref h8, .int 0])), (h3, .inl (cI, 12, .inl (upd (upd (upd (upd (upd (upd (upd (upd (upd (upd (upd (upd (fun _ => 0) 0 (-1)) 1 (-1)) 2 (-1)) 3 (-1)) 4 (-1)) 5 (-1)) 6 (-1)) 7 (-1)) 8 (-1)) 9 (-1)) 10 (-1)) 11 (-1)))), (h1, .inr (2, [.ref h6, .int 0, .int 0]))]) (As := [.ref h3]) (rest := []) ⟨hx, hb, hml, hown, hts⟩ (c_X3_layFirst_0 l D cI cS _ h2 h3 h1 h7 h8 h6) hKK hP hD hS hA [2, 3, 1] [0] (by decide) rfl rfl (by decide) (by decide) hPc hDc (ci := 3) rfl rfl (cwV 1 hts gX9_becomeFirst_X3_layFirst rfl rfl rfl (by decide +kernel) ⟨Nat.le_of_ble_eq_true rfl, Nat.le_of_ble_eq_true rfl⟩) rfl hl.1 rfl (Nat.le_of_ble_eq_true rfl) dX9_becomeFirst_8 ⟨Nat.le_of_ble_eq_true rfl, Nat.le_of_ble_eq_true rfl⟩ (fun H locs hP hD hS => ?_)
  have hP : va_P D cls [(h0, .inr (9, [.ref h1, .ref h2, .ref h3, .ref h4, .ref h5, .int 0])), (h2, .inr (3, [.ref h1, .ref h7, .ref h8, .int 0])), (h3, .inl (cI, 12, .inl (upd (upd (upd (upd (upd (upd (upd (upd (upd (upd (upd (upd (fun _ => 0) 0 (-1)) 1 (-1)) 2 (-1)) 3 (-1)) 4 (-1)) 5 (-1)) 6 (-1)) 7 (-1)) 8 (-1)) 9 (-1)) 10 (-1)) 11 (-1)))), (h1, .inr (2, [.ref h6, .int 0, .int 0]))] H := hP
  have hD : va_D A [(h0, .inr (9, [.ref h1, .ref h2, .ref h3, .ref h4, .ref h5, .int 0])), (h2, .inr (3, [.ref h1, .ref h7, .ref h8, .int 0])), (h3, .inl (cI, 12, .inl (upd (upd (upd (upd (upd (upd (upd (upd (upd (upd (upd (upd (fun _ => 0) 0 (-1)) 1 (-1)) 2 (-1)) 3 (-1)) 4 (-1)) 5 (-1)) 6 (-1)) 7 (-1)) 8 (-1)) 9 (-1)) 10 (-1)) 11 (-1)))), (h1, .inr (2, [.ref h6, .int 0, .int 0]))] := hD
  have hP9 := hP.sub (ws' := [(h0, .inr (9, [.ref h1, .ref h2, .ref h3, .ref h4, .ref h5, .int 0])), (h2, .inr (3, [.ref h1, .ref h7, .ref h8, .int 0])), (h3, .inl (cI, 12, .inl (upd (upd (upd (upd (upd (upd (upd (upd (upd (upd (upd (upd (fun _ => 0) 0 (-1)) 1 (-1)) 2 (-1)) 3 (-1)) 4 (-1)) 5 (-1)) 6 (-1)) 7 (-1)) 8 (-1)) 9 (-1)) 10 (-1)) 11 (-1)))), (h1, .inr (2, [.ref h6, .int 0, .int 0]))]) [0, 1, 2, 3] rfl
  have hD9 := hD.sub (ws' := [(h0, .inr (9, [.ref h1, .ref h2, .ref h3, .ref h4, .ref h5, .int 0])), (h2, .inr (3, [.ref h1, .ref h7, .ref h8, .int 0])), (h3, .inl (cI, 12, .inl (upd (upd (upd (upd (upd (upd (upd (upd (upd (upd (upd (upd (fun _ => 0) 0 (-1)) 1 (-1)) 2 (-1)) 3 (-1)) 4 (-1)) 5 (-1)) 6 (-1)) 7 (-1)) 8 (-1)) 9 (-1)) 10 (-1)) 11 (-1)))), (h1, .inr (2, [.ref h6, .int 0, .int 0]))]) [0, 1, 2, 3] (by decide) rfl
  subst hAe
  exact W.vret hx hb hr (fun t ht hW => ⟨⟨(), rfl, trivial, by rw [ht]; exact hP9, hD9⟩, hS.F ht⟩) hS.2.2 dX9_becomeFirst_11
set_option maxHeartbeats 4000000 in
set_option maxRecDepth 100000 in
theorem c_X6_become_0 (l : Launch) (D : va_G) (cI cS : ClassId) (sz : Nat) (h0 h1 : Nat) : Met l yX6_become wsX6_become ({ frames := 1, cells := 0, slots := 0, locals := 40 }) (PQ D cI cS [(h0, .inr (6, [.ref h1, .int (-1), .int 0])), (h1, .inl (cI, 40, .inl (fun _ => 0)))] sz [.ref h0, .int 0, .int 0]) (QV D [(h0, .inr (6, [.ref h1, .int (-1), .int 0])), (h1, .inl (cI, 40, .inl (fun _ => 0)))] [(h0, .inr (6, [.ref h1, .int 0, .int 0])), (h1, .inl (cI, 40, .inl (fun _ => 0)))] sz) 0 0 (va_A [(h0, .inr (6, [.ref h1, .int (-1), .int 0])), (h1, .inl (cI, 40, .inl (fun _ => 0)))] sz) := by
  refine Met.ofW (cc := cX6_become) (maxL := 4) (ret := none) (by decide) rfl ?_
  intro p e s m args below meth c s₁ B hml hv
  obtain ⟨rfl, hsz, hP, hKK, hD0⟩ := hv
  have hx := B.exec
  have hb := B.bytes
  have hr := B.returns
  have hts := atoms_spec (ws := wsX6_become) B.pre
  have hown : s.vm.findClass RX6 = some m.cls := findClass_of_methodNamed B.named
  have hlocks := B.notSynchronized
  have hK := hKK.1
  have hN := hKK.2
  have hin6 : ∀ w ∈ wsX60, w ∈ wsX6_become := by decide +kernel
  subst hsz
  have hD := hD0.self (sz := s.heap.size)
  obtain ⟨A, hAe⟩ : ∃ A, A = va_A [(h0, .inr (6, [.ref h1, .int (-1), .int 0])), (h1, .inl (cI, 40, .inl (fun _ => 0)))] s.heap.size := ⟨_, rfl⟩
  rw [← hAe] at hD
  have hA : ∀ q : Nat, s.heap.size ≤ q → A q := fun q h => by rw [hAe]; exact Or.inr h
  have hS : va_S A s.heap s.heap [] := va_S.rf
  have hl := lv_entry ([.ref h0, .int 0, .int 0]) (n := 4) (Nat.le_of_ble_eq_true rfl)
  rw [lg_entry_eq]
  generalize (lg_sl ([.ref h0, .int 0, .int 0]) ++ List.replicate (4 - (lg_sl ([.ref h0, .int 0, .int 0])).length) Slot.unset).toArray = ls at hl ⊢
  have hl : lv_has ls 4 [(0, .ref h0), (1, .int 0), (2, .int 0)] := hl
  refine lv_aload_n hx hb dX6_become_0 rfl (lv_at hl 0 rfl) ?_
  refine lv_iload_n hx hb dX6_become_1 rfl (lv_at hl 1 rfl) ?_
  refine va_put (D := D) (ci := 6) (v := .int 0) (ty := .int) (C := RX6) (T := TX6) (N := 3) hx hb hts hin6 tyX6 tyX6_ok nmX6 hown hK hP hD hS 0 rfl rfl 1 (by decide) (hts (.fieldLink RX6 15 "MissedPoints$Sheet" "sort" "I") (by decide +kernel)) (fun _ h9 => h9) rfl (by decide +kernel) rfl rfl (Nat.le_of_ble_eq_true rfl) dX6_become_2 (fun H locs hP hD hS => ?_)
  have hP : va_P D cls [(h0, .inr (6, [.ref h1, .int 0, .int 0])), (h1, .inl (cI, 40, .inl (fun _ => 0)))] H := hP
  have hD : va_D A [(h0, .inr (6, [.ref h1, .int 0, .int 0])), (h1, .inl (cI, 40, .inl (fun _ => 0)))] := hD
  refine lv_aload_n hx hb dX6_become_5 rfl (lv_at hl 0 rfl) ?_
  refine lv_iconst (v := 0) hx hb dX6_become_6 (by decide) ?_
  refine lv_iload_n hx hb dX6_become_7 rfl (lv_at hl 2 rfl) ?_
  refine lv_bipush (v := 40) hx hb dX6_become_8 (by decide) ?_
  refine va_mmin hx hb (by rw [hml]; exact hl.1.symm) hown (hts (.methodLink RX6 19 Lib.Math.min.name) (by decide +kernel)) (hts (.static Lib.Math.min.name) (by decide +kernel)) (hts (.initialized "java/lang/Math") (by decide +kernel)) (hts (.code Lib.Math.min.name Lib.Math.min.code 2 (some .int)) (by decide +kernel)) (Nat.le_of_ble_eq_true rfl) (Nat.le_of_ble_eq_true rfl) (Nat.le_of_ble_eq_true rfl) (Nat.le_of_ble_eq_true rfl) dX6_become_10 ?_
  refine lz_top (y := 0) (by decide) ?_
  refine va_mmax hx hb (by rw [hml]; exact hl.1.symm) hown (hts (.methodLink RX6 25 Lib.Math.max.name) (by decide +kernel)) (hts (.static Lib.Math.max.name) (by decide +kernel)) (hts (.initialized "java/lang/Math") (by decide +kernel)) (hts (.code Lib.Math.max.name Lib.Math.max.code 2 (some .int)) (by decide +kernel)) (Nat.le_of_ble_eq_true rfl) (Nat.le_of_ble_eq_true rfl) (Nat.le_of_ble_eq_true rfl) (Nat.le_of_ble_eq_true rfl) dX6_become_13 ?_
  refine lz_top (y := 0) (by decide) ?_
  refine va_put (D := D) (ci := 6) (v := .int 0) (ty := .int) (C := RX6) (T := TX6) (N := 3) hx hb hts hin6 tyX6 tyX6_ok nmX6 hown hK hP hD hS 0 rfl rfl 2 (by decide) (hts (.fieldLink RX6 28 "MissedPoints$Sheet" "size" "I") (by decide +kernel)) (fun _ h9 => h9) rfl (by decide +kernel) rfl rfl (Nat.le_of_ble_eq_true rfl) dX6_become_16 (fun H locs hP hD hS => ?_)
  have hP : va_P D cls [(h0, .inr (6, [.ref h1, .int 0, .int 0])), (h1, .inl (cI, 40, .inl (fun _ => 0)))] H := hP
  have hD : va_D A [(h0, .inr (6, [.ref h1, .int 0, .int 0])), (h1, .inl (cI, 40, .inl (fun _ => 0)))] := hD
  refine lv_iconst (v := 0) hx hb dX6_become_19 (by decide) ?_
  refine lv_istore_n (lv' := [(3, .int 0), (0, .ref h0), (1, .int 0), (2, .int 0)]) hx hb dX6_become_20 rfl hl (by decide) rfl (fun ls hl => ?_)
  refine lv_iload_n hx hb dX6_become_21 rfl (lv_at hl 0 rfl) ?_
  refine lv_bipush (v := 40) hx hb dX6_become_22 (by decide) ?_
  refine lv_icmp_ge (tgt := 40) hx hb dX6_become_24 (by decide) (fun c3385 => ?_) (fun c3385 => ?_)
  · exact absurd c3385 (by decide)
  · refine lv_aload_n hx hb dX6_become_27 rfl (lv_at hl 1 rfl) ?_
    refine va_get (D := D) (ci := 6) (v := .ref h1) (C := RX6) (T := TX6) (N := 3) hx hb hts hin6 hown hK hP 0 rfl rfl 0 (by decide) (hts (.fieldLink RX6 9 "MissedPoints$Sheet" "numbers" "[I") (by decide +kernel)) (fun _ h9 => h9) rfl dX6_become_28 ?_
    refine lv_iload_n hx hb dX6_become_31 rfl (lv_at hl 0 rfl) ?_
    refine lv_iconst (v := 0) hx hb dX6_become_32 (by decide) ?_
    refine lz_astc hx hb hK hP hD hS 1 0 rfl rfl (lz_vp (x := 0) (n := 40) (by decide) (by decide)) dX6_become_33 (fun H locs hP hD hS => ?_)
    refine lv_iinc (v := 1) (lv' := [(3, .int 1), (0, .ref h0), (1, .int 0), (2, .int 0)]) hx hb dX6_become_34 hl (k := 0) rfl (by decide) (by decide) rfl (fun ls hl => ?_)
    refine lv_goto (tgt := 21) hx hb dX6_become_37 (by decide) ?_
    refine lv_iload_n hx hb dX6_become_21 rfl (lv_at hl 0 rfl) ?_
    refine lv_bipush (v := 40) hx hb dX6_become_22 (by decide) ?_
    refine lv_icmp_ge (tgt := 40) hx hb dX6_become_24 (by decide) (fun c3386 => ?_) (fun c3386 => ?_)
    · exact absurd c3386 (by decide)
    · refine lv_aload_n hx hb dX6_become_27 rfl (lv_at hl 1 rfl) ?_
      refine va_get (D := D) (ci := 6) (v := .ref h1) (C := RX6) (T := TX6) (N := 3) hx hb hts hin6 hown hK hP 0 rfl rfl 0 (by decide) (hts (.fieldLink RX6 9 "MissedPoints$Sheet" "numbers" "[I") (by decide +kernel)) (fun _ h9 => h9) rfl dX6_become_28 ?_
      refine lv_iload_n hx hb dX6_become_31 rfl (lv_at hl 0 rfl) ?_
      refine lv_iconst (v := 0) hx hb dX6_become_32 (by decide) ?_
      refine lz_astc hx hb hK hP hD hS 1 0 rfl rfl (lz_vp (x := 1) (n := 40) (by decide) (by decide)) dX6_become_33 (fun H locs hP hD hS => ?_)
      refine lv_iinc (v := 2) (lv' := [(3, .int 2), (0, .ref h0), (1, .int 0), (2, .int 0)]) hx hb dX6_become_34 hl (k := 0) rfl (by decide) (by decide) rfl (fun ls hl => ?_)
      refine lv_goto (tgt := 21) hx hb dX6_become_37 (by decide) ?_
      refine lv_iload_n hx hb dX6_become_21 rfl (lv_at hl 0 rfl) ?_
      refine lv_bipush (v := 40) hx hb dX6_become_22 (by decide) ?_
      refine lv_icmp_ge (tgt := 40) hx hb dX6_become_24 (by decide) (fun c3387 => ?_) (fun c3387 => ?_)
      · exact absurd c3387 (by decide)
      · refine lv_aload_n hx hb dX6_become_27 rfl (lv_at hl 1 rfl) ?_
        refine va_get (D := D) (ci := 6) (v := .ref h1) (C := RX6) (T := TX6) (N := 3) hx hb hts hin6 hown hK hP 0 rfl rfl 0 (by decide) (hts (.fieldLink RX6 9 "MissedPoints$Sheet" "numbers" "[I") (by decide +kernel)) (fun _ h9 => h9) rfl dX6_become_28 ?_
        refine lv_iload_n hx hb dX6_become_31 rfl (lv_at hl 0 rfl) ?_
        refine lv_iconst (v := 0) hx hb dX6_become_32 (by decide) ?_
        refine lz_astc hx hb hK hP hD hS 1 0 rfl rfl (lz_vp (x := 2) (n := 40) (by decide) (by decide)) dX6_become_33 (fun H locs hP hD hS => ?_)
        refine lv_iinc (v := 3) (lv' := [(3, .int 3), (0, .ref h0), (1, .int 0), (2, .int 0)]) hx hb dX6_become_34 hl (k := 0) rfl (by decide) (by decide) rfl (fun ls hl => ?_)
        refine lv_goto (tgt := 21) hx hb dX6_become_37 (by decide) ?_
        refine lv_iload_n hx hb dX6_become_21 rfl (lv_at hl 0 rfl) ?_
        refine lv_bipush (v := 40) hx hb dX6_become_22 (by decide) ?_
        refine lv_icmp_ge (tgt := 40) hx hb dX6_become_24 (by decide) (fun c3388 => ?_) (fun c3388 => ?_)
        · exact absurd c3388 (by decide)
        · refine lv_aload_n hx hb dX6_become_27 rfl (lv_at hl 1 rfl) ?_
          refine va_get (D := D) (ci := 6) (v := .ref h1) (C := RX6) (T := TX6) (N := 3) hx hb hts hin6 hown hK hP 0 rfl rfl 0 (by decide) (hts (.fieldLink RX6 9 "MissedPoints$Sheet" "numbers" "[I") (by decide +kernel)) (fun _ h9 => h9) rfl dX6_become_28 ?_
          refine lv_iload_n hx hb dX6_become_31 rfl (lv_at hl 0 rfl) ?_
          refine lv_iconst (v := 0) hx hb dX6_become_32 (by decide) ?_
          refine lz_astc hx hb hK hP hD hS 1 0 rfl rfl (lz_vp (x := 3) (n := 40) (by decide) (by decide)) dX6_become_33 (fun H locs hP hD hS => ?_)
          refine lv_iinc (v := 4) (lv' := [(3, .int 4), (0, .ref h0), (1, .int 0), (2, .int 0)]) hx hb dX6_become_34 hl (k := 0) rfl (by decide) (by decide) rfl (fun ls hl => ?_)
          refine lv_goto (tgt := 21) hx hb dX6_become_37 (by decide) ?_
          refine lv_iload_n hx hb dX6_become_21 rfl (lv_at hl 0 rfl) ?_
          refine lv_bipush (v := 40) hx hb dX6_become_22 (by decide) ?_
          refine lv_icmp_ge (tgt := 40) hx hb dX6_become_24 (by decide) (fun c3389 => ?_) (fun c3389 => ?_)
          · exact absurd c3389 (by decide)
          · refine lv_aload_n hx hb dX6_become_27 rfl (lv_at hl 1 rfl) ?_
            refine va_get (D := D) (ci := 6) (v := .ref h1) (C := RX6) (T := TX6) (N := 3) hx hb hts hin6 hown hK hP 0 rfl rfl 0 (by decide) (hts (.fieldLink RX6 9 "MissedPoints$Sheet" "numbers" "[I") (by decide +kernel)) (fun _ h9 => h9) rfl dX6_become_28 ?_
            refine lv_iload_n hx hb dX6_become_31 rfl (lv_at hl 0 rfl) ?_
            refine lv_iconst (v := 0) hx hb dX6_become_32 (by decide) ?_
            refine lz_astc hx hb hK hP hD hS 1 0 rfl rfl (lz_vp (x := 4) (n := 40) (by decide) (by decide)) dX6_become_33 (fun H locs hP hD hS => ?_)
            refine lv_iinc (v := 5) (lv' := [(3, .int 5), (0, .ref h0), (1, .int 0), (2, .int 0)]) hx hb dX6_become_34 hl (k := 0) rfl (by decide) (by decide) rfl (fun ls hl => ?_)
            refine lv_goto (tgt := 21) hx hb dX6_become_37 (by decide) ?_
            refine lv_iload_n hx hb dX6_become_21 rfl (lv_at hl 0 rfl) ?_
            refine lv_bipush (v := 40) hx hb dX6_become_22 (by decide) ?_
            refine lv_icmp_ge (tgt := 40) hx hb dX6_become_24 (by decide) (fun c3390 => ?_) (fun c3390 => ?_)
            · exact absurd c3390 (by decide)
            · refine lv_aload_n hx hb dX6_become_27 rfl (lv_at hl 1 rfl) ?_
              refine va_get (D := D) (ci := 6) (v := .ref h1) (C := RX6) (T := TX6) (N := 3) hx hb hts hin6 hown hK hP 0 rfl rfl 0 (by decide) (hts (.fieldLink RX6 9 "MissedPoints$Sheet" "numbers" "[I") (by decide +kernel)) (fun _ h9 => h9) rfl dX6_become_28 ?_
              refine lv_iload_n hx hb dX6_become_31 rfl (lv_at hl 0 rfl) ?_
              refine lv_iconst (v := 0) hx hb dX6_become_32 (by decide) ?_
              refine lz_astc hx hb hK hP hD hS 1 0 rfl rfl (lz_vp (x := 5) (n := 40) (by decide) (by decide)) dX6_become_33 (fun H locs hP hD hS => ?_)
              refine lv_iinc (v := 6) (lv' := [(3, .int 6), (0, .ref h0), (1, .int 0), (2, .int 0)]) hx hb dX6_become_34 hl (k := 0) rfl (by decide) (by decide) rfl (fun ls hl => ?_)
              refine lv_goto (tgt := 21) hx hb dX6_become_37 (by decide) ?_
              refine lv_iload_n hx hb dX6_become_21 rfl (lv_at hl 0 rfl) ?_
              refine lv_bipush (v := 40) hx hb dX6_become_22 (by decide) ?_
              refine lv_icmp_ge (tgt := 40) hx hb dX6_become_24 (by decide) (fun c3391 => ?_) (fun c3391 => ?_)
              · exact absurd c3391 (by decide)
              · refine lv_aload_n hx hb dX6_become_27 rfl (lv_at hl 1 rfl) ?_
                refine va_get (D := D) (ci := 6) (v := .ref h1) (C := RX6) (T := TX6) (N := 3) hx hb hts hin6 hown hK hP 0 rfl rfl 0 (by decide) (hts (.fieldLink RX6 9 "MissedPoints$Sheet" "numbers" "[I") (by decide +kernel)) (fun _ h9 => h9) rfl dX6_become_28 ?_
                refine lv_iload_n hx hb dX6_become_31 rfl (lv_at hl 0 rfl) ?_
                refine lv_iconst (v := 0) hx hb dX6_become_32 (by decide) ?_
                refine lz_astc hx hb hK hP hD hS 1 0 rfl rfl (lz_vp (x := 6) (n := 40) (by decide) (by decide)) dX6_become_33 (fun H locs hP hD hS => ?_)
                refine lv_iinc (v := 7) (lv' := [(3, .int 7), (0, .ref h0), (1, .int 0), (2, .int 0)]) hx hb dX6_become_34 hl (k := 0) rfl (by decide) (by decide) rfl (fun ls hl => ?_)
                refine lv_goto (tgt := 21) hx hb dX6_become_37 (by decide) ?_
                refine lv_iload_n hx hb dX6_become_21 rfl (lv_at hl 0 rfl) ?_
                refine lv_bipush (v := 40) hx hb dX6_become_22 (by decide) ?_
                refine lv_icmp_ge (tgt := 40) hx hb dX6_become_24 (by decide) (fun c3392 => ?_) (fun c3392 => ?_)
                · exact absurd c3392 (by decide)
                · refine lv_aload_n hx hb dX6_become_27 rfl (lv_at hl 1 rfl) ?_
                  refine va_get (D := D) (ci := 6) (v := .ref h1) (C := RX6) (T := TX6) (N := 3) hx hb hts hin6 hown hK hP 0 rfl rfl 0 (by decide) (hts (.fieldLink RX6 9 "MissedPoints$Sheet" "numbers" "[I") (by decide +kernel)) (fun _ h9 => h9) rfl dX6_become_28 ?_
                  refine lv_iload_n hx hb dX6_become_31 rfl (lv_at hl 0 rfl) ?_
                  refine lv_iconst (v := 0) hx hb dX6_become_32 (by decide) ?_
                  refine lz_astc hx hb hK hP hD hS 1 0 rfl rfl (lz_vp (x := 7) (n := 40) (by decide) (by decide)) dX6_become_33 (fun H locs hP hD hS => ?_)
                  refine lv_iinc (v := 8) (lv' := [(3, .int 8), (0, .ref h0), (1, .int 0), (2, .int 0)]) hx hb dX6_become_34 hl (k := 0) rfl (by decide) (by decide) rfl (fun ls hl => ?_)
                  refine lv_goto (tgt := 21) hx hb dX6_become_37 (by decide) ?_
                  refine lv_iload_n hx hb dX6_become_21 rfl (lv_at hl 0 rfl) ?_
                  refine lv_bipush (v := 40) hx hb dX6_become_22 (by decide) ?_
                  refine lv_icmp_ge (tgt := 40) hx hb dX6_become_24 (by decide) (fun c3393 => ?_) (fun c3393 => ?_)
                  · exact absurd c3393 (by decide)
                  · refine lv_aload_n hx hb dX6_become_27 rfl (lv_at hl 1 rfl) ?_
                    refine va_get (D := D) (ci := 6) (v := .ref h1) (C := RX6) (T := TX6) (N := 3) hx hb hts hin6 hown hK hP 0 rfl rfl 0 (by decide) (hts (.fieldLink RX6 9 "MissedPoints$Sheet" "numbers" "[I") (by decide +kernel)) (fun _ h9 => h9) rfl dX6_become_28 ?_
                    refine lv_iload_n hx hb dX6_become_31 rfl (lv_at hl 0 rfl) ?_
                    refine lv_iconst (v := 0) hx hb dX6_become_32 (by decide) ?_
                    refine lz_astc hx hb hK hP hD hS 1 0 rfl rfl (lz_vp (x := 8) (n := 40) (by decide) (by decide)) dX6_become_33 (fun H locs hP hD hS => ?_)
                    refine lv_iinc (v := 9) (lv' := [(3, .int 9), (0, .ref h0), (1, .int 0), (2, .int 0)]) hx hb dX6_become_34 hl (k := 0) rfl (by decide) (by decide) rfl (fun ls hl => ?_)
                    refine lv_goto (tgt := 21) hx hb dX6_become_37 (by decide) ?_
                    refine lv_iload_n hx hb dX6_become_21 rfl (lv_at hl 0 rfl) ?_
                    refine lv_bipush (v := 40) hx hb dX6_become_22 (by decide) ?_
                    refine lv_icmp_ge (tgt := 40) hx hb dX6_become_24 (by decide) (fun c3394 => ?_) (fun c3394 => ?_)
                    · exact absurd c3394 (by decide)
                    · refine lv_aload_n hx hb dX6_become_27 rfl (lv_at hl 1 rfl) ?_
                      refine va_get (D := D) (ci := 6) (v := .ref h1) (C := RX6) (T := TX6) (N := 3) hx hb hts hin6 hown hK hP 0 rfl rfl 0 (by decide) (hts (.fieldLink RX6 9 "MissedPoints$Sheet" "numbers" "[I") (by decide +kernel)) (fun _ h9 => h9) rfl dX6_become_28 ?_
                      refine lv_iload_n hx hb dX6_become_31 rfl (lv_at hl 0 rfl) ?_
                      refine lv_iconst (v := 0) hx hb dX6_become_32 (by decide) ?_
                      refine lz_astc hx hb hK hP hD hS 1 0 rfl rfl (lz_vp (x := 9) (n := 40) (by decide) (by decide)) dX6_become_33 (fun H locs hP hD hS => ?_)
                      refine lv_iinc (v := 10) (lv' := [(3, .int 10), (0, .ref h0), (1, .int 0), (2, .int 0)]) hx hb dX6_become_34 hl (k := 0) rfl (by decide) (by decide) rfl (fun ls hl => ?_)
                      refine lv_goto (tgt := 21) hx hb dX6_become_37 (by decide) ?_
                      refine lv_iload_n hx hb dX6_become_21 rfl (lv_at hl 0 rfl) ?_
                      refine lv_bipush (v := 40) hx hb dX6_become_22 (by decide) ?_
                      refine lv_icmp_ge (tgt := 40) hx hb dX6_become_24 (by decide) (fun c3395 => ?_) (fun c3395 => ?_)
                      · exact absurd c3395 (by decide)
                      · refine lv_aload_n hx hb dX6_become_27 rfl (lv_at hl 1 rfl) ?_
                        refine va_get (D := D) (ci := 6) (v := .ref h1) (C := RX6) (T := TX6) (N := 3) hx hb hts hin6 hown hK hP 0 rfl rfl 0 (by decide) (hts (.fieldLink RX6 9 "MissedPoints$Sheet" "numbers" "[I") (by decide +kernel)) (fun _ h9 => h9) rfl dX6_become_28 ?_
                        refine lv_iload_n hx hb dX6_become_31 rfl (lv_at hl 0 rfl) ?_
                        refine lv_iconst (v := 0) hx hb dX6_become_32 (by decide) ?_
                        refine lz_astc hx hb hK hP hD hS 1 0 rfl rfl (lz_vp (x := 10) (n := 40) (by decide) (by decide)) dX6_become_33 (fun H locs hP hD hS => ?_)
                        refine lv_iinc (v := 11) (lv' := [(3, .int 11), (0, .ref h0), (1, .int 0), (2, .int 0)]) hx hb dX6_become_34 hl (k := 0) rfl (by decide) (by decide) rfl (fun ls hl => ?_)
                        refine lv_goto (tgt := 21) hx hb dX6_become_37 (by decide) ?_
                        refine lv_iload_n hx hb dX6_become_21 rfl (lv_at hl 0 rfl) ?_
                        refine lv_bipush (v := 40) hx hb dX6_become_22 (by decide) ?_
                        refine lv_icmp_ge (tgt := 40) hx hb dX6_become_24 (by decide) (fun c3396 => ?_) (fun c3396 => ?_)
                        · exact absurd c3396 (by decide)
                        · refine lv_aload_n hx hb dX6_become_27 rfl (lv_at hl 1 rfl) ?_
                          refine va_get (D := D) (ci := 6) (v := .ref h1) (C := RX6) (T := TX6) (N := 3) hx hb hts hin6 hown hK hP 0 rfl rfl 0 (by decide) (hts (.fieldLink RX6 9 "MissedPoints$Sheet" "numbers" "[I") (by decide +kernel)) (fun _ h9 => h9) rfl dX6_become_28 ?_
                          refine lv_iload_n hx hb dX6_become_31 rfl (lv_at hl 0 rfl) ?_
                          refine lv_iconst (v := 0) hx hb dX6_become_32 (by decide) ?_
                          refine lz_astc hx hb hK hP hD hS 1 0 rfl rfl (lz_vp (x := 11) (n := 40) (by decide) (by decide)) dX6_become_33 (fun H locs hP hD hS => ?_)
                          refine lv_iinc (v := 12) (lv' := [(3, .int 12), (0, .ref h0), (1, .int 0), (2, .int 0)]) hx hb dX6_become_34 hl (k := 0) rfl (by decide) (by decide) rfl (fun ls hl => ?_)
                          refine lv_goto (tgt := 21) hx hb dX6_become_37 (by decide) ?_
                          refine lv_iload_n hx hb dX6_become_21 rfl (lv_at hl 0 rfl) ?_
                          refine lv_bipush (v := 40) hx hb dX6_become_22 (by decide) ?_
                          refine lv_icmp_ge (tgt := 40) hx hb dX6_become_24 (by decide) (fun c3397 => ?_) (fun c3397 => ?_)
                          · exact absurd c3397 (by decide)
                          · refine lv_aload_n hx hb dX6_become_27 rfl (lv_at hl 1 rfl) ?_
                            refine va_get (D := D) (ci := 6) (v := .ref h1) (C := RX6) (T := TX6) (N := 3) hx hb hts hin6 hown hK hP 0 rfl rfl 0 (by decide) (hts (.fieldLink RX6 9 "MissedPoints$Sheet" "numbers" "[I") (by decide +kernel)) (fun _ h9 => h9) rfl dX6_become_28 ?_
                            refine lv_iload_n hx hb dX6_become_31 rfl (lv_at hl 0 rfl) ?_
                            refine lv_iconst (v := 0) hx hb dX6_become_32 (by decide) ?_
                            refine lz_astc hx hb hK hP hD hS 1 0 rfl rfl (lz_vp (x := 12) (n := 40) (by decide) (by decide)) dX6_become_33 (fun H locs hP hD hS => ?_)
                            refine lv_iinc (v := 13) (lv' := [(3, .int 13), (0, .ref h0), (1, .int 0), (2, .int 0)]) hx hb dX6_become_34 hl (k := 0) rfl (by decide) (by decide) rfl (fun ls hl => ?_)
                            refine lv_goto (tgt := 21) hx hb dX6_become_37 (by decide) ?_
                            refine lv_iload_n hx hb dX6_become_21 rfl (lv_at hl 0 rfl) ?_
                            refine lv_bipush (v := 40) hx hb dX6_become_22 (by decide) ?_
                            refine lv_icmp_ge (tgt := 40) hx hb dX6_become_24 (by decide) (fun c3398 => ?_) (fun c3398 => ?_)
                            · exact absurd c3398 (by decide)
                            · refine lv_aload_n hx hb dX6_become_27 rfl (lv_at hl 1 rfl) ?_
                              refine va_get (D := D) (ci := 6) (v := .ref h1) (C := RX6) (T := TX6) (N := 3) hx hb hts hin6 hown hK hP 0 rfl rfl 0 (by decide) (hts (.fieldLink RX6 9 "MissedPoints$Sheet" "numbers" "[I") (by decide +kernel)) (fun _ h9 => h9) rfl dX6_become_28 ?_
                              refine lv_iload_n hx hb dX6_become_31 rfl (lv_at hl 0 rfl) ?_
                              refine lv_iconst (v := 0) hx hb dX6_become_32 (by decide) ?_
                              refine lz_astc hx hb hK hP hD hS 1 0 rfl rfl (lz_vp (x := 13) (n := 40) (by decide) (by decide)) dX6_become_33 (fun H locs hP hD hS => ?_)
                              refine lv_iinc (v := 14) (lv' := [(3, .int 14), (0, .ref h0), (1, .int 0), (2, .int 0)]) hx hb dX6_become_34 hl (k := 0) rfl (by decide) (by decide) rfl (fun ls hl => ?_)
                              refine lv_goto (tgt := 21) hx hb dX6_become_37 (by decide) ?_
                              refine lv_iload_n hx hb dX6_become_21 rfl (lv_at hl 0 rfl) ?_
                              refine lv_bipush (v := 40) hx hb dX6_become_22 (by decide) ?_
                              refine lv_icmp_ge (tgt := 40) hx hb dX6_become_24 (by decide) (fun c3399 => ?_) (fun c3399 => ?_)
                              · exact absurd c3399 (by decide)
                              · refine lv_aload_n hx hb dX6_become_27 rfl (lv_at hl 1 rfl) ?_
                                refine va_get (D := D) (ci := 6) (v := .ref h1) (C := RX6) (T := TX6) (N := 3) hx hb hts hin6 hown hK hP 0 rfl rfl 0 (by decide) (hts (.fieldLink RX6 9 "MissedPoints$Sheet" "numbers" "[I") (by decide +kernel)) (fun _ h9 => h9) rfl dX6_become_28 ?_
                                refine lv_iload_n hx hb dX6_become_31 rfl (lv_at hl 0 rfl) ?_
                                refine lv_iconst (v := 0) hx hb dX6_become_32 (by decide) ?_
                                refine lz_astc hx hb hK hP hD hS 1 0 rfl rfl (lz_vp (x := 14) (n := 40) (by decide) (by decide)) dX6_become_33 (fun H locs hP hD hS => ?_)
                                refine lv_iinc (v := 15) (lv' := [(3, .int 15), (0, .ref h0), (1, .int 0), (2, .int 0)]) hx hb dX6_become_34 hl (k := 0) rfl (by decide) (by decide) rfl (fun ls hl => ?_)
                                refine lv_goto (tgt := 21) hx hb dX6_become_37 (by decide) ?_
                                refine lv_iload_n hx hb dX6_become_21 rfl (lv_at hl 0 rfl) ?_
                                refine lv_bipush (v := 40) hx hb dX6_become_22 (by decide) ?_
                                refine lv_icmp_ge (tgt := 40) hx hb dX6_become_24 (by decide) (fun c3400 => ?_) (fun c3400 => ?_)
                                · exact absurd c3400 (by decide)
                                · refine lv_aload_n hx hb dX6_become_27 rfl (lv_at hl 1 rfl) ?_
                                  refine va_get (D := D) (ci := 6) (v := .ref h1) (C := RX6) (T := TX6) (N := 3) hx hb hts hin6 hown hK hP 0 rfl rfl 0 (by decide) (hts (.fieldLink RX6 9 "MissedPoints$Sheet" "numbers" "[I") (by decide +kernel)) (fun _ h9 => h9) rfl dX6_become_28 ?_
                                  refine lv_iload_n hx hb dX6_become_31 rfl (lv_at hl 0 rfl) ?_
                                  refine lv_iconst (v := 0) hx hb dX6_become_32 (by decide) ?_
                                  refine lz_astc hx hb hK hP hD hS 1 0 rfl rfl (lz_vp (x := 15) (n := 40) (by decide) (by decide)) dX6_become_33 (fun H locs hP hD hS => ?_)
                                  refine lv_iinc (v := 16) (lv' := [(3, .int 16), (0, .ref h0), (1, .int 0), (2, .int 0)]) hx hb dX6_become_34 hl (k := 0) rfl (by decide) (by decide) rfl (fun ls hl => ?_)
                                  refine lv_goto (tgt := 21) hx hb dX6_become_37 (by decide) ?_
                                  refine lv_iload_n hx hb dX6_become_21 rfl (lv_at hl 0 rfl) ?_
                                  refine lv_bipush (v := 40) hx hb dX6_become_22 (by decide) ?_
                                  refine lv_icmp_ge (tgt := 40) hx hb dX6_become_24 (by decide) (fun c3401 => ?_) (fun c3401 => ?_)
                                  · exact absurd c3401 (by decide)
                                  · refine lv_aload_n hx hb dX6_become_27 rfl (lv_at hl 1 rfl) ?_
                                    refine va_get (D := D) (ci := 6) (v := .ref h1) (C := RX6) (T := TX6) (N := 3) hx hb hts hin6 hown hK hP 0 rfl rfl 0 (by decide) (hts (.fieldLink RX6 9 "MissedPoints$Sheet" "numbers" "[I") (by decide +kernel)) (fun _ h9 => h9) rfl dX6_become_28 ?_
                                    refine lv_iload_n hx hb dX6_become_31 rfl (lv_at hl 0 rfl) ?_
                                    refine lv_iconst (v := 0) hx hb dX6_become_32 (by decide) ?_
                                    refine lz_astc hx hb hK hP hD hS 1 0 rfl rfl (lz_vp (x := 16) (n := 40) (by decide) (by decide)) dX6_become_33 (fun H locs hP hD hS => ?_)
                                    refine lv_iinc (v := 17) (lv' := [(3, .int 17), (0, .ref h0), (1, .int 0), (2, .int 0)]) hx hb dX6_become_34 hl (k := 0) rfl (by decide) (by decide) rfl (fun ls hl => ?_)
                                    refine lv_goto (tgt := 21) hx hb dX6_become_37 (by decide) ?_
                                    refine lv_iload_n hx hb dX6_become_21 rfl (lv_at hl 0 rfl) ?_
                                    refine lv_bipush (v := 40) hx hb dX6_become_22 (by decide) ?_
                                    refine lv_icmp_ge (tgt := 40) hx hb dX6_become_24 (by decide) (fun c3402 => ?_) (fun c3402 => ?_)
                                    · exact absurd c3402 (by decide)
                                    · refine lv_aload_n hx hb dX6_become_27 rfl (lv_at hl 1 rfl) ?_
                                      refine va_get (D := D) (ci := 6) (v := .ref h1) (C := RX6) (T := TX6) (N := 3) hx hb hts hin6 hown hK hP 0 rfl rfl 0 (by decide) (hts (.fieldLink RX6 9 "MissedPoints$Sheet" "numbers" "[I") (by decide +kernel)) (fun _ h9 => h9) rfl dX6_become_28 ?_
                                      refine lv_iload_n hx hb dX6_become_31 rfl (lv_at hl 0 rfl) ?_
                                      refine lv_iconst (v := 0) hx hb dX6_become_32 (by decide) ?_
                                      refine lz_astc hx hb hK hP hD hS 1 0 rfl rfl (lz_vp (x := 17) (n := 40) (by decide) (by decide)) dX6_become_33 (fun H locs hP hD hS => ?_)
                                      refine lv_iinc (v := 18) (lv' := [(3, .int 18), (0, .ref h0), (1, .int 0), (2, .int 0)]) hx hb dX6_become_34 hl (k := 0) rfl (by decide) (by decide) rfl (fun ls hl => ?_)
                                      refine lv_goto (tgt := 21) hx hb dX6_become_37 (by decide) ?_
                                      refine lv_iload_n hx hb dX6_become_21 rfl (lv_at hl 0 rfl) ?_
                                      refine lv_bipush (v := 40) hx hb dX6_become_22 (by decide) ?_
                                      refine lv_icmp_ge (tgt := 40) hx hb dX6_become_24 (by decide) (fun c3403 => ?_) (fun c3403 => ?_)
                                      · exact absurd c3403 (by decide)
                                      · refine lv_aload_n hx hb dX6_become_27 rfl (lv_at hl 1 rfl) ?_
                                        refine va_get (D := D) (ci := 6) (v := .ref h1) (C := RX6) (T := TX6) (N := 3) hx hb hts hin6 hown hK hP 0 rfl rfl 0 (by decide) (hts (.fieldLink RX6 9 "MissedPoints$Sheet" "numbers" "[I") (by decide +kernel)) (fun _ h9 => h9) rfl dX6_become_28 ?_
                                        refine lv_iload_n hx hb dX6_become_31 rfl (lv_at hl 0 rfl) ?_
                                        refine lv_iconst (v := 0) hx hb dX6_become_32 (by decide) ?_
                                        refine lz_astc hx hb hK hP hD hS 1 0 rfl rfl (lz_vp (x := 18) (n := 40) (by decide) (by decide)) dX6_become_33 (fun H locs hP hD hS => ?_)
                                        refine lv_iinc (v := 19) (lv' := [(3, .int 19), (0, .ref h0), (1, .int 0), (2, .int 0)]) hx hb dX6_become_34 hl (k := 0) rfl (by decide) (by decide) rfl (fun ls hl => ?_)
                                        refine lv_goto (tgt := 21) hx hb dX6_become_37 (by decide) ?_
                                        refine lv_iload_n hx hb dX6_become_21 rfl (lv_at hl 0 rfl) ?_
                                        refine lv_bipush (v := 40) hx hb dX6_become_22 (by decide) ?_
                                        refine lv_icmp_ge (tgt := 40) hx hb dX6_become_24 (by decide) (fun c3404 => ?_) (fun c3404 => ?_)
                                        · exact absurd c3404 (by decide)
                                        · refine lv_aload_n hx hb dX6_become_27 rfl (lv_at hl 1 rfl) ?_
                                          refine va_get (D := D) (ci := 6) (v := .ref h1) (C := RX6) (T := TX6) (N := 3) hx hb hts hin6 hown hK hP 0 rfl rfl 0 (by decide) (hts (.fieldLink RX6 9 "MissedPoints$Sheet" "numbers" "[I") (by decide +kernel)) (fun _ h9 => h9) rfl dX6_become_28 ?_
                                          refine lv_iload_n hx hb dX6_become_31 rfl (lv_at hl 0 rfl) ?_
                                          refine lv_iconst (v := 0) hx hb dX6_become_32 (by decide) ?_
                                          refine lz_astc hx hb hK hP hD hS 1 0 rfl rfl (lz_vp (x := 19) (n := 40) (by decide) (by decide)) dX6_become_33 (fun H locs hP hD hS => ?_)
                                          refine lv_iinc (v := 20) (lv' := [(3, .int 20), (0, .ref h0), (1, .int 0), (2, .int 0)]) hx hb dX6_become_34 hl (k := 0) rfl (by decide) (by decide) rfl (fun ls hl => ?_)
                                          refine lv_goto (tgt := 21) hx hb dX6_become_37 (by decide) ?_
                                          refine lv_iload_n hx hb dX6_become_21 rfl (lv_at hl 0 rfl) ?_
                                          refine lv_bipush (v := 40) hx hb dX6_become_22 (by decide) ?_
                                          refine lv_icmp_ge (tgt := 40) hx hb dX6_become_24 (by decide) (fun c3405 => ?_) (fun c3405 => ?_)
                                          · exact absurd c3405 (by decide)
                                          · refine lv_aload_n hx hb dX6_become_27 rfl (lv_at hl 1 rfl) ?_
                                            refine va_get (D := D) (ci := 6) (v := .ref h1) (C := RX6) (T := TX6) (N := 3) hx hb hts hin6 hown hK hP 0 rfl rfl 0 (by decide) (hts (.fieldLink RX6 9 "MissedPoints$Sheet" "numbers" "[I") (by decide +kernel)) (fun _ h9 => h9) rfl dX6_become_28 ?_
                                            refine lv_iload_n hx hb dX6_become_31 rfl (lv_at hl 0 rfl) ?_
                                            refine lv_iconst (v := 0) hx hb dX6_become_32 (by decide) ?_
                                            refine lz_astc hx hb hK hP hD hS 1 0 rfl rfl (lz_vp (x := 20) (n := 40) (by decide) (by decide)) dX6_become_33 (fun H locs hP hD hS => ?_)
                                            refine lv_iinc (v := 21) (lv' := [(3, .int 21), (0, .ref h0), (1, .int 0), (2, .int 0)]) hx hb dX6_become_34 hl (k := 0) rfl (by decide) (by decide) rfl (fun ls hl => ?_)
                                            refine lv_goto (tgt := 21) hx hb dX6_become_37 (by decide) ?_
                                            refine lv_iload_n hx hb dX6_become_21 rfl (lv_at hl 0 rfl) ?_
                                            refine lv_bipush (v := 40) hx hb dX6_become_22 (by decide) ?_
                                            refine lv_icmp_ge (tgt := 40) hx hb dX6_become_24 (by decide) (fun c3406 => ?_) (fun c3406 => ?_)
                                            · exact absurd c3406 (by decide)
                                            · refine lv_aload_n hx hb dX6_become_27 rfl (lv_at hl 1 rfl) ?_
                                              refine va_get (D := D) (ci := 6) (v := .ref h1) (C := RX6) (T := TX6) (N := 3) hx hb hts hin6 hown hK hP 0 rfl rfl 0 (by decide) (hts (.fieldLink RX6 9 "MissedPoints$Sheet" "numbers" "[I") (by decide +kernel)) (fun _ h9 => h9) rfl dX6_become_28 ?_
                                              refine lv_iload_n hx hb dX6_become_31 rfl (lv_at hl 0 rfl) ?_
                                              refine lv_iconst (v := 0) hx hb dX6_become_32 (by decide) ?_
                                              refine lz_astc hx hb hK hP hD hS 1 0 rfl rfl (lz_vp (x := 21) (n := 40) (by decide) (by decide)) dX6_become_33 (fun H locs hP hD hS => ?_)
                                              refine lv_iinc (v := 22) (lv' := [(3, .int 22), (0, .ref h0), (1, .int 0), (2, .int 0)]) hx hb dX6_become_34 hl (k := 0) rfl (by decide) (by decide) rfl (fun ls hl => ?_)
                                              refine lv_goto (tgt := 21) hx hb dX6_become_37 (by decide) ?_
                                              refine lv_iload_n hx hb dX6_become_21 rfl (lv_at hl 0 rfl) ?_
                                              refine lv_bipush (v := 40) hx hb dX6_become_22 (by decide) ?_
                                              refine lv_icmp_ge (tgt := 40) hx hb dX6_become_24 (by decide) (fun c3407 => ?_) (fun c3407 => ?_)
                                              · exact absurd c3407 (by decide)
                                              · refine lv_aload_n hx hb dX6_become_27 rfl (lv_at hl 1 rfl) ?_
                                                refine va_get (D := D) (ci := 6) (v := .ref h1) (C := RX6) (T := TX6) (N := 3) hx hb hts hin6 hown hK hP 0 rfl rfl 0 (by decide) (hts (.fieldLink RX6 9 "MissedPoints$Sheet" "numbers" "[I") (by decide +kernel)) (fun _ h9 => h9) rfl dX6_become_28 ?_
                                                refine lv_iload_n hx hb dX6_become_31 rfl (lv_at hl 0 rfl) ?_
                                                refine lv_iconst (v := 0) hx hb dX6_become_32 (by decide) ?_
                                                refine lz_astc hx hb hK hP hD hS 1 0 rfl rfl (lz_vp (x := 22) (n := 40) (by decide) (by decide)) dX6_become_33 (fun H locs hP hD hS => ?_)
                                                refine lv_iinc (v := 23) (lv' := [(3, .int 23), (0, .ref h0), (1, .int 0), (2, .int 0)]) hx hb dX6_become_34 hl (k := 0) rfl (by decide) (by decide) rfl (fun ls hl => ?_)
                                                refine lv_goto (tgt := 21) hx hb dX6_become_37 (by decide) ?_
                                                refine lv_iload_n hx hb dX6_become_21 rfl (lv_at hl 0 rfl) ?_
                                                refine lv_bipush (v := 40) hx hb dX6_become_22 (by decide) ?_
                                                refine lv_icmp_ge (tgt := 40) hx hb dX6_become_24 (by decide) (fun c3408 => ?_) (fun c3408 => ?_)
                                                · exact absurd c3408 (by decide)
                                                · refine lv_aload_n hx hb dX6_become_27 rfl (lv_at hl 1 rfl) ?_
                                                  refine va_get (D := D) (ci := 6) (v := .ref h1) (C := RX6) (T := TX6) (N := 3) hx hb hts hin6 hown hK hP 0 rfl rfl 0 (by decide) (hts (.fieldLink RX6 9 "MissedPoints$Sheet" "numbers" "[I") (by decide +kernel)) (fun _ h9 => h9) rfl dX6_become_28 ?_
                                                  refine lv_iload_n hx hb dX6_become_31 rfl (lv_at hl 0 rfl) ?_
                                                  refine lv_iconst (v := 0) hx hb dX6_become_32 (by decide) ?_
                                                  refine lz_astc hx hb hK hP hD hS 1 0 rfl rfl (lz_vp (x := 23) (n := 40) (by decide) (by decide)) dX6_become_33 (fun H locs hP hD hS => ?_)
                                                  refine lv_iinc (v := 24) (lv' := [(3, .int 24), (0, .ref h0), (1, .int 0), (2, .int 0)]) hx hb dX6_become_34 hl (k := 0) rfl (by decide) (by decide) rfl (fun ls hl => ?_)
                                                  refine lv_goto (tgt := 21) hx hb dX6_become_37 (by decide) ?_
                                                  refine lv_iload_n hx hb dX6_become_21 rfl (lv_at hl 0 rfl) ?_
                                                  refine lv_bipush (v := 40) hx hb dX6_become_22 (by decide) ?_
                                                  refine lv_icmp_ge (tgt := 40) hx hb dX6_become_24 (by decide) (fun c3409 => ?_) (fun c3409 => ?_)
                                                  · exact absurd c3409 (by decide)
                                                  · refine lv_aload_n hx hb dX6_become_27 rfl (lv_at hl 1 rfl) ?_
                                                    refine va_get (D := D) (ci := 6) (v := .ref h1) (C := RX6) (T := TX6) (N := 3) hx hb hts hin6 hown hK hP 0 rfl rfl 0 (by decide) (hts (.fieldLink RX6 9 "MissedPoints$Sheet" "numbers" "[I") (by decide +kernel)) (fun _ h9 => h9) rfl dX6_become_28 ?_
                                                    refine lv_iload_n hx hb dX6_become_31 rfl (lv_at hl 0 rfl) ?_
                                                    refine lv_iconst (v := 0) hx hb dX6_become_32 (by decide) ?_
                                                    refine lz_astc hx hb hK hP hD hS 1 0 rfl rfl (lz_vp (x := 24) (n := 40) (by decide) (by decide)) dX6_become_33 (fun H locs hP hD hS => ?_)
                                                    refine lv_iinc (v := 25) (lv' := [(3, .int 25), (0, .ref h0), (1, .int 0), (2, .int 0)]) hx hb dX6_become_34 hl (k := 0) rfl (by decide) (by decide) rfl (fun ls hl => ?_)
                                                    refine lv_goto (tgt := 21) hx hb dX6_become_37 (by decide) ?_
                                                    refine lv_iload_n hx hb dX6_become_21 rfl (lv_at hl 0 rfl) ?_
                                                    refine lv_bipush (v := 40) hx hb dX6_become_22 (by decide) ?_
                                                    refine lv_icmp_ge (tgt := 40) hx hb dX6_become_24 (by decide) (fun c3410 => ?_) (fun c3410 => ?_)
                                                    · exact absurd c3410 (by decide)
                                                    · refine lv_aload_n hx hb dX6_become_27 rfl (lv_at hl 1 rfl) ?_
                                                      refine va_get (D := D) (ci := 6) (v := .ref h1) (C := RX6) (T := TX6) (N := 3) hx hb hts hin6 hown hK hP 0 rfl rfl 0 (by decide) (hts (.fieldLink RX6 9 "MissedPoints$Sheet" "numbers" "[I") (by decide +kernel)) (fun _ h9 => h9) rfl dX6_become_28 ?_
                                                      refine lv_iload_n hx hb dX6_become_31 rfl (lv_at hl 0 rfl) ?_
                                                      refine lv_iconst (v := 0) hx hb dX6_become_32 (by decide) ?_
                                                      refine lz_astc hx hb hK hP hD hS 1 0 rfl rfl (lz_vp (x := 25) (n := 40) (by decide) (by decide)) dX6_become_33 (fun H locs hP hD hS => ?_)
                                                      refine lv_iinc (v := 26) (lv' := [(3, .int 26), (0, .ref h0), (1, .int 0), (2, .int 0)]) hx hb dX6_become_34 hl (k := 0) rfl (by decide) (by decide) rfl (fun ls hl => ?_)
                                                      refine lv_goto (tgt := 21) hx hb dX6_become_37 (by decide) ?_
                                                      refine lv_iload_n hx hb dX6_become_21 rfl (lv_at hl 0 rfl) ?_
                                                      refine lv_bipush (v := 40) hx hb dX6_become_22 (by decide) ?_
                                                      refine lv_icmp_ge (tgt := 40) hx hb dX6_become_24 (by decide) (fun c3411 => ?_) (fun c3411 => ?_)
                                                      · exact absurd c3411 (by decide)
                                                      · refine lv_aload_n hx hb dX6_become_27 rfl (lv_at hl 1 rfl) ?_
                                                        refine va_get (D := D) (ci := 6) (v := .ref h1) (C := RX6) (T := TX6) (N := 3) hx hb hts hin6 hown hK hP 0 rfl rfl 0 (by decide) (hts (.fieldLink RX6 9 "MissedPoints$Sheet" "numbers" "[I") (by decide +kernel)) (fun _ h9 => h9) rfl dX6_become_28 ?_
                                                        refine lv_iload_n hx hb dX6_become_31 rfl (lv_at hl 0 rfl) ?_
                                                        refine lv_iconst (v := 0) hx hb dX6_become_32 (by decide) ?_
                                                        refine lz_astc hx hb hK hP hD hS 1 0 rfl rfl (lz_vp (x := 26) (n := 40) (by decide) (by decide)) dX6_become_33 (fun H locs hP hD hS => ?_)
                                                        refine lv_iinc (v := 27) (lv' := [(3, .int 27), (0, .ref h0), (1, .int 0), (2, .int 0)]) hx hb dX6_become_34 hl (k := 0) rfl (by decide) (by decide) rfl (fun ls hl => ?_)
                                                        refine lv_goto (tgt := 21) hx hb dX6_become_37 (by decide) ?_
                                                        refine lv_iload_n hx hb dX6_become_21 rfl (lv_at hl 0 rfl) ?_
                                                        refine lv_bipush (v := 40) hx hb dX6_become_22 (by decide) ?_
                                                        refine lv_icmp_ge (tgt := 40) hx hb dX6_become_24 (by decide) (fun c3412 => ?_) (fun c3412 => ?_)
                                                        · exact absurd c3412 (by decide)
                                                        · refine lv_aload_n hx hb dX6_become_27 rfl (lv_at hl 1 rfl) ?_
                                                          refine va_get (D := D) (ci := 6) (v := .ref h1) (C := RX6) (T := TX6) (N := 3) hx hb hts hin6 hown hK hP 0 rfl rfl 0 (by decide) (hts (.fieldLink RX6 9 "MissedPoints$Sheet" "numbers" "[I") (by decide +kernel)) (fun _ h9 => h9) rfl dX6_become_28 ?_
                                                          refine lv_iload_n hx hb dX6_become_31 rfl (lv_at hl 0 rfl) ?_
                                                          refine lv_iconst (v := 0) hx hb dX6_become_32 (by decide) ?_
                                                          refine lz_astc hx hb hK hP hD hS 1 0 rfl rfl (lz_vp (x := 27) (n := 40) (by decide) (by decide)) dX6_become_33 (fun H locs hP hD hS => ?_)
                                                          refine lv_iinc (v := 28) (lv' := [(3, .int 28), (0, .ref h0), (1, .int 0), (2, .int 0)]) hx hb dX6_become_34 hl (k := 0) rfl (by decide) (by decide) rfl (fun ls hl => ?_)
                                                          refine lv_goto (tgt := 21) hx hb dX6_become_37 (by decide) ?_
                                                          refine lv_iload_n hx hb dX6_become_21 rfl (lv_at hl 0 rfl) ?_
                                                          refine lv_bipush (v := 40) hx hb dX6_become_22 (by decide) ?_
                                                          refine lv_icmp_ge (tgt := 40) hx hb dX6_become_24 (by decide) (fun c3413 => ?_) (fun c3413 => ?_)
                                                          · exact absurd c3413 (by decide)
                                                          · refine lv_aload_n hx hb dX6_become_27 rfl (lv_at hl 1 rfl) ?_
                                                            refine va_get (D := D) (ci := 6) (v := .ref h1) (C := RX6) (T := TX6) (N := 3) hx hb hts hin6 hown hK hP 0 rfl rfl 0 (by decide) (hts (.fieldLink RX6 9 "MissedPoints$Sheet" "numbers" "[I") (by decide +kernel)) (fun _ h9 => h9) rfl dX6_become_28 ?_
                                                            refine lv_iload_n hx hb dX6_become_31 rfl (lv_at hl 0 rfl) ?_
                                                            refine lv_iconst (v := 0) hx hb dX6_become_32 (by decide) ?_
                                                            refine lz_astc hx hb hK hP hD hS 1 0 rfl rfl (lz_vp (x := 28) (n := 40) (by decide) (by decide)) dX6_become_33 (fun H locs hP hD hS => ?_)
                                                            refine lv_iinc (v := 29) (lv' := [(3, .int 29), (0, .ref h0), (1, .int 0), (2, .int 0)]) hx hb dX6_become_34 hl (k := 0) rfl (by decide) (by decide) rfl (fun ls hl => ?_)
                                                            refine lv_goto (tgt := 21) hx hb dX6_become_37 (by decide) ?_
                                                            refine lv_iload_n hx hb dX6_become_21 rfl (lv_at hl 0 rfl) ?_
                                                            refine lv_bipush (v := 40) hx hb dX6_become_22 (by decide) ?_
                                                            refine lv_icmp_ge (tgt := 40) hx hb dX6_become_24 (by decide) (fun c3414 => ?_) (fun c3414 => ?_)
                                                            · exact absurd c3414 (by decide)
                                                            · refine lv_aload_n hx hb dX6_become_27 rfl (lv_at hl 1 rfl) ?_
                                                              refine va_get (D := D) (ci := 6) (v := .ref h1) (C := RX6) (T := TX6) (N := 3) hx hb hts hin6 hown hK hP 0 rfl rfl 0 (by decide) (hts (.fieldLink RX6 9 "MissedPoints$Sheet" "numbers" "[I") (by decide +kernel)) (fun _ h9 => h9) rfl dX6_become_28 ?_
                                                              refine lv_iload_n hx hb dX6_become_31 rfl (lv_at hl 0 rfl) ?_
                                                              refine lv_iconst (v := 0) hx hb dX6_become_32 (by decide) ?_
                                                              refine lz_astc hx hb hK hP hD hS 1 0 rfl rfl (lz_vp (x := 29) (n := 40) (by decide) (by decide)) dX6_become_33 (fun H locs hP hD hS => ?_)
                                                              refine lv_iinc (v := 30) (lv' := [(3, .int 30), (0, .ref h0), (1, .int 0), (2, .int 0)]) hx hb dX6_become_34 hl (k := 0) rfl (by decide) (by decide) rfl (fun ls hl => ?_)
                                                              refine lv_goto (tgt := 21) hx hb dX6_become_37 (by decide) ?_
                                                              refine lv_iload_n hx hb dX6_become_21 rfl (lv_at hl 0 rfl) ?_
                                                              refine lv_bipush (v := 40) hx hb dX6_become_22 (by decide) ?_
                                                              refine lv_icmp_ge (tgt := 40) hx hb dX6_become_24 (by decide) (fun c3415 => ?_) (fun c3415 => ?_)
                                                              · exact absurd c3415 (by decide)
                                                              · refine lv_aload_n hx hb dX6_become_27 rfl (lv_at hl 1 rfl) ?_
                                                                refine va_get (D := D) (ci := 6) (v := .ref h1) (C := RX6) (T := TX6) (N := 3) hx hb hts hin6 hown hK hP 0 rfl rfl 0 (by decide) (hts (.fieldLink RX6 9 "MissedPoints$Sheet" "numbers" "[I") (by decide +kernel)) (fun _ h9 => h9) rfl dX6_become_28 ?_
                                                                refine lv_iload_n hx hb dX6_become_31 rfl (lv_at hl 0 rfl) ?_
                                                                refine lv_iconst (v := 0) hx hb dX6_become_32 (by decide) ?_
                                                                refine lz_astc hx hb hK hP hD hS 1 0 rfl rfl (lz_vp (x := 30) (n := 40) (by decide) (by decide)) dX6_become_33 (fun H locs hP hD hS => ?_)
                                                                refine lv_iinc (v := 31) (lv' := [(3, .int 31), (0, .ref h0), (1, .int 0), (2, .int 0)]) hx hb dX6_become_34 hl (k := 0) rfl (by decide) (by decide) rfl (fun ls hl => ?_)
                                                                refine lv_goto (tgt := 21) hx hb dX6_become_37 (by decide) ?_
                                                                refine lv_iload_n hx hb dX6_become_21 rfl (lv_at hl 0 rfl) ?_
                                                                refine lv_bipush (v := 40) hx hb dX6_become_22 (by decide) ?_
                                                                refine lv_icmp_ge (tgt := 40) hx hb dX6_become_24 (by decide) (fun c3416 => ?_) (fun c3416 => ?_)
                                                                · exact absurd c3416 (by decide)
                                                                · refine lv_aload_n hx hb dX6_become_27 rfl (lv_at hl 1 rfl) ?_
                                                                  refine va_get (D := D) (ci := 6) (v := .ref h1) (C := RX6) (T := TX6) (N := 3) hx hb hts hin6 hown hK hP 0 rfl rfl 0 (by decide) (hts (.fieldLink RX6 9 "MissedPoints$Sheet" "numbers" "[I") (by decide +kernel)) (fun _ h9 => h9) rfl dX6_become_28 ?_
                                                                  refine lv_iload_n hx hb dX6_become_31 rfl (lv_at hl 0 rfl) ?_
                                                                  refine lv_iconst (v := 0) hx hb dX6_become_32 (by decide) ?_
                                                                  refine lz_astc hx hb hK hP hD hS 1 0 rfl rfl (lz_vp (x := 31) (n := 40) (by decide) (by decide)) dX6_become_33 (fun H locs hP hD hS => ?_)
                                                                  refine lv_iinc (v := 32) (lv' := [(3, .int 32), (0, .ref h0), (1, .int 0), (2, .int 0)]) hx hb dX6_become_34 hl (k := 0) rfl (by decide) (by decide) rfl (fun ls hl => ?_)
                                                                  refine lv_goto (tgt := 21) hx hb dX6_become_37 (by decide) ?_
                                                                  refine lv_iload_n hx hb dX6_become_21 rfl (lv_at hl 0 rfl) ?_
                                                                  refine lv_bipush (v := 40) hx hb dX6_become_22 (by decide) ?_
                                                                  refine lv_icmp_ge (tgt := 40) hx hb dX6_become_24 (by decide) (fun c3417 => ?_) (fun c3417 => ?_)
                                                                  · exact absurd c3417 (by decide)
                                                                  · refine lv_aload_n hx hb dX6_become_27 rfl (lv_at hl 1 rfl) ?_
                                                                    refine va_get (D := D) (ci := 6) (v := .ref h1) (C := RX6) (T := TX6) (N := 3) hx hb hts hin6 hown hK hP 0 rfl rfl 0 (by decide) (hts (.fieldLink RX6 9 "MissedPoints$Sheet" "numbers" "[I") (by decide +kernel)) (fun _ h9 => h9) rfl dX6_become_28 ?_
                                                                    refine lv_iload_n hx hb dX6_become_31 rfl (lv_at hl 0 rfl) ?_
                                                                    refine lv_iconst (v := 0) hx hb dX6_become_32 (by decide) ?_
                                                                    refine lz_astc hx hb hK hP hD hS 1 0 rfl rfl (lz_vp (x := 32) (n := 40) (by decide) (by decide)) dX6_become_33 (fun H locs hP hD hS => ?_)
                                                                    refine lv_iinc (v := 33) (lv' := [(3, .int 33), (0, .ref h0), (1, .int 0), (2, .int 0)]) hx hb dX6_become_34 hl (k := 0) rfl (by decide) (by decide) rfl (fun ls hl => ?_)
                                                                    refine lv_goto (tgt := 21) hx hb dX6_become_37 (by decide) ?_
                                                                    refine lv_iload_n hx hb dX6_become_21 rfl (lv_at hl 0 rfl) ?_
                                                                    refine lv_bipush (v := 40) hx hb dX6_become_22 (by decide) ?_
                                                                    refine lv_icmp_ge (tgt := 40) hx hb dX6_become_24 (by decide) (fun c3418 => ?_) (fun c3418 => ?_)
                                                                    · exact absurd c3418 (by decide)
                                                                    · refine lv_aload_n hx hb dX6_become_27 rfl (lv_at hl 1 rfl) ?_
                                                                      refine va_get (D := D) (ci := 6) (v := .ref h1) (C := RX6) (T := TX6) (N := 3) hx hb hts hin6 hown hK hP 0 rfl rfl 0 (by decide) (hts (.fieldLink RX6 9 "MissedPoints$Sheet" "numbers" "[I") (by decide +kernel)) (fun _ h9 => h9) rfl dX6_become_28 ?_
                                                                      refine lv_iload_n hx hb dX6_become_31 rfl (lv_at hl 0 rfl) ?_
                                                                      refine lv_iconst (v := 0) hx hb dX6_become_32 (by decide) ?_
                                                                      refine lz_astc hx hb hK hP hD hS 1 0 rfl rfl (lz_vp (x := 33) (n := 40) (by decide) (by decide)) dX6_become_33 (fun H locs hP hD hS => ?_)
                                                                      refine lv_iinc (v := 34) (lv' := [(3, .int 34), (0, .ref h0), (1, .int 0), (2, .int 0)]) hx hb dX6_become_34 hl (k := 0) rfl (by decide) (by decide) rfl (fun ls hl => ?_)
                                                                      refine lv_goto (tgt := 21) hx hb dX6_become_37 (by decide) ?_
                                                                      refine lv_iload_n hx hb dX6_become_21 rfl (lv_at hl 0 rfl) ?_
                                                                      refine lv_bipush (v := 40) hx hb dX6_become_22 (by decide) ?_
                                                                      refine lv_icmp_ge (tgt := 40) hx hb dX6_become_24 (by decide) (fun c3419 => ?_) (fun c3419 => ?_)
                                                                      · exact absurd c3419 (by decide)
                                                                      · refine lv_aload_n hx hb dX6_become_27 rfl (lv_at hl 1 rfl) ?_
                                                                        refine va_get (D := D) (ci := 6) (v := .ref h1) (C := RX6) (T := TX6) (N := 3) hx hb hts hin6 hown hK hP 0 rfl rfl 0 (by decide) (hts (.fieldLink RX6 9 "MissedPoints$Sheet" "numbers" "[I") (by decide +kernel)) (fun _ h9 => h9) rfl dX6_become_28 ?_
                                                                        refine lv_iload_n hx hb dX6_become_31 rfl (lv_at hl 0 rfl) ?_
                                                                        refine lv_iconst (v := 0) hx hb dX6_become_32 (by decide) ?_
                                                                        refine lz_astc hx hb hK hP hD hS 1 0 rfl rfl (lz_vp (x := 34) (n := 40) (by decide) (by decide)) dX6_become_33 (fun H locs hP hD hS => ?_)
                                                                        refine lv_iinc (v := 35) (lv' := [(3, .int 35), (0, .ref h0), (1, .int 0), (2, .int 0)]) hx hb dX6_become_34 hl (k := 0) rfl (by decide) (by decide) rfl (fun ls hl => ?_)
                                                                        refine lv_goto (tgt := 21) hx hb dX6_become_37 (by decide) ?_
                                                                        refine lv_iload_n hx hb dX6_become_21 rfl (lv_at hl 0 rfl) ?_
                                                                        refine lv_bipush (v := 40) hx hb dX6_become_22 (by decide) ?_
                                                                        refine lv_icmp_ge (tgt := 40) hx hb dX6_become_24 (by decide) (fun c3420 => ?_) (fun c3420 => ?_)
                                                                        · exact absurd c3420 (by decide)
                                                                        · refine lv_aload_n hx hb dX6_become_27 rfl (lv_at hl 1 rfl) ?_
                                                                          refine va_get (D := D) (ci := 6) (v := .ref h1) (C := RX6) (T := TX6) (N := 3) hx hb hts hin6 hown hK hP 0 rfl rfl 0 (by decide) (hts (.fieldLink RX6 9 "MissedPoints$Sheet" "numbers" "[I") (by decide +kernel)) (fun _ h9 => h9) rfl dX6_become_28 ?_
                                                                          refine lv_iload_n hx hb dX6_become_31 rfl (lv_at hl 0 rfl) ?_
                                                                          refine lv_iconst (v := 0) hx hb dX6_become_32 (by decide) ?_
                                                                          refine lz_astc hx hb hK hP hD hS 1 0 rfl rfl (lz_vp (x := 35) (n := 40) (by decide) (by decide)) dX6_become_33 (fun H locs hP hD hS => ?_)
                                                                          refine lv_iinc (v := 36) (lv' := [(3, .int 36), (0, .ref h0), (1, .int 0), (2, .int 0)]) hx hb dX6_become_34 hl (k := 0) rfl (by decide) (by decide) rfl (fun ls hl => ?_)
                                                                          refine lv_goto (tgt := 21) hx hb dX6_become_37 (by decide) ?_
                                                                          refine lv_iload_n hx hb dX6_become_21 rfl (lv_at hl 0 rfl) ?_
                                                                          refine lv_bipush (v := 40) hx hb dX6_become_22 (by decide) ?_
                                                                          refine lv_icmp_ge (tgt := 40) hx hb dX6_become_24 (by decide) (fun c3421 => ?_) (fun c3421 => ?_)
                                                                          · exact absurd c3421 (by decide)
                                                                          · refine lv_aload_n hx hb dX6_become_27 rfl (lv_at hl 1 rfl) ?_
                                                                            refine va_get (D := D) (ci := 6) (v := .ref h1) (C := RX6) (T := TX6) (N := 3) hx hb hts hin6 hown hK hP 0 rfl rfl 0 (by decide) (hts (.fieldLink RX6 9 "MissedPoints$Sheet" "numbers" "[I") (by decide +kernel)) (fun _ h9 => h9) rfl dX6_become_28 ?_
                                                                            refine lv_iload_n hx hb dX6_become_31 rfl (lv_at hl 0 rfl) ?_
                                                                            refine lv_iconst (v := 0) hx hb dX6_become_32 (by decide) ?_
                                                                            refine lz_astc hx hb hK hP hD hS 1 0 rfl rfl (lz_vp (x := 36) (n := 40) (by decide) (by decide)) dX6_become_33 (fun H locs hP hD hS => ?_)
                                                                            refine lv_iinc (v := 37) (lv' := [(3, .int 37), (0, .ref h0), (1, .int 0), (2, .int 0)]) hx hb dX6_become_34 hl (k := 0) rfl (by decide) (by decide) rfl (fun ls hl => ?_)
                                                                            refine lv_goto (tgt := 21) hx hb dX6_become_37 (by decide) ?_
                                                                            refine lv_iload_n hx hb dX6_become_21 rfl (lv_at hl 0 rfl) ?_
                                                                            refine lv_bipush (v := 40) hx hb dX6_become_22 (by decide) ?_
                                                                            refine lv_icmp_ge (tgt := 40) hx hb dX6_become_24 (by decide) (fun c3422 => ?_) (fun c3422 => ?_)
                                                                            · exact absurd c3422 (by decide)
                                                                            · refine lv_aload_n hx hb dX6_become_27 rfl (lv_at hl 1 rfl) ?_
                                                                              refine va_get (D := D) (ci := 6) (v := .ref h1) (C := RX6) (T := TX6) (N := 3) hx hb hts hin6 hown hK hP 0 rfl rfl 0 (by decide) (hts (.fieldLink RX6 9 "MissedPoints$Sheet" "numbers" "[I") (by decide +kernel)) (fun _ h9 => h9) rfl dX6_become_28 ?_
                                                                              refine lv_iload_n hx hb dX6_become_31 rfl (lv_at hl 0 rfl) ?_
                                                                              refine lv_iconst (v := 0) hx hb dX6_become_32 (by decide) ?_
                                                                              refine lz_astc hx hb hK hP hD hS 1 0 rfl rfl (lz_vp (x := 37) (n := 40) (by decide) (by decide)) dX6_become_33 (fun H locs hP hD hS => ?_)
                                                                              refine lv_iinc (v := 38) (lv' := [(3, .int 38), (0, .ref h0), (1, .int 0), (2, .int 0)]) hx hb dX6_become_34 hl (k := 0) rfl (by decide) (by decide) rfl (fun ls hl => ?_)
                                                                              refine lv_goto (tgt := 21) hx hb dX6_become_37 (by decide) ?_
                                                                              refine lv_iload_n hx hb dX6_become_21 rfl (lv_at hl 0 rfl) ?_
                                                                              refine lv_bipush (v := 40) hx hb dX6_become_22 (by decide) ?_
                                                                              refine lv_icmp_ge (tgt := 40) hx hb dX6_become_24 (by decide) (fun c3423 => ?_) (fun c3423 => ?_)
                                                                              · exact absurd c3423 (by decide)
                                                                              · refine lv_aload_n hx hb dX6_become_27 rfl (lv_at hl 1 rfl) ?_
                                                                                refine va_get (D := D) (ci := 6) (v := .ref h1) (C := RX6) (T := TX6) (N := 3) hx hb hts hin6 hown hK hP 0 rfl rfl 0 (by decide) (hts (.fieldLink RX6 9 "MissedPoints$Sheet" "numbers" "[I") (by decide +kernel)) (fun _ h9 => h9) rfl dX6_become_28 ?_
                                                                                refine lv_iload_n hx hb dX6_become_31 rfl (lv_at hl 0 rfl) ?_
                                                                                refine lv_iconst (v := 0) hx hb dX6_become_32 (by decide) ?_
                                                                                refine lz_astc hx hb hK hP hD hS 1 0 rfl rfl (lz_vp (x := 38) (n := 40) (by decide) (by decide)) dX6_become_33 (fun H locs hP hD hS => ?_)
                                                                                refine lv_iinc (v := 39) (lv' := [(3, .int 39), (0, .ref h0), (1, .int 0), (2, .int 0)]) hx hb dX6_become_34 hl (k := 0) rfl (by decide) (by decide) rfl (fun ls hl => ?_)
                                                                                refine lv_goto (tgt := 21) hx hb dX6_become_37 (by decide) ?_
                                                                                refine lv_iload_n hx hb dX6_become_21 rfl (lv_at hl 0 rfl) ?_
                                                                                refine lv_bipush (v := 40) hx hb dX6_become_22 (by decide) ?_
                                                                                refine lv_icmp_ge (tgt := 40) hx hb dX6_become_24 (by decide) (fun c3424 => ?_) (fun c3424 => ?_)
                                                                                · exact absurd c3424 (by decide)
                                                                                · refine lv_aload_n hx hb dX6_become_27 rfl (lv_at hl 1 rfl) ?_
                                                                                  refine va_get (D := D) (ci := 6) (v := .ref h1) (C := RX6) (T := TX6) (N := 3) hx hb hts hin6 hown hK hP 0 rfl rfl 0 (by decide) (hts (.fieldLink RX6 9 "MissedPoints$Sheet" "numbers" "[I") (by decide +kernel)) (fun _ h9 => h9) rfl dX6_become_28 ?_
                                                                                  refine lv_iload_n hx hb dX6_become_31 rfl (lv_at hl 0 rfl) ?_
                                                                                  refine lv_iconst (v := 0) hx hb dX6_become_32 (by decide) ?_
                                                                                  refine lz_astc hx hb hK hP hD hS 1 0 rfl rfl (lz_vp (x := 39) (n := 40) (by decide) (by decide)) dX6_become_33 (fun H locs hP hD hS => ?_)
                                                                                  refine lv_iinc (v := 40) (lv' := [(3, .int 40), (0, .ref h0), (1, .int 0), (2, .int 0)]) hx hb dX6_become_34 hl (k := 0) rfl (by decide) (by decide) rfl (fun ls hl => ?_)
                                                                                  refine lv_goto (tgt := 21) hx hb dX6_become_37 (by decide) ?_
                                                                                  refine lv_iload_n hx hb dX6_become_21 rfl (lv_at hl 0 rfl) ?_
                                                                                  refine lv_bipush (v := 40) hx hb dX6_become_22 (by decide) ?_
                                                                                  refine lv_icmp_ge (tgt := 40) hx hb dX6_become_24 (by decide) (fun c3425 => ?_) (fun c3425 => ?_)
                                                                                  · have hP9 := hP.sub (ws' := [(h0, .inr (6, [.ref h1, .int 0, .int 0])), (h1, .inl (cI, 40, .inl (fun _ => 0)))]) [0, 1] rfl
                                                                                    have hD9 := hD.sub (ws' := [(h0, .inr (6, [.ref h1, .int 0, .int 0])), (h1, .inl (cI, 40, .inl (fun _ => 0)))]) [0, 1] (by decide) rfl
                                                                                    subst hAe
                                                                                    exact W.vret hx hb hr (fun t ht hW => ⟨⟨(), rfl, trivial, by rw [ht]; exact hP9, hD9⟩, hS.F ht⟩) hS.2.2 dX6_become_40
                                                                                  · exact absurd c3425 (by decide)
set_option maxHeartbeats 4000000 in
set_option maxRecDepth 100000 in
theorem c_X9_writeTo_0 (l : Launch) (D : va_G) (cI cS : ClassId) (sz : Nat) (h0 h1 h2 h3 h4 h5 h6 h7 h8 : Nat) : Met l yX9_writeTo wsX9_writeTo ({ frames := 2, cells := 0, slots := 0, locals := 80 }) (PQ D cI cS [(h0, .inr (9, [.ref h2, .ref h3, .ref h4, .ref h5, .ref h6, .int 0])), (h1, .inr (6, [.ref h7, .int (-1), .int 0])), (h2, .inr (2, [.ref h8, .int 0, .int 0])), (h7, .inl (cI, 40, .inl (fun _ => 0)))] sz [.ref h0, .ref h1, .int 0]) (QV D [(h0, .inr (9, [.ref h2, .ref h3, .ref h4, .ref h5, .ref h6, .int 0])), (h1, .inr (6, [.ref h7, .int (-1), .int 0])), (h2, .inr (2, [.ref h8, .int 0, .int 0])), (h7, .inl (cI, 40, .inl (fun _ => 0)))] [(h0, .inr (9, [.ref h2, .ref h3, .ref h4, .ref h5, .ref h6, .int 0])), (h2, .inr (2, [.ref h8, .int 0, .int 0])), (h1, .inr (6, [.ref h7, .int 0, .int 0])), (h7, .inl (cI, 40, .inl (fun _ => 0)))] sz) 0 0 (va_A [(h0, .inr (9, [.ref h2, .ref h3, .ref h4, .ref h5, .ref h6, .int 0])), (h1, .inr (6, [.ref h7, .int (-1), .int 0])), (h2, .inr (2, [.ref h8, .int 0, .int 0])), (h7, .inl (cI, 40, .inl (fun _ => 0)))] sz) := by
  refine Met.ofW (cc := cX9_writeTo) (maxL := 4) (ret := none) (by decide) rfl ?_
  intro p e s m args below meth c s₁ B hml hv
  obtain ⟨rfl, hsz, hP, hKK, hD0⟩ := hv
  have hx := B.exec
  have hb := B.bytes
  have hr := B.returns
  have hts := atoms_spec (ws := wsX9_writeTo) B.pre
  have hown : s.vm.findClass RX9 = some m.cls := findClass_of_methodNamed B.named
  have hlocks := B.notSynchronized
  have hK := hKK.1
  have hN := hKK.2
  have hin2 : ∀ w ∈ wsX20, w ∈ wsX9_writeTo := by decide +kernel
  have hin9 : ∀ w ∈ wsX90, w ∈ wsX9_writeTo := by decide +kernel
  subst hsz
  have hD := hD0.self (sz := s.heap.size)
  obtain ⟨A, hAe⟩ : ∃ A, A = va_A [(h0, .inr (9, [.ref h2, .ref h3, .ref h4, .ref h5, .ref h6, .int 0])), (h1, .inr (6, [.ref h7, .int (-1), .int 0])), (h2, .inr (2, [.ref h8, .int 0, .int 0])), (h7, .inl (cI, 40, .inl (fun _ => 0)))] s.heap.size := ⟨_, rfl⟩
  rw [← hAe] at hD
  have hA : ∀ q : Nat, s.heap.size ≤ q → A q := fun q h => by rw [hAe]; exact Or.inr h
  have hS : va_S A s.heap s.heap [] := va_S.rf
  have hl := lv_entry ([.ref h0, .ref h1, .int 0]) (n := 4) (Nat.le_of_ble_eq_true rfl)
  rw [lg_entry_eq]
  generalize (lg_sl ([.ref h0, .ref h1, .int 0]) ++ List.replicate (4 - (lg_sl ([.ref h0, .ref h1, .int 0])).length) Slot.unset).toArray = ls at hl ⊢
  have hl : lv_has ls 4 [(0, .ref h0), (1, .ref h1), (2, .int 0)] := hl
  refine lv_aload_n hx hb dX9_writeTo_0 rfl (lv_at hl 1 rfl) ?_
  refine lv_iload_n hx hb dX9_writeTo_1 rfl (lv_at hl 2 rfl) ?_
  refine lv_aload_n hx hb dX9_writeTo_2 rfl (lv_at hl 0 rfl) ?_
  refine va_get (D := D) (ci := 9) (v := .ref h2) (C := RX9) (T := TX9) (N := 6) hx hb hts hin9 hown hK hP 0 rfl rfl 0 (by decide) (hts (.fieldLink RX9 21 "MissedPoints$Told" "net" "LMissedPoints$Net;") (by decide +kernel)) (fun _ h9 => h9) rfl dX9_writeTo_3 ?_
  refine va_getN (D := D) (ci := 2) (v := .int 0) (C := RX2) (T := TX2) (N := 3) hx hb hts hin2 hown hK hP 2 rfl rfl 1 (by decide) (va_Nw.use rfl hN.2.2.2.2.2.2.2.2.2.2.2.2.2.2.2.1) (fun _ h9 => h9) rfl dX9_writeTo_6 ?_
  have hPc := hP.sub (ws' := [(h1, .inr (6, [.ref h7, .int (-1), .int 0])), (h7, .inl (cI, 40, .inl (fun _ => 0)))]) [1, 3] rfl
  have hDc := hD.sub (ws' := [(h1, .inr (6, [.ref h7, .int (-1), .int 0])), (h7, .inl (cI, 40, .inl (fun _ => 0)))]) [1, 3] (by decide) rfl
  refine lz_qv (wr := [(h0, .inr (9, [.ref h2, .ref h3, .ref h4, .ref h5, .ref h6, .int 0])), (h2, .inr (2, [.ref h8, .int 0, .int 0]))]) (w1 := [(h1, .inr (6, [.ref h7, .int 0, .int 0])), (h7, .inl (cI, 40, .inl (fun _ => 0)))]) (As := [.int 0, .int 0]) (rest := []) ⟨hx, hb, hml, hown, hts⟩ (c_X6_become_0 l D cI cS _ h1 h7) hKK hP hD hS hA [1, 3] [0, 2] (by decide) rfl rfl (by decide) (by decide) hPc hDc (ci := 6) rfl rfl (cwV 2 hts gX9_writeTo_X6_become rfl rfl rfl (by decide +kernel) ⟨Nat.le_of_ble_eq_true rfl, Nat.le_of_ble_eq_true rfl⟩) rfl hl.1 rfl (Nat.le_of_ble_eq_true rfl) dX9_writeTo_9 ⟨Nat.le_of_ble_eq_true rfl, Nat.le_of_ble_eq_true rfl⟩ (fun H locs hP hD hS => ?_)
  have hP : va_P D cls [(h0, .inr (9, [.ref h2, .ref h3, .ref h4, .ref h5, .ref h6, .int 0])), (h2, .inr (2, [.ref h8, .int 0, .int 0])), (h1, .inr (6, [.ref h7, .int 0, .int 0])), (h7, .inl (cI, 40, .inl (fun _ => 0)))] H := hP
  have hD : va_D A [(h0, .inr (9, [.ref h2, .ref h3, .ref h4, .ref h5, .ref h6, .int 0])), (h2, .inr (2, [.ref h8, .int 0, .int 0])), (h1, .inr (6, [.ref h7, .int 0, .int 0])), (h7, .inl (cI, 40, .inl (fun _ => 0)))] := hD
  refine lv_iconst (v := 0) hx hb dX9_writeTo_12 (by decide) ?_
  refine lv_istore_n (lv' := [(3, .int 0), (0, .ref h0), (1, .ref h1), (2, .int 0)]) hx hb dX9_writeTo_13 rfl hl (by decide) rfl (fun ls hl => ?_)
  refine lv_iload_n hx hb dX9_writeTo_14 rfl (lv_at hl 0 rfl) ?_
  refine lv_aload_n hx hb dX9_writeTo_15 rfl (lv_at hl 1 rfl) ?_
  refine va_get (D := D) (ci := 9) (v := .ref h2) (C := RX9) (T := TX9) (N := 6) hx hb hts hin9 hown hK hP 0 rfl rfl 0 (by decide) (hts (.fieldLink RX9 21 "MissedPoints$Told" "net" "LMissedPoints$Net;") (by decide +kernel)) (fun _ h9 => h9) rfl dX9_writeTo_16 ?_
  refine va_getN (D := D) (ci := 2) (v := .int 0) (C := RX2) (T := TX2) (N := 3) hx hb hts hin2 hown hK hP 1 rfl rfl 1 (by decide) (va_Nw.use rfl hN.2.2.2.2.2.2.2.2.2.2.2.2.2.2.2.1) (fun _ h9 => h9) rfl dX9_writeTo_19 ?_
  refine lv_icmp_ge (tgt := 42) hx hb dX9_writeTo_22 (by decide) (fun c3429 => ?_) (fun c3429 => ?_)
  · have hP9 := hP.sub (ws' := [(h0, .inr (9, [.ref h2, .ref h3, .ref h4, .ref h5, .ref h6, .int 0])), (h2, .inr (2, [.ref h8, .int 0, .int 0])), (h1, .inr (6, [.ref h7, .int 0, .int 0])), (h7, .inl (cI, 40, .inl (fun _ => 0)))]) [0, 1, 2, 3] rfl
    have hD9 := hD.sub (ws' := [(h0, .inr (9, [.ref h2, .ref h3, .ref h4, .ref h5, .ref h6, .int 0])), (h2, .inr (2, [.ref h8, .int 0, .int 0])), (h1, .inr (6, [.ref h7, .int 0, .int 0])), (h7, .inl (cI, 40, .inl (fun _ => 0)))]) [0, 1, 2, 3] (by decide) rfl
    subst hAe
    exact W.vret hx hb hr (fun t ht hW => ⟨⟨(), rfl, trivial, by rw [ht]; exact hP9, hD9⟩, hS.F ht⟩) hS.2.2 dX9_writeTo_42
  · exact absurd c3429 (by decide)
