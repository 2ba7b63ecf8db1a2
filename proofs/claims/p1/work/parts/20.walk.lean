set_option maxRecDepth 20000 in
theorem ggX11_text_X5_readAll : GoodIn wsX11_text wsX5_readAll := goodIn_r _ [8, 9, 10, 11, 12, 13, 14, 15, 7, 16, 17, 18, 19, 20, 21, 22, 23, 24, 25, 26, 27, 28, 29, 30, 31, 32, 33, 34, 35, 36, 37, 38, 39, 40, 41, 42, 43, 44, 45, 46, 47, 48, 49, 50, 51, 52, 53, 54, 55, 56, 57, 58, 59, 60, 61, 62, 63, 64, 65, 66, 67, 107, 108, 109, 110, 111, 112, 113, 114, 115, 116, 117, 118, 119] (by decide +kernel) (by decide +kernel)
set_option maxRecDepth 20000 in
theorem gX11_text_X5_readAll : GoodIn wsX11_text (wsV RX11 268 RX5 yX5_readAll wsX5_readAll) := goodIn_app (goodIn_of _ (by decide +kernel)) ggX11_text_X5_readAll
set_option maxRecDepth 20000 in
theorem ggX11_text_X8_clear : GoodIn wsX11_text wsX8_clear := goodIn_r _ [71, 25, 115, 116] (by decide +kernel) (by decide +kernel)
set_option maxRecDepth 20000 in
theorem gX11_text_X8_clear : GoodIn wsX11_text (wsV RX11 265 RX8 yX8_clear wsX8_clear) := goodIn_app (goodIn_of _ (by decide +kernel)) ggX11_text_X8_clear
theorem dX11_text_0 : decode cX11_text 0 = .ok (.aload_n 0, 1) := by decide +kernel
theorem dX11_text_1 : decode cX11_text 1 = .ok (.getfield 69, 3) := by decide +kernel
theorem dX11_text_12 : decode cX11_text 12 = .ok (.invokevirtual 265, 3) := by decide +kernel
theorem dX11_text_15 : decode cX11_text 15 = .ok (.pop, 1) := by decide +kernel
theorem dX11_text_16 : decode cX11_text 16 = .ok (.iload_n 1, 1) := by decide +kernel
theorem dX11_text_17 : decode cX11_text 17 = .ok (.ifCond .lt 10, 3) := by decide +kernel
theorem dX11_text_20 : decode cX11_text 20 = .ok (.bipush (-100), 2) := by decide +kernel
theorem dX11_text_22 : decode cX11_text 22 = .ok (.iload_n 1, 1) := by decide +kernel
theorem dX11_text_23 : decode cX11_text 23 = .ok (.isub, 1) := by decide +kernel
theorem dX11_text_24 : decode cX11_text 24 = .ok (.goto 17, 3) := by decide +kernel
theorem dX11_text_4 : decode cX11_text 4 = .ok (.invokevirtual 268, 3) := by decide +kernel
theorem dX11_text_41 : decode cX11_text 41 = .ok (.ireturn, 1) := by decide +kernel
theorem dX11_text_7 : decode cX11_text 7 = .ok (.istore_n 1, 1) := by decide +kernel
theorem dX11_text_8 : decode cX11_text 8 = .ok (.aload_n 0, 1) := by decide +kernel
theorem dX11_text_9 : decode cX11_text 9 = .ok (.getfield 60, 3) := by decide +kernel
theorem dX11_seed_0 : decode cX11_seed 0 = .ok (.aload_n 0, 1) := by decide +kernel
theorem dX11_seed_1 : decode cX11_seed 1 = .ok (.getfield 53, 3) := by decide +kernel
theorem dX11_seed_12 : decode cX11_seed 12 = .ok (.iload_n 1, 1) := by decide +kernel
theorem dX11_seed_13 : decode cX11_seed 13 = .ok (.putfield 141, 3) := by decide +kernel
theorem dX11_seed_16 : decode cX11_seed 16 = .ok (.iload_n 2, 1) := by decide +kernel
theorem dX11_seed_17 : decode cX11_seed 17 = .ok (.ireturn, 1) := by decide +kernel
theorem dX11_seed_4 : decode cX11_seed 4 = .ok (.getfield 141, 3) := by decide +kernel
theorem dX11_seed_7 : decode cX11_seed 7 = .ok (.istore_n 2, 1) := by decide +kernel
theorem dX11_seed_8 : decode cX11_seed 8 = .ok (.aload_n 0, 1) := by decide +kernel
theorem dX11_seed_9 : decode cX11_seed 9 = .ok (.getfield 53, 3) := by decide +kernel
theorem dX11_isShelf_0 : decode cX11_isShelf 0 = .ok (.iload_n 0, 1) := by decide +kernel
theorem dX11_isShelf_1 : decode cX11_isShelf 1 = .ok (.ifCond .lt 12, 3) := by decide +kernel
theorem dX11_isShelf_10 : decode cX11_isShelf 10 = .ok (.goto 4, 3) := by decide +kernel
theorem dX11_isShelf_13 : decode cX11_isShelf 13 = .ok (.iconst 0, 1) := by decide +kernel
theorem dX11_isShelf_14 : decode cX11_isShelf 14 = .ok (.ireturn, 1) := by decide +kernel
theorem dX11_isShelf_4 : decode cX11_isShelf 4 = .ok (.iload_n 0, 1) := by decide +kernel
theorem dX11_isShelf_5 : decode cX11_isShelf 5 = .ok (.iconst 4, 1) := by decide +kernel
theorem dX11_isShelf_6 : decode cX11_isShelf 6 = .ok (.if_icmp .ge 7, 3) := by decide +kernel
theorem dX11_isShelf_9 : decode cX11_isShelf 9 = .ok (.iconst 1, 1) := by decide +kernel
set_option maxRecDepth 20000 in
theorem ggX11_shelvePoint_X2_hasPoint : GoodIn wsX11_shelvePoint wsX2_hasPoint := goodIn_r _ [8, 9, 101, 102, 103] (by decide +kernel) (by decide +kernel)
set_option maxRecDepth 20000 in
theorem gX11_shelvePoint_X2_hasPoint : GoodIn wsX11_shelvePoint (wsV RX11 116 RX2 yX2_hasPoint wsX2_hasPoint) := goodIn_app (goodIn_of _ (by decide +kernel)) ggX11_shelvePoint_X2_hasPoint
theorem dX11_shelvePoint_0 : decode cX11_shelvePoint 0 = .ok (.aload_n 0, 1) := by decide +kernel
theorem dX11_shelvePoint_1 : decode cX11_shelvePoint 1 = .ok (.getfield 12, 3) := by decide +kernel
theorem dX11_shelvePoint_11 : decode cX11_shelvePoint 11 = .ok (.bipush (-2), 2) := by decide +kernel
theorem dX11_shelvePoint_13 : decode cX11_shelvePoint 13 = .ok (.ireturn, 1) := by decide +kernel
theorem dX11_shelvePoint_4 : decode cX11_shelvePoint 4 = .ok (.iload_n 2, 1) := by decide +kernel
theorem dX11_shelvePoint_5 : decode cX11_shelvePoint 5 = .ok (.invokevirtual 116, 3) := by decide +kernel
theorem dX11_shelvePoint_8 : decode cX11_shelvePoint 8 = .ok (.ifCond .ne 6, 3) := by decide +kernel
set_option maxRecDepth 20000 in
theorem ggX11_shelvePiece_X2_pieceAt : GoodIn wsX11_shelvePiece wsX2_pieceAt := goodIn_r _ [74, 69, 75, 18, 19, 20, 21, 22, 76, 77, 78, 79, 80, 47, 81, 82, 83, 84, 49, 117, 118, 119] (by decide +kernel) (by decide +kernel)
set_option maxRecDepth 20000 in
theorem gX11_shelvePiece_X2_pieceAt : GoodIn wsX11_shelvePiece (wsV RX11 169 RX2 yX2_pieceAt wsX2_pieceAt) := goodIn_app (goodIn_of _ (by decide +kernel)) ggX11_shelvePiece_X2_pieceAt
set_option maxRecDepth 20000 in
theorem ggX11_shelvePiece_X4_allOf : GoodIn wsX11_shelvePiece wsX4_allOf := goodIn_r _ [8, 9, 10, 11, 12, 13, 14, 15, 16, 17, 18, 19, 20, 21, 22, 23, 24, 25, 26, 27, 28, 29, 30, 31, 32, 33, 34, 35, 36, 37, 38, 39, 40, 41, 42, 43, 44, 45, 46, 47, 48, 49, 50, 51, 52, 53, 54, 55, 56, 57, 58, 59, 60, 61, 62, 63, 64, 65, 66, 67, 68, 69, 70, 111, 112, 113, 114, 115, 116, 117, 118, 119, 120, 121] (by decide +kernel) (by decide +kernel)
set_option maxRecDepth 20000 in
theorem gX11_shelvePiece_X4_allOf : GoodIn wsX11_shelvePiece (wsV RX11 163 RX4 yX4_allOf wsX4_allOf) := goodIn_app (goodIn_of _ (by decide +kernel)) ggX11_shelvePiece_X4_allOf
theorem dX11_shelvePiece_0 : decode cX11_shelvePiece 0 = .ok (.aload_n 0, 1) := by decide +kernel
theorem dX11_shelvePiece_1 : decode cX11_shelvePiece 1 = .ok (.getfield 12, 3) := by decide +kernel
theorem dX11_shelvePiece_12 : decode cX11_shelvePiece 12 = .ok (.iload 4, 2) := by decide +kernel
theorem dX11_shelvePiece_14 : decode cX11_shelvePiece 14 = .ok (.invokevirtual 169, 3) := by decide +kernel
theorem dX11_shelvePiece_17 : decode cX11_shelvePiece 17 = .ok (.istore 5, 2) := by decide +kernel
theorem dX11_shelvePiece_19 : decode cX11_shelvePiece 19 = .ok (.iload 5, 2) := by decide +kernel
theorem dX11_shelvePiece_21 : decode cX11_shelvePiece 21 = .ok (.ifCond .ne 8, 3) := by decide +kernel
theorem dX11_shelvePiece_24 : decode cX11_shelvePiece 24 = .ok (.bipush (-2), 2) := by decide +kernel
theorem dX11_shelvePiece_26 : decode cX11_shelvePiece 26 = .ok (.goto 14, 3) := by decide +kernel
theorem dX11_shelvePiece_4 : decode cX11_shelvePiece 4 = .ok (.aload_n 0, 1) := by decide +kernel
theorem dX11_shelvePiece_40 : decode cX11_shelvePiece 40 = .ok (.ireturn, 1) := by decide +kernel
theorem dX11_shelvePiece_5 : decode cX11_shelvePiece 5 = .ok (.getfield 30, 3) := by decide +kernel
theorem dX11_shelvePiece_8 : decode cX11_shelvePiece 8 = .ok (.iload_n 3, 1) := by decide +kernel
theorem dX11_shelvePiece_9 : decode cX11_shelvePiece 9 = .ok (.invokevirtual 163, 3) := by decide +kernel
set_option maxRecDepth 20000 in
theorem ggX7_put_X11_isShelf : GoodIn wsX7_put wsX11_isShelf := goodIn_r _ [5] (by decide +kernel) (by decide +kernel)
set_option maxRecDepth 20000 in
theorem gX7_put_X11_isShelf_n18 : GoodIn wsX7_put (wsX11_isShelf) := ggX7_put_X11_isShelf
theorem dX7_put_0 : decode cX7_put 0 = .ok (.iload_n 1, 1) := by decide +kernel
theorem dX7_put_1 : decode cX7_put 1 = .ok (.invokestatic 18, 3) := by decide +kernel
theorem dX7_put_10 : decode cX7_put 10 = .ok (.aload_n 0, 1) := by decide +kernel
theorem dX7_put_11 : decode cX7_put 11 = .ok (.getfield 11, 3) := by decide +kernel
theorem dX7_put_14 : decode cX7_put 14 = .ok (.iload_n 1, 1) := by decide +kernel
theorem dX7_put_15 : decode cX7_put 15 = .ok (.iload_n 2, 1) := by decide +kernel
theorem dX7_put_16 : decode cX7_put 16 = .ok (.iastore, 1) := by decide +kernel
theorem dX7_put_17 : decode cX7_put 17 = .ok (.aload_n 0, 1) := by decide +kernel
theorem dX7_put_18 : decode cX7_put 18 = .ok (.getfield 15, 3) := by decide +kernel
theorem dX7_put_21 : decode cX7_put 21 = .ok (.iload_n 1, 1) := by decide +kernel
theorem dX7_put_22 : decode cX7_put 22 = .ok (.iload_n 3, 1) := by decide +kernel
theorem dX7_put_23 : decode cX7_put 23 = .ok (.iastore, 1) := by decide +kernel
theorem dX7_put_24 : decode cX7_put 24 = .ok (.iconst 1, 1) := by decide +kernel
theorem dX7_put_25 : decode cX7_put 25 = .ok (.ireturn, 1) := by decide +kernel
theorem dX7_put_4 : decode cX7_put 4 = .ok (.ifCond .ne 6, 3) := by decide +kernel
theorem dX7_put_7 : decode cX7_put 7 = .ok (.bipush (-2), 2) := by decide +kernel
theorem dX7_put_9 : decode cX7_put 9 = .ok (.ireturn, 1) := by decide +kernel
set_option maxRecDepth 20000 in
theorem ggX11_shelveArea_X2_hasAll : GoodIn wsX11_shelveArea wsX2_hasAll := goodIn_r _ [7, 8, 9, 10, 6, 11, 12, 39, 40, 41] (by decide +kernel) (by decide +kernel)
set_option maxRecDepth 20000 in
theorem gX11_shelveArea_X2_hasAll : GoodIn wsX11_shelveArea (wsV RX11 144 RX2 yX2_hasAll wsX2_hasAll) := goodIn_app (goodIn_of _ (by decide +kernel)) ggX11_shelveArea_X2_hasAll
set_option maxRecDepth 20000 in
theorem ggX11_shelveArea_X7_put : GoodIn wsX11_shelveArea wsX7_put := goodIn_r _ [17, 18, 19, 20, 21, 22, 42, 43] (by decide +kernel) (by decide +kernel)
set_option maxRecDepth 20000 in
theorem gX11_shelveArea_X7_put : GoodIn wsX11_shelveArea (wsV RX11 302 RX7 yX7_put wsX7_put) := goodIn_app (goodIn_of _ (by decide +kernel)) ggX11_shelveArea_X7_put
theorem dX11_shelveArea_0 : decode cX11_shelveArea 0 = .ok (.aload_n 0, 1) := by decide +kernel
theorem dX11_shelveArea_1 : decode cX11_shelveArea 1 = .ok (.getfield 12, 3) := by decide +kernel
theorem dX11_shelveArea_11 : decode cX11_shelveArea 11 = .ok (.aload_n 0, 1) := by decide +kernel
theorem dX11_shelveArea_12 : decode cX11_shelveArea 12 = .ok (.getfield 92, 3) := by decide +kernel
theorem dX11_shelveArea_15 : decode cX11_shelveArea 15 = .ok (.iload_n 1, 1) := by decide +kernel
theorem dX11_shelveArea_16 : decode cX11_shelveArea 16 = .ok (.iconst 2, 1) := by decide +kernel
theorem dX11_shelveArea_17 : decode cX11_shelveArea 17 = .ok (.iload_n 2, 1) := by decide +kernel
theorem dX11_shelveArea_18 : decode cX11_shelveArea 18 = .ok (.invokevirtual 302, 3) := by decide +kernel
theorem dX11_shelveArea_21 : decode cX11_shelveArea 21 = .ok (.goto 5, 3) := by decide +kernel
theorem dX11_shelveArea_24 : decode cX11_shelveArea 24 = .ok (.bipush (-2), 2) := by decide +kernel
theorem dX11_shelveArea_26 : decode cX11_shelveArea 26 = .ok (.ireturn, 1) := by decide +kernel
theorem dX11_shelveArea_4 : decode cX11_shelveArea 4 = .ok (.iload_n 2, 1) := by decide +kernel
theorem dX11_shelveArea_5 : decode cX11_shelveArea 5 = .ok (.invokevirtual 144, 3) := by decide +kernel
theorem dX11_shelveArea_8 : decode cX11_shelveArea 8 = .ok (.ifCond .eq 16, 3) := by decide +kernel
set_option maxRecDepth 20000 in
theorem ggX11_shelveRow_X11_refusalOfSheet : GoodIn wsX11_shelveRow wsX11_refusalOfSheet := goodIn_r _ [7, 2, 8, 9, 6, 10, 11, 12, 13, 14, 15, 16, 26, 27, 28, 29, 30, 31, 32, 33, 34, 35, 36, 37, 38, 39, 40, 41, 42, 43, 44] (by decide +kernel) (by decide +kernel)
set_option maxRecDepth 20000 in
theorem gX11_shelveRow_X11_refusalOfSheet : GoodIn wsX11_shelveRow (wsV RX11 218 RX11 yX11_refusalOfSheet wsX11_refusalOfSheet) := goodIn_app (goodIn_of _ (by decide +kernel)) ggX11_shelveRow_X11_refusalOfSheet
theorem dX11_shelveRow_0 : decode cX11_shelveRow 0 = .ok (.aload_n 0, 1) := by decide +kernel
theorem dX11_shelveRow_1 : decode cX11_shelveRow 1 = .ok (.iload_n 2, 1) := by decide +kernel
theorem dX11_shelveRow_10 : decode cX11_shelveRow 10 = .ok (.iload_n 3, 1) := by decide +kernel
theorem dX11_shelveRow_11 : decode cX11_shelveRow 11 = .ok (.ireturn, 1) := by decide +kernel
theorem dX11_shelveRow_2 : decode cX11_shelveRow 2 = .ok (.invokevirtual 218, 3) := by decide +kernel
theorem dX11_shelveRow_5 : decode cX11_shelveRow 5 = .ok (.istore_n 3, 1) := by decide +kernel
theorem dX11_shelveRow_6 : decode cX11_shelveRow 6 = .ok (.iload_n 3, 1) := by decide +kernel
theorem dX11_shelveRow_7 : decode cX11_shelveRow 7 = .ok (.ifCond .eq 5, 3) := by decide +kernel
set_option maxRecDepth 20000 in
theorem ggX11_shelf_X11_isShelf : GoodIn wsX11_shelf wsX11_isShelf := goodIn_r _ [5] (by decide +kernel) (by decide +kernel)
set_option maxRecDepth 20000 in
theorem gX11_shelf_X11_isShelf : GoodIn wsX11_shelf (va_wsS RX11 286 yX11_isShelf wsX11_isShelf) := goodIn_app (goodIn_of _ (by decide +kernel)) ggX11_shelf_X11_isShelf
set_option maxRecDepth 20000 in
theorem ggX11_shelf_X11_shelveArea : GoodIn wsX11_shelf wsX11_shelveArea := goodIn_r _ [120, 10, 1, 121, 122, 123, 15, 124, 107, 32, 33, 34, 17, 83, 84, 85, 86, 87, 88, 89, 3, 4, 5, 143, 144, 145, 146, 147, 148, 149, 150, 151, 152, 153, 154, 155, 156, 157, 158, 159, 160, 161, 170, 171] (by decide +kernel) (by decide +kernel)
set_option maxRecDepth 20000 in
theorem gX11_shelf_X11_shelveArea : GoodIn wsX11_shelf (wsV RX11 296 RX11 yX11_shelveArea wsX11_shelveArea) := goodIn_app (goodIn_of _ (by decide +kernel)) ggX11_shelf_X11_shelveArea
set_option maxRecDepth 20000 in
theorem ggX11_shelf_X11_shelvePiece : GoodIn wsX11_shelf wsX11_shelvePiece := goodIn_r _ [93, 10, 11, 1, 94, 95, 96, 21, 97, 23, 24, 25, 26, 27, 28, 29, 30, 31, 32, 33, 15, 34, 17, 35, 36, 37, 38, 39, 40, 41, 42, 43, 44, 45, 46, 47, 48, 49, 50, 51, 52, 53, 54, 55, 56, 57, 58, 59, 60, 61, 62, 63, 64, 65, 66, 67, 68, 69, 70, 71, 72, 73, 74, 75, 76, 98, 99, 100, 101, 81, 102, 103, 104, 105, 106, 107, 108, 109, 110, 111, 112, 113, 114, 115, 116, 83, 84, 85, 86, 87, 88, 89, 3, 4, 5, 143, 144, 145, 146, 147, 148, 149, 150, 151, 152, 153, 154, 155, 156, 157, 158, 162, 163, 164, 165, 166, 167, 159, 160, 161, 168, 169, 170, 171] (by decide +kernel) (by decide +kernel)
set_option maxRecDepth 20000 in
theorem gX11_shelf_X11_shelvePiece : GoodIn wsX11_shelf (wsV RX11 292 RX11 yX11_shelvePiece wsX11_shelvePiece) := goodIn_app (goodIn_of _ (by decide +kernel)) ggX11_shelf_X11_shelvePiece
set_option maxRecDepth 20000 in
theorem ggX11_shelf_X11_shelvePoint : GoodIn wsX11_shelf wsX11_shelvePoint := goodIn_r _ [9, 10, 1, 11, 12, 13, 14, 15, 16, 17, 18, 19, 20, 21, 22, 23, 24, 25, 26, 27, 28, 29, 30, 31, 32, 33, 34, 35, 36, 37, 38, 39, 40, 41, 42, 43, 44, 45, 46, 47, 48, 49, 50, 51, 52, 53, 54, 55, 56, 57, 58, 59, 60, 61, 62, 63, 64, 65, 66, 67, 68, 69, 70, 71, 72, 73, 74, 75, 76, 77, 78, 79, 80, 81, 82, 83, 84, 85, 86, 87, 88, 89, 3, 4, 5, 143, 144, 145, 146, 147, 148, 149, 150, 151, 152, 153, 154, 155, 156, 157, 158, 159, 160, 161, 162, 163, 164, 165, 166, 167, 168, 169, 170, 171] (by decide +kernel) (by decide +kernel)
set_option maxRecDepth 20000 in
theorem gX11_shelf_X11_shelvePoint : GoodIn wsX11_shelf (wsV RX11 289 RX11 yX11_shelvePoint wsX11_shelvePoint) := goodIn_app (goodIn_of _ (by decide +kernel)) ggX11_shelf_X11_shelvePoint
set_option maxRecDepth 20000 in
theorem ggX11_shelf_X11_shelveRow : GoodIn wsX11_shelf wsX11_shelveRow := goodIn_r _ [128, 1, 129, 130, 131, 132, 4, 133, 134, 135, 136, 137, 138, 139, 140, 141, 142, 83, 84, 85, 86, 87, 88, 89, 3, 5, 143, 144, 145, 146, 147, 148, 149, 150, 151, 152, 153, 154, 155, 156, 157, 158, 172, 173, 174, 170, 171] (by decide +kernel) (by decide +kernel)
set_option maxRecDepth 20000 in
theorem gX11_shelf_X11_shelveRow : GoodIn wsX11_shelf (wsV RX11 299 RX11 yX11_shelveRow wsX11_shelveRow) := goodIn_app (goodIn_of _ (by decide +kernel)) ggX11_shelf_X11_shelveRow
set_option maxRecDepth 20000 in
theorem ggX11_shelf_X7_put : GoodIn wsX11_shelf wsX7_put := goodIn_r _ [87, 88, 89, 3, 4, 5, 170, 171] (by decide +kernel) (by decide +kernel)
set_option maxRecDepth 20000 in
theorem gX11_shelf_X7_put : GoodIn wsX11_shelf (wsV RX11 302 RX7 yX7_put wsX7_put) := goodIn_app (goodIn_of _ (by decide +kernel)) ggX11_shelf_X7_put
theorem dX11_shelf_0 : decode cX11_shelf 0 = .ok (.iload_n 1, 1) := by decide +kernel
theorem dX11_shelf_1 : decode cX11_shelf 1 = .ok (.invokestatic 286, 3) := by decide +kernel
theorem dX11_shelf_10 : decode cX11_shelf 10 = .ok (.iload_n 2, 1) := by decide +kernel
theorem dX11_shelf_100 : decode cX11_shelf 100 = .ok (.ireturn, 1) := by decide +kernel
theorem dX11_shelf_11 : decode cX11_shelf 11 = .ok (.tableswitch 87 0 5 #[37, 44, 53, 62, 69, 76], 37) := by decide +kernel
theorem dX11_shelf_4 : decode cX11_shelf 4 = .ok (.ifCond .ne 6, 3) := by decide +kernel
theorem dX11_shelf_48 : decode cX11_shelf 48 = .ok (.aload_n 0, 1) := by decide +kernel
theorem dX11_shelf_49 : decode cX11_shelf 49 = .ok (.iload_n 1, 1) := by decide +kernel
theorem dX11_shelf_50 : decode cX11_shelf 50 = .ok (.iload_n 3, 1) := by decide +kernel
theorem dX11_shelf_51 : decode cX11_shelf 51 = .ok (.invokevirtual 289, 3) := by decide +kernel
theorem dX11_shelf_54 : decode cX11_shelf 54 = .ok (.ireturn, 1) := by decide +kernel
theorem dX11_shelf_55 : decode cX11_shelf 55 = .ok (.aload_n 0, 1) := by decide +kernel
theorem dX11_shelf_56 : decode cX11_shelf 56 = .ok (.iload_n 1, 1) := by decide +kernel
theorem dX11_shelf_57 : decode cX11_shelf 57 = .ok (.iconst 4, 1) := by decide +kernel
theorem dX11_shelf_58 : decode cX11_shelf 58 = .ok (.iconst 0, 1) := by decide +kernel
theorem dX11_shelf_59 : decode cX11_shelf 59 = .ok (.iload_n 3, 1) := by decide +kernel
theorem dX11_shelf_60 : decode cX11_shelf 60 = .ok (.invokevirtual 292, 3) := by decide +kernel
theorem dX11_shelf_63 : decode cX11_shelf 63 = .ok (.ireturn, 1) := by decide +kernel
theorem dX11_shelf_64 : decode cX11_shelf 64 = .ok (.aload_n 0, 1) := by decide +kernel
theorem dX11_shelf_65 : decode cX11_shelf 65 = .ok (.iload_n 1, 1) := by decide +kernel
theorem dX11_shelf_66 : decode cX11_shelf 66 = .ok (.iconst 5, 1) := by decide +kernel
theorem dX11_shelf_67 : decode cX11_shelf 67 = .ok (.iconst 2, 1) := by decide +kernel
theorem dX11_shelf_68 : decode cX11_shelf 68 = .ok (.iload_n 3, 1) := by decide +kernel
theorem dX11_shelf_69 : decode cX11_shelf 69 = .ok (.invokevirtual 292, 3) := by decide +kernel
theorem dX11_shelf_7 : decode cX11_shelf 7 = .ok (.bipush (-2), 2) := by decide +kernel
theorem dX11_shelf_72 : decode cX11_shelf 72 = .ok (.ireturn, 1) := by decide +kernel
theorem dX11_shelf_73 : decode cX11_shelf 73 = .ok (.aload_n 0, 1) := by decide +kernel
theorem dX11_shelf_74 : decode cX11_shelf 74 = .ok (.iload_n 1, 1) := by decide +kernel
theorem dX11_shelf_75 : decode cX11_shelf 75 = .ok (.iload_n 3, 1) := by decide +kernel
theorem dX11_shelf_76 : decode cX11_shelf 76 = .ok (.invokevirtual 296, 3) := by decide +kernel
theorem dX11_shelf_79 : decode cX11_shelf 79 = .ok (.ireturn, 1) := by decide +kernel
theorem dX11_shelf_80 : decode cX11_shelf 80 = .ok (.aload_n 0, 1) := by decide +kernel
theorem dX11_shelf_81 : decode cX11_shelf 81 = .ok (.iload_n 1, 1) := by decide +kernel
theorem dX11_shelf_82 : decode cX11_shelf 82 = .ok (.iload_n 3, 1) := by decide +kernel
theorem dX11_shelf_83 : decode cX11_shelf 83 = .ok (.invokevirtual 299, 3) := by decide +kernel
theorem dX11_shelf_86 : decode cX11_shelf 86 = .ok (.ireturn, 1) := by decide +kernel
theorem dX11_shelf_87 : decode cX11_shelf 87 = .ok (.aload_n 0, 1) := by decide +kernel
theorem dX11_shelf_88 : decode cX11_shelf 88 = .ok (.getfield 92, 3) := by decide +kernel
theorem dX11_shelf_9 : decode cX11_shelf 9 = .ok (.ireturn, 1) := by decide +kernel
theorem dX11_shelf_91 : decode cX11_shelf 91 = .ok (.iload_n 1, 1) := by decide +kernel
theorem dX11_shelf_92 : decode cX11_shelf 92 = .ok (.iconst (-1), 1) := by decide +kernel
theorem dX11_shelf_93 : decode cX11_shelf 93 = .ok (.iconst 0, 1) := by decide +kernel
theorem dX11_shelf_94 : decode cX11_shelf 94 = .ok (.invokevirtual 302, 3) := by decide +kernel
theorem dX11_shelf_97 : decode cX11_shelf 97 = .ok (.ireturn, 1) := by decide +kernel
theorem dX11_shelf_98 : decode cX11_shelf 98 = .ok (.bipush (-2), 2) := by decide +kernel
theorem dX11_isKind_0 : decode cX11_isKind 0 = .ok (.iload_n 0, 1) := by decide +kernel
theorem dX11_isKind_1 : decode cX11_isKind 1 = .ok (.ifCond .lt 13, 3) := by decide +kernel
theorem dX11_isKind_10 : decode cX11_isKind 10 = .ok (.iconst 1, 1) := by decide +kernel
theorem dX11_isKind_11 : decode cX11_isKind 11 = .ok (.goto 4, 3) := by decide +kernel
theorem dX11_isKind_14 : decode cX11_isKind 14 = .ok (.iconst 0, 1) := by decide +kernel
theorem dX11_isKind_15 : decode cX11_isKind 15 = .ok (.ireturn, 1) := by decide +kernel
theorem dX11_isKind_4 : decode cX11_isKind 4 = .ok (.iload_n 0, 1) := by decide +kernel
theorem dX11_isKind_5 : decode cX11_isKind 5 = .ok (.bipush 6, 2) := by decide +kernel
theorem dX11_isKind_7 : decode cX11_isKind 7 = .ok (.if_icmp .ge 7, 3) := by decide +kernel
set_option maxRecDepth 20000 in
theorem ggX7_isEmpty_X11_isShelf : GoodIn wsX7_isEmpty wsX11_isShelf := goodIn_r _ [4] (by decide +kernel) (by decide +kernel)
set_option maxRecDepth 20000 in
theorem gX7_isEmpty_X11_isShelf_n18 : GoodIn wsX7_isEmpty (wsX11_isShelf) := ggX7_isEmpty_X11_isShelf
theorem dX7_isEmpty_0 : decode cX7_isEmpty 0 = .ok (.iload_n 1, 1) := by decide +kernel
theorem dX7_isEmpty_1 : decode cX7_isEmpty 1 = .ok (.invokestatic 18, 3) := by decide +kernel
theorem dX7_isEmpty_11 : decode cX7_isEmpty 11 = .ok (.iload_n 1, 1) := by decide +kernel
theorem dX7_isEmpty_12 : decode cX7_isEmpty 12 = .ok (.iaload, 1) := by decide +kernel
theorem dX7_isEmpty_13 : decode cX7_isEmpty 13 = .ok (.iconst (-1), 1) := by decide +kernel
theorem dX7_isEmpty_14 : decode cX7_isEmpty 14 = .ok (.if_icmp .ne 7, 3) := by decide +kernel
theorem dX7_isEmpty_17 : decode cX7_isEmpty 17 = .ok (.iconst 1, 1) := by decide +kernel
theorem dX7_isEmpty_18 : decode cX7_isEmpty 18 = .ok (.goto 4, 3) := by decide +kernel
theorem dX7_isEmpty_22 : decode cX7_isEmpty 22 = .ok (.ireturn, 1) := by decide +kernel
theorem dX7_isEmpty_4 : decode cX7_isEmpty 4 = .ok (.ifCond .eq 13, 3) := by decide +kernel
theorem dX7_isEmpty_7 : decode cX7_isEmpty 7 = .ok (.aload_n 0, 1) := by decide +kernel
theorem dX7_isEmpty_8 : decode cX7_isEmpty 8 = .ok (.getfield 11, 3) := by decide +kernel
set_option maxRecDepth 20000 in
theorem ggX11_taken_X11_isKind : GoodIn wsX11_taken wsX11_isKind := goodIn_r _ [5] (by decide +kernel) (by decide +kernel)
set_option maxRecDepth 20000 in
theorem gX11_taken_X11_isKind : GoodIn wsX11_taken (va_wsS RX11 307 yX11_isKind wsX11_isKind) := goodIn_app (goodIn_of _ (by decide +kernel)) ggX11_taken_X11_isKind
set_option maxRecDepth 20000 in
theorem ggX11_taken_X11_isShelf : GoodIn wsX11_taken wsX11_isShelf := goodIn_r _ [8] (by decide +kernel) (by decide +kernel)
set_option maxRecDepth 20000 in
theorem gX11_taken_X11_isShelf : GoodIn wsX11_taken (va_wsS RX11 286 yX11_isShelf wsX11_isShelf) := goodIn_app (goodIn_of _ (by decide +kernel)) ggX11_taken_X11_isShelf
set_option maxRecDepth 20000 in
theorem ggX11_taken_X11_isSort : GoodIn wsX11_taken wsX11_isSort := goodIn_r _ [11] (by decide +kernel) (by decide +kernel)
set_option maxRecDepth 20000 in
theorem gX11_taken_X11_isSort : GoodIn wsX11_taken (va_wsS RX11 259 yX11_isSort wsX11_isSort) := goodIn_app (goodIn_of _ (by decide +kernel)) ggX11_taken_X11_isSort
set_option maxRecDepth 20000 in
theorem ggX11_taken_X7_isEmpty : GoodIn wsX11_taken wsX7_isEmpty := goodIn_r _ [16, 17, 7, 4, 8, 48, 49] (by decide +kernel) (by decide +kernel)
set_option maxRecDepth 20000 in
theorem gX11_taken_X7_isEmpty : GoodIn wsX11_taken (wsV RX11 310 RX7 yX7_isEmpty wsX7_isEmpty) := goodIn_app (goodIn_of _ (by decide +kernel)) ggX11_taken_X7_isEmpty
theorem dX11_taken_0 : decode cX11_taken 0 = .ok (.iload_n 2, 1) := by decide +kernel
theorem dX11_taken_1 : decode cX11_taken 1 = .ok (.invokestatic 307, 3) := by decide +kernel
theorem dX11_taken_12 : decode cX11_taken 12 = .ok (.iload_n 3, 1) := by decide +kernel
theorem dX11_taken_13 : decode cX11_taken 13 = .ok (.ifCond .ne 16, 3) := by decide +kernel
theorem dX11_taken_16 : decode cX11_taken 16 = .ok (.iload_n 2, 1) := by decide +kernel
theorem dX11_taken_17 : decode cX11_taken 17 = .ok (.bipush 10, 2) := by decide +kernel
theorem dX11_taken_19 : decode cX11_taken 19 = .ok (.isub, 1) := by decide +kernel
theorem dX11_taken_20 : decode cX11_taken 20 = .ok (.invokestatic 259, 3) := by decide +kernel
theorem dX11_taken_23 : decode cX11_taken 23 = .ok (.ifCond .ne 6, 3) := by decide +kernel
theorem dX11_taken_26 : decode cX11_taken 26 = .ok (.bipush (-2), 2) := by decide +kernel
theorem dX11_taken_28 : decode cX11_taken 28 = .ok (.ireturn, 1) := by decide +kernel
theorem dX11_taken_29 : decode cX11_taken 29 = .ok (.aload_n 0, 1) := by decide +kernel
theorem dX11_taken_30 : decode cX11_taken 30 = .ok (.getfield 92, 3) := by decide +kernel
theorem dX11_taken_33 : decode cX11_taken 33 = .ok (.iload_n 1, 1) := by decide +kernel
theorem dX11_taken_34 : decode cX11_taken 34 = .ok (.invokevirtual 310, 3) := by decide +kernel
theorem dX11_taken_37 : decode cX11_taken 37 = .ok (.ifCond .eq 6, 3) := by decide +kernel
theorem dX11_taken_4 : decode cX11_taken 4 = .ok (.istore_n 3, 1) := by decide +kernel
theorem dX11_taken_40 : decode cX11_taken 40 = .ok (.bipush (-11), 2) := by decide +kernel
theorem dX11_taken_42 : decode cX11_taken 42 = .ok (.ireturn, 1) := by decide +kernel
theorem dX11_taken_5 : decode cX11_taken 5 = .ok (.iload_n 1, 1) := by decide +kernel
theorem dX11_taken_6 : decode cX11_taken 6 = .ok (.invokestatic 286, 3) := by decide +kernel
theorem dX11_taken_9 : decode cX11_taken 9 = .ok (.ifCond .eq 17, 3) := by decide +kernel
set_option maxRecDepth 20000 in
theorem ggX7_holdsThing_X11_isKind : GoodIn wsX7_holdsThing wsX11_isKind := goodIn_r _ [7] (by decide +kernel) (by decide +kernel)
set_option maxRecDepth 20000 in
theorem gX7_holdsThing_X11_isKind_n22 : GoodIn wsX7_holdsThing (wsX11_isKind) := ggX7_holdsThing_X11_isKind
set_option maxRecDepth 20000 in
theorem ggX7_holdsThing_X11_isShelf : GoodIn wsX7_holdsThing wsX11_isShelf := goodIn_r _ [5] (by decide +kernel) (by decide +kernel)
set_option maxRecDepth 20000 in
theorem gX7_holdsThing_X11_isShelf_n18 : GoodIn wsX7_holdsThing (wsX11_isShelf) := ggX7_holdsThing_X11_isShelf
theorem dX7_holdsThing_0 : decode cX7_holdsThing 0 = .ok (.iload_n 1, 1) := by decide +kernel
theorem dX7_holdsThing_1 : decode cX7_holdsThing 1 = .ok (.invokestatic 18, 3) := by decide +kernel
theorem dX7_holdsThing_11 : decode cX7_holdsThing 11 = .ok (.iload_n 1, 1) := by decide +kernel
theorem dX7_holdsThing_12 : decode cX7_holdsThing 12 = .ok (.iaload, 1) := by decide +kernel
theorem dX7_holdsThing_13 : decode cX7_holdsThing 13 = .ok (.goto 4, 3) := by decide +kernel
theorem dX7_holdsThing_17 : decode cX7_holdsThing 17 = .ok (.istore_n 3, 1) := by decide +kernel
theorem dX7_holdsThing_18 : decode cX7_holdsThing 18 = .ok (.iconst 0, 1) := by decide +kernel
theorem dX7_holdsThing_19 : decode cX7_holdsThing 19 = .ok (.istore 4, 2) := by decide +kernel
theorem dX7_holdsThing_21 : decode cX7_holdsThing 21 = .ok (.iload 4, 2) := by decide +kernel
theorem dX7_holdsThing_23 : decode cX7_holdsThing 23 = .ok (.iconst 3, 1) := by decide +kernel
theorem dX7_holdsThing_24 : decode cX7_holdsThing 24 = .ok (.if_icmp .ge 29, 3) := by decide +kernel
theorem dX7_holdsThing_27 : decode cX7_holdsThing 27 = .ok (.iload_n 3, 1) := by decide +kernel
theorem dX7_holdsThing_28 : decode cX7_holdsThing 28 = .ok (.invokestatic 22, 3) := by decide +kernel
theorem dX7_holdsThing_31 : decode cX7_holdsThing 31 = .ok (.ifCond .eq 22, 3) := by decide +kernel
theorem dX7_holdsThing_4 : decode cX7_holdsThing 4 = .ok (.ifCond .eq 12, 3) := by decide +kernel
theorem dX7_holdsThing_53 : decode cX7_holdsThing 53 = .ok (.iconst 0, 1) := by decide +kernel
theorem dX7_holdsThing_54 : decode cX7_holdsThing 54 = .ok (.ireturn, 1) := by decide +kernel
theorem dX7_holdsThing_7 : decode cX7_holdsThing 7 = .ok (.aload_n 0, 1) := by decide +kernel
theorem dX7_holdsThing_8 : decode cX7_holdsThing 8 = .ok (.getfield 11, 3) := by decide +kernel
set_option maxRecDepth 20000 in
theorem ggX7_fullestOf_X7_holdsThing : GoodIn wsX7_fullestOf wsX7_holdsThing := goodIn_r _ [6, 7, 8, 9, 10, 11, 12, 13, 21, 22] (by decide +kernel) (by decide +kernel)
set_option maxRecDepth 20000 in
theorem gX7_fullestOf_X7_holdsThing : GoodIn wsX7_fullestOf (wsV RX7 28 RX7 yX7_holdsThing wsX7_holdsThing) := goodIn_app (goodIn_of _ (by decide +kernel)) ggX7_fullestOf_X7_holdsThing
theorem dX7_fullestOf_0 : decode cX7_fullestOf 0 = .ok (.iconst (-1), 1) := by decide +kernel
theorem dX7_fullestOf_1 : decode cX7_fullestOf 1 = .ok (.istore_n 2, 1) := by decide +kernel
theorem dX7_fullestOf_10 : decode cX7_fullestOf 10 = .ok (.if_icmp .ge 47, 3) := by decide +kernel
theorem dX7_fullestOf_13 : decode cX7_fullestOf 13 = .ok (.aload_n 0, 1) := by decide +kernel
theorem dX7_fullestOf_14 : decode cX7_fullestOf 14 = .ok (.iload 4, 2) := by decide +kernel
theorem dX7_fullestOf_16 : decode cX7_fullestOf 16 = .ok (.iload_n 1, 1) := by decide +kernel
theorem dX7_fullestOf_17 : decode cX7_fullestOf 17 = .ok (.invokevirtual 28, 3) := by decide +kernel
theorem dX7_fullestOf_2 : decode cX7_fullestOf 2 = .ok (.iconst (-1), 1) := by decide +kernel
theorem dX7_fullestOf_20 : decode cX7_fullestOf 20 = .ok (.ifCond .eq 31, 3) := by decide +kernel
theorem dX7_fullestOf_3 : decode cX7_fullestOf 3 = .ok (.istore_n 3, 1) := by decide +kernel
theorem dX7_fullestOf_4 : decode cX7_fullestOf 4 = .ok (.iconst 0, 1) := by decide +kernel
theorem dX7_fullestOf_5 : decode cX7_fullestOf 5 = .ok (.istore 4, 2) := by decide +kernel
theorem dX7_fullestOf_51 : decode cX7_fullestOf 51 = .ok (.iinc 4 1, 3) := by decide +kernel
theorem dX7_fullestOf_54 : decode cX7_fullestOf 54 = .ok (.goto (-47), 3) := by decide +kernel
theorem dX7_fullestOf_57 : decode cX7_fullestOf 57 = .ok (.iload_n 2, 1) := by decide +kernel
theorem dX7_fullestOf_58 : decode cX7_fullestOf 58 = .ok (.ireturn, 1) := by decide +kernel
theorem dX7_fullestOf_7 : decode cX7_fullestOf 7 = .ok (.iload 4, 2) := by decide +kernel
theorem dX7_fullestOf_9 : decode cX7_fullestOf 9 = .ok (.iconst 4, 1) := by decide +kernel
set_option maxRecDepth 20000 in
theorem ggX7_pointsOf_X7_holdsThing : GoodIn wsX7_pointsOf wsX7_holdsThing := goodIn_r _ [6, 7, 8, 9, 10, 11, 12, 13, 14, 15] (by decide +kernel) (by decide +kernel)
set_option maxRecDepth 20000 in
theorem gX7_pointsOf_X7_holdsThing : GoodIn wsX7_pointsOf (wsV RX7 28 RX7 yX7_holdsThing wsX7_holdsThing) := goodIn_app (goodIn_of _ (by decide +kernel)) ggX7_pointsOf_X7_holdsThing
theorem dX7_pointsOf_0 : decode cX7_pointsOf 0 = .ok (.iconst 0, 1) := by decide +kernel
theorem dX7_pointsOf_1 : decode cX7_pointsOf 1 = .ok (.istore_n 2, 1) := by decide +kernel
theorem dX7_pointsOf_10 : decode cX7_pointsOf 10 = .ok (.iload_n 3, 1) := by decide +kernel
theorem dX7_pointsOf_11 : decode cX7_pointsOf 11 = .ok (.iload_n 1, 1) := by decide +kernel
theorem dX7_pointsOf_12 : decode cX7_pointsOf 12 = .ok (.invokevirtual 28, 3) := by decide +kernel
theorem dX7_pointsOf_15 : decode cX7_pointsOf 15 = .ok (.ifCond .eq 12, 3) := by decide +kernel
theorem dX7_pointsOf_2 : decode cX7_pointsOf 2 = .ok (.iconst 0, 1) := by decide +kernel
theorem dX7_pointsOf_27 : decode cX7_pointsOf 27 = .ok (.iinc 3 1, 3) := by decide +kernel
theorem dX7_pointsOf_3 : decode cX7_pointsOf 3 = .ok (.istore_n 3, 1) := by decide +kernel
theorem dX7_pointsOf_30 : decode cX7_pointsOf 30 = .ok (.goto (-26), 3) := by decide +kernel
theorem dX7_pointsOf_33 : decode cX7_pointsOf 33 = .ok (.iload_n 2, 1) := by decide +kernel
theorem dX7_pointsOf_34 : decode cX7_pointsOf 34 = .ok (.ireturn, 1) := by decide +kernel
theorem dX7_pointsOf_4 : decode cX7_pointsOf 4 = .ok (.iload_n 3, 1) := by decide +kernel
theorem dX7_pointsOf_5 : decode cX7_pointsOf 5 = .ok (.iconst 4, 1) := by decide +kernel
theorem dX7_pointsOf_6 : decode cX7_pointsOf 6 = .ok (.if_icmp .ge 27, 3) := by decide +kernel
theorem dX7_pointsOf_9 : decode cX7_pointsOf 9 = .ok (.aload_n 0, 1) := by decide +kernel
set_option maxRecDepth 20000 in
theorem ggX7_countOf_X7_holdsThing : GoodIn wsX7_countOf wsX7_holdsThing := goodIn_r _ [5, 6, 7, 8, 9, 10, 11, 12, 13, 14] (by decide +kernel) (by decide +kernel)
set_option maxRecDepth 20000 in
theorem gX7_countOf_X7_holdsThing : GoodIn wsX7_countOf (wsV RX7 28 RX7 yX7_holdsThing wsX7_holdsThing) := goodIn_app (goodIn_of _ (by decide +kernel)) ggX7_countOf_X7_holdsThing
theorem dX7_countOf_0 : decode cX7_countOf 0 = .ok (.iconst 0, 1) := by decide +kernel
theorem dX7_countOf_1 : decode cX7_countOf 1 = .ok (.istore_n 2, 1) := by decide +kernel
theorem dX7_countOf_10 : decode cX7_countOf 10 = .ok (.iload_n 3, 1) := by decide +kernel
theorem dX7_countOf_11 : decode cX7_countOf 11 = .ok (.iload_n 1, 1) := by decide +kernel
theorem dX7_countOf_12 : decode cX7_countOf 12 = .ok (.invokevirtual 28, 3) := by decide +kernel
theorem dX7_countOf_15 : decode cX7_countOf 15 = .ok (.ifCond .eq 6, 3) := by decide +kernel
theorem dX7_countOf_2 : decode cX7_countOf 2 = .ok (.iconst 0, 1) := by decide +kernel
theorem dX7_countOf_21 : decode cX7_countOf 21 = .ok (.iinc 3 1, 3) := by decide +kernel
theorem dX7_countOf_24 : decode cX7_countOf 24 = .ok (.goto (-20), 3) := by decide +kernel
theorem dX7_countOf_27 : decode cX7_countOf 27 = .ok (.iload_n 2, 1) := by decide +kernel
theorem dX7_countOf_28 : decode cX7_countOf 28 = .ok (.ireturn, 1) := by decide +kernel
theorem dX7_countOf_3 : decode cX7_countOf 3 = .ok (.istore_n 3, 1) := by decide +kernel
theorem dX7_countOf_4 : decode cX7_countOf 4 = .ok (.iload_n 3, 1) := by decide +kernel
theorem dX7_countOf_5 : decode cX7_countOf 5 = .ok (.iconst 4, 1) := by decide +kernel
theorem dX7_countOf_6 : decode cX7_countOf 6 = .ok (.if_icmp .ge 21, 3) := by decide +kernel
theorem dX7_countOf_9 : decode cX7_countOf 9 = .ok (.aload_n 0, 1) := by decide +kernel
set_option maxRecDepth 20000 in
theorem ggX11_held_X11_isKind : GoodIn wsX11_held wsX11_isKind := goodIn_r _ [5] (by decide +kernel) (by decide +kernel)
set_option maxRecDepth 20000 in
theorem gX11_held_X11_isKind : GoodIn wsX11_held (va_wsS RX11 307 yX11_isKind wsX11_isKind) := goodIn_app (goodIn_of _ (by decide +kernel)) ggX11_held_X11_isKind
set_option maxRecDepth 20000 in
theorem ggX11_held_X7_countOf : GoodIn wsX11_held wsX7_countOf := goodIn_r _ [10, 11, 12, 13, 9, 14, 15, 16, 17, 4, 18, 3, 5, 51, 52] (by decide +kernel) (by decide +kernel)
set_option maxRecDepth 20000 in
theorem gX11_held_X7_countOf : GoodIn wsX11_held (wsV RX11 322 RX7 yX7_countOf wsX7_countOf) := goodIn_app (goodIn_of _ (by decide +kernel)) ggX11_held_X7_countOf
set_option maxRecDepth 20000 in
theorem ggX11_held_X7_fullestOf : GoodIn wsX11_held wsX7_fullestOf := goodIn_r _ [27, 23, 11, 12, 13, 9, 14, 15, 16, 17, 4, 18, 3, 5, 28, 29, 30, 31, 32, 33, 34, 51, 52] (by decide +kernel) (by decide +kernel)
set_option maxRecDepth 20000 in
theorem gX11_held_X7_fullestOf : GoodIn wsX11_held (wsV RX11 328 RX7 yX7_fullestOf wsX7_fullestOf) := goodIn_app (goodIn_of _ (by decide +kernel)) ggX11_held_X7_fullestOf
set_option maxRecDepth 20000 in
theorem ggX11_held_X7_pointsOf : GoodIn wsX11_held wsX7_pointsOf := goodIn_r _ [22, 23, 11, 12, 13, 9, 14, 15, 16, 17, 4, 18, 3, 5, 51, 52] (by decide +kernel) (by decide +kernel)
set_option maxRecDepth 20000 in
theorem gX11_held_X7_pointsOf : GoodIn wsX11_held (wsV RX11 325 RX7 yX7_pointsOf wsX7_pointsOf) := goodIn_app (goodIn_of _ (by decide +kernel)) ggX11_held_X7_pointsOf
theorem dX11_held_0 : decode cX11_held 0 = .ok (.iload_n 1, 1) := by decide +kernel
theorem dX11_held_1 : decode cX11_held 1 = .ok (.invokestatic 307, 3) := by decide +kernel
theorem dX11_held_11 : decode cX11_held 11 = .ok (.iload_n 2, 1) := by decide +kernel
theorem dX11_held_12 : decode cX11_held 12 = .ok (.iconst 2, 1) := by decide +kernel
theorem dX11_held_13 : decode cX11_held 13 = .ok (.if_icmp .le 6, 3) := by decide +kernel
theorem dX11_held_16 : decode cX11_held 16 = .ok (.bipush (-2), 2) := by decide +kernel
theorem dX11_held_18 : decode cX11_held 18 = .ok (.ireturn, 1) := by decide +kernel
theorem dX11_held_19 : decode cX11_held 19 = .ok (.iload_n 2, 1) := by decide +kernel
theorem dX11_held_20 : decode cX11_held 20 = .ok (.ifCond .ne 12, 3) := by decide +kernel
theorem dX11_held_23 : decode cX11_held 23 = .ok (.aload_n 0, 1) := by decide +kernel
theorem dX11_held_24 : decode cX11_held 24 = .ok (.getfield 92, 3) := by decide +kernel
theorem dX11_held_27 : decode cX11_held 27 = .ok (.iload_n 1, 1) := by decide +kernel
theorem dX11_held_28 : decode cX11_held 28 = .ok (.invokevirtual 322, 3) := by decide +kernel
theorem dX11_held_31 : decode cX11_held 31 = .ok (.ireturn, 1) := by decide +kernel
theorem dX11_held_32 : decode cX11_held 32 = .ok (.iload_n 2, 1) := by decide +kernel
theorem dX11_held_33 : decode cX11_held 33 = .ok (.iconst 1, 1) := by decide +kernel
theorem dX11_held_34 : decode cX11_held 34 = .ok (.if_icmp .ne 14, 3) := by decide +kernel
theorem dX11_held_37 : decode cX11_held 37 = .ok (.aload_n 0, 1) := by decide +kernel
theorem dX11_held_38 : decode cX11_held 38 = .ok (.getfield 92, 3) := by decide +kernel
theorem dX11_held_4 : decode cX11_held 4 = .ok (.ifCond .eq 12, 3) := by decide +kernel
theorem dX11_held_41 : decode cX11_held 41 = .ok (.iload_n 1, 1) := by decide +kernel
theorem dX11_held_42 : decode cX11_held 42 = .ok (.invokevirtual 325, 3) := by decide +kernel
theorem dX11_held_45 : decode cX11_held 45 = .ok (.goto 11, 3) := by decide +kernel
theorem dX11_held_48 : decode cX11_held 48 = .ok (.aload_n 0, 1) := by decide +kernel
theorem dX11_held_49 : decode cX11_held 49 = .ok (.getfield 92, 3) := by decide +kernel
theorem dX11_held_52 : decode cX11_held 52 = .ok (.iload_n 1, 1) := by decide +kernel
theorem dX11_held_53 : decode cX11_held 53 = .ok (.invokevirtual 328, 3) := by decide +kernel
theorem dX11_held_56 : decode cX11_held 56 = .ok (.ireturn, 1) := by decide +kernel
theorem dX11_held_7 : decode cX11_held 7 = .ok (.iload_n 2, 1) := by decide +kernel
theorem dX11_held_8 : decode cX11_held 8 = .ok (.ifCond .lt 8, 3) := by decide +kernel
set_option maxHeartbeats 4000000 in
set_option maxRecDepth 100000 in
theorem c_X11_text_0 (l : Launch) (D : va_G) (cI cS : ClassId) (sz : Nat) (h0 h1 h2 h3 h4 h5 h6 h7 h8 h9 h10 h11 h12 h13 h14 h23 h24 : Nat) : Met l yX11_text wsX11_text ({ frames := 3, cells := 0, slots := 0, locals := 120 }) (PQ D cI cS [(h0, .inr (11, [.ref h1, .ref h2, .ref h3, .ref h4, .ref h5, .ref h6, .ref h7, .int 0, .int 0, .ref h8, .ref h9, .ref h10, .ref h11, .ref h12, .ref h13, .ref h14])), (h9, .inr (8, [.ref h23, .int 0])), (h10, .inr (5, [.ref h9, .ref h1, .ref h24, .int 0, .int 0, .int 0, .int 0, .int 0])), (h24, .inl (cI, 12, .inl (fun _ => 0)))] sz [.ref h0]) (QI D [(h0, .inr (11, [.ref h1, .ref h2, .ref h3, .ref h4, .ref h5, .ref h6, .ref h7, .int 0, .int 0, .ref h8, .ref h9, .ref h10, .ref h11, .ref h12, .ref h13, .ref h14])), (h9, .inr (8, [.ref h23, .int 0])), (h10, .inr (5, [.ref h9, .ref h1, .ref h24, .int 0, .int 0, .int 0, .int 0, .int 0])), (h24, .inl (cI, 12, .inl (fun _ => 0)))] [] sz (fun r => r = ((-100) : Int32))) 0 0 (va_A [(h0, .inr (11, [.ref h1, .ref h2, .ref h3, .ref h4, .ref h5, .ref h6, .ref h7, .int 0, .int 0, .ref h8, .ref h9, .ref h10, .ref h11, .ref h12, .ref h13, .ref h14])), (h9, .inr (8, [.ref h23, .int 0])), (h10, .inr (5, [.ref h9, .ref h1, .ref h24, .int 0, .int 0, .int 0, .int 0, .int 0])), (h24, .inl (cI, 12, .inl (fun _ => 0)))] sz) := by
  refine Met.ofW (cc := cX11_text) (maxL := 2) (ret := (some .int)) (by decide) rfl ?_
  intro p e s m args below meth c s₁ B hml hv
  obtain ⟨rfl, hsz, hP, hKK, hD0⟩ := hv
  have hx := B.exec
  have hb := B.bytes
  have hr := B.returns
  have hts := atoms_spec (ws := wsX11_text) B.pre
  have hown : s.vm.findClass RX11 = some m.cls := findClass_of_methodNamed B.named
  have hlocks := B.notSynchronized
  have hK := hKK.1
  have hN := hKK.2
  have hin11 : ∀ w ∈ wsX110, w ∈ wsX11_text := by decide +kernel
  subst hsz
  have hD := hD0.self (sz := s.heap.size)
  obtain ⟨A, hAe⟩ : ∃ A, A = va_A [(h0, .inr (11, [.ref h1, .ref h2, .ref h3, .ref h4, .ref h5, .ref h6, .ref h7, .int 0, .int 0, .ref h8, .ref h9, .ref h10, .ref h11, .ref h12, .ref h13, .ref h14])), (h9, .inr (8, [.ref h23, .int 0])), (h10, .inr (5, [.ref h9, .ref h1, .ref h24, .int 0, .int 0, .int 0, .int 0, .int 0])), (h24, .inl (cI, 12, .inl (fun _ => 0)))] s.heap.size := ⟨_, rfl⟩
  rw [← hAe] at hD
  have hA : ∀ q : Nat, s.heap.size ≤ q → A q := fun q h => by rw [hAe]; exact Or.inr h
  have hS : va_S A s.heap s.heap [] := va_S.rf
  have hl := lv_entry ([.ref h0]) (n := 2) (Nat.le_of_ble_eq_true rfl)
  rw [lg_entry_eq]
  generalize (lg_sl ([.ref h0]) ++ List.replicate (2 - (lg_sl ([.ref h0])).length) Slot.unset).toArray = ls at hl ⊢
  have hl : lv_has ls 2 [(0, .ref h0)] := hl
  refine lv_aload_n hx hb dX11_text_0 rfl (lv_at hl 0 rfl) ?_
  refine va_get (D := D) (ci := 11) (v := .ref h10) (C := RX11) (T := TX11) (N := 16) hx hb hts hin11 hown hK hP 0 rfl rfl 11 (by decide) (hts (.fieldLink RX11 69 "MissedPoints" "reader" "LMissedPoints$Reader;") (by decide +kernel)) (fun _ h9 => h9) rfl dX11_text_1 ?_
  have hPc := hP.sub (ws' := [(h10, .inr (5, [.ref h9, .ref h1, .ref h24, .int 0, .int 0, .int 0, .int 0, .int 0])), (h9, .inr (8, [.ref h23, .int 0])), (h24, .inl (cI, 12, .inl (fun _ => 0)))]) [2, 1, 3] rfl
  have hDc := hD.sub (ws' := [(h10, .inr (5, [.ref h9, .ref h1, .ref h24, .int 0, .int 0, .int 0, .int 0, .int 0])), (h9, .inr (8, [.ref h23, .int 0])), (h24, .inl (cI, 12, .inl (fun _ => 0)))]) [2, 1, 3] (by decide) rfl
  refine lz_qi (wr := [(h0, .inr (11, [.ref h1, .ref h2, .ref h3, .ref h4, .ref h5, .ref h6, .ref h7, .int 0, .int 0, .ref h8, .ref h9, .ref h10, .ref h11, .ref h12, .ref h13, .ref h14]))]) (w1 := [(h24, .inl (cI, 12, .inl (fun _ => 0))), (h9, .inr (8, [.ref h23, .int 0])), (h10, .inr (5, [.ref h9, .ref h1, .ref h24, .int 0, .int 0, .int (-1), .int 0, .int 0]))]) (As := []) (rest := []) ⟨hx, hb, hml, hown, hts⟩ (c_X5_readAll_0 l D cI cS _ h10 h9 h1 h24 h23) hKK hP hD hS hA [2, 1, 3] [0] (by decide) rfl rfl (by decide) (by decide) hPc hDc (ci := 5) rfl rfl (cwV 0 hts gX11_text_X5_readAll rfl rfl rfl (by decide +kernel) ⟨Nat.le_of_ble_eq_true rfl, Nat.le_of_ble_eq_true rfl⟩) rfl hl.1 rfl (Nat.le_of_ble_eq_true rfl) dX11_text_4 ⟨Nat.le_of_ble_eq_true rfl, Nat.le_of_ble_eq_true rfl⟩ (fun r3700 H locs hw hP hD hS => ?_)
  have hP : va_P D cls [(h0, .inr (11, [.ref h1, .ref h2, .ref h3, .ref h4, .ref h5, .ref h6, .ref h7, .int 0, .int 0, .ref h8, .ref h9, .ref h10, .ref h11, .ref h12, .ref h13, .ref h14])), (h24, .inl (cI, 12, .inl (fun _ => 0))), (h9, .inr (8, [.ref h23, .int 0])), (h10, .inr (5, [.ref h9, .ref h1, .ref h24, .int 0, .int 0, .int (-1), .int 0, .int 0]))] H := hP
  have hD : va_D A [(h0, .inr (11, [.ref h1, .ref h2, .ref h3, .ref h4, .ref h5, .ref h6, .ref h7, .int 0, .int 0, .ref h8, .ref h9, .ref h10, .ref h11, .ref h12, .ref h13, .ref h14])), (h24, .inl (cI, 12, .inl (fun _ => 0))), (h9, .inr (8, [.ref h23, .int 0])), (h10, .inr (5, [.ref h9, .ref h1, .ref h24, .int 0, .int 0, .int (-1), .int 0, .int 0]))] := hD
  subst hw
  refine lv_istore_n (lv' := [(1, .int 0), (0, .ref h0)]) hx hb dX11_text_7 rfl hl (by decide) rfl (fun ls hl => ?_)
  refine lv_aload_n hx hb dX11_text_8 rfl (lv_at hl 1 rfl) ?_
  refine va_get (D := D) (ci := 11) (v := .ref h9) (C := RX11) (T := TX11) (N := 16) hx hb hts hin11 hown hK hP 0 rfl rfl 10 (by decide) (hts (.fieldLink RX11 60 "MissedPoints" "tape" "LMissedPoints$Tape;") (by decide +kernel)) (fun _ h9 => h9) rfl dX11_text_9 ?_
  have hPc := hP.sub (ws' := [(h9, .inr (8, [.ref h23, .int 0]))]) [2] rfl
  have hDc := hD.sub (ws' := [(h9, .inr (8, [.ref h23, .int 0]))]) [2] (by decide) rfl
  refine lz_qi (wr := [(h0, .inr (11, [.ref h1, .ref h2, .ref h3, .ref h4, .ref h5, .ref h6, .ref h7, .int 0, .int 0, .ref h8, .ref h9, .ref h10, .ref h11, .ref h12, .ref h13, .ref h14])), (h24, .inl (cI, 12, .inl (fun _ => 0))), (h10, .inr (5, [.ref h9, .ref h1, .ref h24, .int 0, .int 0, .int (-1), .int 0, .int 0]))]) (w1 := [(h9, .inr (8, [.ref h23, .int 0]))]) (As := []) (rest := []) ⟨hx, hb, hml, hown, hts⟩ (c_X8_clear_0 l D cI cS _ h9 h23) hKK hP hD hS hA [2] [0, 1, 3] (by decide) rfl rfl (by decide) (by decide) hPc hDc (ci := 8) rfl rfl (cwV 0 hts gX11_text_X8_clear rfl rfl rfl (by decide +kernel) ⟨Nat.le_of_ble_eq_true rfl, Nat.le_of_ble_eq_true rfl⟩) rfl hl.1 rfl (Nat.le_of_ble_eq_true rfl) dX11_text_12 ⟨Nat.le_of_ble_eq_true rfl, Nat.le_of_ble_eq_true rfl⟩ (fun r3701 H locs hw hP hD hS => ?_)
  have hP : va_P D cls [(h0, .inr (11, [.ref h1, .ref h2, .ref h3, .ref h4, .ref h5, .ref h6, .ref h7, .int 0, .int 0, .ref h8, .ref h9, .ref h10, .ref h11, .ref h12, .ref h13, .ref h14])), (h24, .inl (cI, 12, .inl (fun _ => 0))), (h10, .inr (5, [.ref h9, .ref h1, .ref h24, .int 0, .int 0, .int (-1), .int 0, .int 0])), (h9, .inr (8, [.ref h23, .int 0]))] H := hP
  have hD : va_D A [(h0, .inr (11, [.ref h1, .ref h2, .ref h3, .ref h4, .ref h5, .ref h6, .ref h7, .int 0, .int 0, .ref h8, .ref h9, .ref h10, .ref h11, .ref h12, .ref h13, .ref h14])), (h24, .inl (cI, 12, .inl (fun _ => 0))), (h10, .inr (5, [.ref h9, .ref h1, .ref h24, .int 0, .int 0, .int (-1), .int 0, .int 0])), (h9, .inr (8, [.ref h23, .int 0]))] := hD
  subst hw
  refine lv_pop hx hb dX11_text_15 rfl ?_
  refine lv_iload_n hx hb dX11_text_16 rfl (lv_at hl 0 rfl) ?_
  refine lv_if_lt (tgt := 27) hx hb dX11_text_17 (by decide) (fun c3702 => ?_) (fun c3702 => ?_)
  · exact absurd c3702 (by decide)
  · refine lv_bipush (v := (-100)) hx hb dX11_text_20 (by decide) ?_
    refine lv_iload_n hx hb dX11_text_22 rfl (lv_at hl 0 rfl) ?_
    refine lv_isub hx hb dX11_text_23 ?_
    refine lz_top (y := (-100)) (by decide) ?_
    refine lv_goto (tgt := 41) hx hb dX11_text_24 (by decide) ?_
    have hP9 := hP.sub (ws' := []) [] rfl
    have hD9 := hD.sub (ws' := []) [] (by decide) rfl
    subst hAe
    exact W.iret (v := (-100)) hx hb hr (fun t ht hW => ⟨⟨_, (), rfl, rfl, by rw [ht]; exact hP9, hD9⟩, hS.F ht⟩) hS.2.2 dX11_text_41
set_option maxHeartbeats 4000000 in
set_option maxRecDepth 100000 in
theorem c_X11_seed_0 (l : Launch) (D : va_G) (cI cS : ClassId) (sz : Nat) (h0 h1 h2 h3 h4 h5 h6 h7 h8 h9 h10 h11 h12 h13 h14 : Nat) (x0 : Int32) : Met l yX11_seed wsX11_seed ({ frames := 0, cells := 0, slots := 0, locals := 0 }) (PQ D cI cS [(h0, .inr (11, [.ref h1, .ref h2, .ref h3, .ref h4, .ref h5, .ref h6, .ref h7, .int 0, .int 0, .ref h8, .ref h9, .ref h10, .ref h11, .ref h12, .ref h13, .ref h14])), (h8, .inr (0, [.int 1]))] sz [.ref h0, .int x0]) (QI D [(h0, .inr (11, [.ref h1, .ref h2, .ref h3, .ref h4, .ref h5, .ref h6, .ref h7, .int 0, .int 0, .ref h8, .ref h9, .ref h10, .ref h11, .ref h12, .ref h13, .ref h14])), (h8, .inr (0, [.int 1]))] [] sz (fun r => r = (1 : Int32))) 0 0 (va_A [(h0, .inr (11, [.ref h1, .ref h2, .ref h3, .ref h4, .ref h5, .ref h6, .ref h7, .int 0, .int 0, .ref h8, .ref h9, .ref h10, .ref h11, .ref h12, .ref h13, .ref h14])), (h8, .inr (0, [.int 1]))] sz) := by
  refine Met.ofW (cc := cX11_seed) (maxL := 3) (ret := (some .int)) (by decide) rfl ?_
  intro p e s m args below meth c s₁ B hml hv
  obtain ⟨rfl, hsz, hP, hKK, hD0⟩ := hv
  have hx := B.exec
  have hb := B.bytes
  have hr := B.returns
  have hts := atoms_spec (ws := wsX11_seed) B.pre
  have hown : s.vm.findClass RX11 = some m.cls := findClass_of_methodNamed B.named
  have hlocks := B.notSynchronized
  have hK := hKK.1
  have hN := hKK.2
  have hin0 : ∀ w ∈ wsX00, w ∈ wsX11_seed := by decide +kernel
  have hin11 : ∀ w ∈ wsX110, w ∈ wsX11_seed := by decide +kernel
  subst hsz
  have hD := hD0.self (sz := s.heap.size)
  obtain ⟨A, hAe⟩ : ∃ A, A = va_A [(h0, .inr (11, [.ref h1, .ref h2, .ref h3, .ref h4, .ref h5, .ref h6, .ref h7, .int 0, .int 0, .ref h8, .ref h9, .ref h10, .ref h11, .ref h12, .ref h13, .ref h14])), (h8, .inr (0, [.int 1]))] s.heap.size := ⟨_, rfl⟩
  rw [← hAe] at hD
  have hA : ∀ q : Nat, s.heap.size ≤ q → A q := fun q h => by rw [hAe]; exact Or.inr h
  have hS : va_S A s.heap s.heap [] := va_S.rf
  have hl := lv_entry ([.ref h0, .int x0]) (n := 3) (Nat.le_of_ble_eq_true rfl)
  rw [lg_entry_eq]
  generalize (lg_sl ([.ref h0, .int x0]) ++ List.replicate (3 - (lg_sl ([.ref h0, .int x0])).length) Slot.unset).toArray = ls at hl ⊢
  have hl : lv_has ls 3 [(0, .ref h0), (1, .int x0)] := hl
  refine lv_aload_n hx hb dX11_seed_0 rfl (lv_at hl 0 rfl) ?_
  refine va_get (D := D) (ci := 11) (v := .ref h8) (C := RX11) (T := TX11) (N := 16) hx hb hts hin11 hown hK hP 0 rfl rfl 9 (by decide) (hts (.fieldLink RX11 53 "MissedPoints" "draws" "LMissedPoints$Draws;") (by decide +kernel)) (fun _ h9 => h9) rfl dX11_seed_1 ?_
  refine va_getN (D := D) (ci := 0) (v := .int 1) (C := RX0) (T := TX0) (N := 1) hx hb hts hin0 hown hK hP 1 rfl rfl 0 (by decide) (va_Nw.use rfl hN.2.1) (fun _ h9 => h9) rfl dX11_seed_4 ?_
  refine lv_istore_n (lv' := [(2, .int 1), (0, .ref h0), (1, .int x0)]) hx hb dX11_seed_7 rfl hl (by decide) rfl (fun ls hl => ?_)
  refine lv_aload_n hx hb dX11_seed_8 rfl (lv_at hl 1 rfl) ?_
  refine va_get (D := D) (ci := 11) (v := .ref h8) (C := RX11) (T := TX11) (N := 16) hx hb hts hin11 hown hK hP 0 rfl rfl 9 (by decide) (hts (.fieldLink RX11 53 "MissedPoints" "draws" "LMissedPoints$Draws;") (by decide +kernel)) (fun _ h9 => h9) rfl dX11_seed_9 ?_
  refine lv_iload_n hx hb dX11_seed_12 rfl (lv_at hl 2 rfl) ?_
  refine va_putN (D := D) (ci := 0) (v := .int x0) (ty := .int) (C := RX0) (T := TX0) (N := 1) hx hb hts hin0 tyX0 tyX0_ok nmX0 hown hK hP hD hS 1 rfl rfl 0 (by decide) (va_Nw.use rfl hN.2.1) (fun _ h9 => h9) rfl (by decide +kernel) rfl rfl (Nat.le_of_ble_eq_true rfl) dX11_seed_13 (fun H locs hP hD hS => ?_)
  have hP : va_P D cls [(h0, .inr (11, [.ref h1, .ref h2, .ref h3, .ref h4, .ref h5, .ref h6, .ref h7, .int 0, .int 0, .ref h8, .ref h9, .ref h10, .ref h11, .ref h12, .ref h13, .ref h14])), (h8, .inr (0, [.int x0]))] H := hP
  have hD : va_D A [(h0, .inr (11, [.ref h1, .ref h2, .ref h3, .ref h4, .ref h5, .ref h6, .ref h7, .int 0, .int 0, .ref h8, .ref h9, .ref h10, .ref h11, .ref h12, .ref h13, .ref h14])), (h8, .inr (0, [.int x0]))] := hD
  refine lv_iload_n hx hb dX11_seed_16 rfl (lv_at hl 0 rfl) ?_
  have hP9 := hP.sub (ws' := []) [] rfl
  have hD9 := hD.sub (ws' := []) [] (by decide) rfl
  subst hAe
  exact W.iret (v := 1) hx hb hr (fun t ht hW => ⟨⟨_, (), rfl, rfl, by rw [ht]; exact hP9, hD9⟩, hS.F ht⟩) hS.2.2 dX11_seed_17
set_option maxHeartbeats 4000000 in
set_option maxRecDepth 100000 in
theorem c_X11_isShelf_0 (l : Launch) (D : va_G) (cI cS : ClassId) (x0 : Int32) : Met l yX11_isShelf wsX11_isShelf ({ frames := 0, cells := 0, slots := 0, locals := 0 }) (PS D cI cS [] [.int x0]) (vp_Si (fun r => r = if x0 < 0 then (0 : Int32) else (if (4 : Int32) ≤ x0 then (0 : Int32) else (1 : Int32)))) 0 0 (fun _ => False) := by
  refine Met.ofW (cc := cX11_isShelf) (maxL := 1) (ret := (some .boolean)) (by decide) rfl ?_
  intro p e s m args below meth c s₁ B hml hv
  obtain ⟨rfl, hP, hKK⟩ := hv
  have hx := B.exec
  have hb := B.bytes
  have hr := B.returns
  have hts := atoms_spec (ws := wsX11_isShelf) B.pre
  have hown : s.vm.findClass RX11 = some m.cls := findClass_of_methodNamed B.named
  have hlocks := B.notSynchronized
  have hK := hKK.1
  have hN := hKK.2
  have hl := lv_entry ([.int x0]) (n := 1) (Nat.le_of_ble_eq_true rfl)
  rw [lg_entry_eq]
  generalize (lg_sl ([.int x0]) ++ List.replicate (1 - (lg_sl ([.int x0])).length) Slot.unset).toArray = ls at hl ⊢
  have hl : lv_has ls 1 [(0, .int x0)] := hl
  refine lv_iload_n hx hb dX11_isShelf_0 rfl (lv_at hl 0 rfl) ?_
  refine lv_if_lt (tgt := 13) hx hb dX11_isShelf_1 (by decide) (fun c3705 => ?_) (fun c3705 => ?_)
  · refine lv_iconst (v := 0) hx hb dX11_isShelf_13 (by decide) ?_
    exact W.zret (v := 0) hx hb hr (by decide) (fun t ht hW => ⟨_, rfl, by rw [if_pos c3705], ht⟩) (fun q hq => absurd hq List.not_mem_nil) dX11_isShelf_14
  · refine lv_iload_n hx hb dX11_isShelf_4 rfl (lv_at hl 0 rfl) ?_
    refine lv_iconst (v := 4) hx hb dX11_isShelf_5 (by decide) ?_
    refine lv_icmp_ge (tgt := 13) hx hb dX11_isShelf_6 (by decide) (fun c3706 => ?_) (fun c3706 => ?_)
    · refine lv_iconst (v := 0) hx hb dX11_isShelf_13 (by decide) ?_
      exact W.zret (v := 0) hx hb hr (by decide) (fun t ht hW => ⟨_, rfl, by rw [if_neg c3705, if_pos c3706], ht⟩) (fun q hq => absurd hq List.not_mem_nil) dX11_isShelf_14
    · refine lv_iconst (v := 1) hx hb dX11_isShelf_9 (by decide) ?_
      refine lv_goto (tgt := 14) hx hb dX11_isShelf_10 (by decide) ?_
      exact W.zret (v := 1) hx hb hr (by decide) (fun t ht hW => ⟨_, rfl, by rw [if_neg c3705, if_neg c3706], ht⟩) (fun q hq => absurd hq List.not_mem_nil) dX11_isShelf_14
set_option maxHeartbeats 4000000 in
set_option maxRecDepth 100000 in
theorem c_X11_shelvePoint_0 (l : Launch) (D : va_G) (cI cS : ClassId) (h0 h1 h2 h3 h4 h5 h6 h7 h8 h9 h10 h11 h12 h13 h14 h15 : Nat) (x0 x1 : Int32) : Met l yX11_shelvePoint wsX11_shelvePoint ({ frames := 1, cells := 0, slots := 0, locals := 40 }) (PS D cI cS [(h0, .inr (11, [.ref h1, .ref h2, .ref h3, .ref h4, .ref h5, .ref h6, .ref h7, .int 0, .int 0, .ref h8, .ref h9, .ref h10, .ref h11, .ref h12, .ref h13, .ref h14])), (h1, .inr (2, [.ref h15, .int 0, .int 0]))] [.ref h0, .int x0, .int x1]) (vp_Si (fun r => r = ((-2) : Int32))) 0 0 (fun _ => False) := by
  refine Met.ofW (cc := cX11_shelvePoint) (maxL := 3) (ret := (some .int)) (by decide) rfl ?_
  intro p e s m args below meth c s₁ B hml hv
  obtain ⟨rfl, hP, hKK⟩ := hv
  have hx := B.exec
  have hb := B.bytes
  have hr := B.returns
  have hts := atoms_spec (ws := wsX11_shelvePoint) B.pre
  have hown : s.vm.findClass RX11 = some m.cls := findClass_of_methodNamed B.named
  have hlocks := B.notSynchronized
  have hK := hKK.1
  have hN := hKK.2
  have hin11 : ∀ w ∈ wsX110, w ∈ wsX11_shelvePoint := by decide +kernel
  have hl := lv_entry ([.ref h0, .int x0, .int x1]) (n := 3) (Nat.le_of_ble_eq_true rfl)
  rw [lg_entry_eq]
  generalize (lg_sl ([.ref h0, .int x0, .int x1]) ++ List.replicate (3 - (lg_sl ([.ref h0, .int x0, .int x1])).length) Slot.unset).toArray = ls at hl ⊢
  have hl : lv_has ls 3 [(0, .ref h0), (1, .int x0), (2, .int x1)] := hl
  refine lv_aload_n hx hb dX11_shelvePoint_0 rfl (lv_at hl 0 rfl) ?_
  refine va_get (D := D) (ci := 11) (v := .ref h1) (C := RX11) (T := TX11) (N := 16) hx hb hts hin11 hown hK hP 0 rfl rfl 0 (by decide) (hts (.fieldLink RX11 12 "MissedPoints" "net" "LMissedPoints$Net;") (by decide +kernel)) (fun _ h9 => h9) rfl dX11_shelvePoint_1 ?_
  refine lv_iload_n hx hb dX11_shelvePoint_4 rfl (lv_at hl 2 rfl) ?_
  have hPc := hP.sub (ws' := [(h1, .inr (2, [.ref h15, .int 0, .int 0]))]) [1] rfl
  refine lz_sv (As := [.int x1]) (rest := []) ⟨hx, hb, hml, hown, hts⟩ (c_X2_hasPoint_0 l D cI cS h1 h15 x1) hKK hPc (ci := 2) rfl rfl (cwV 1 hts gX11_shelvePoint_X2_hasPoint rfl rfl rfl (by decide +kernel) ⟨Nat.le_of_ble_eq_true rfl, Nat.le_of_ble_eq_true rfl⟩) rfl hl.1 rfl (Nat.le_of_ble_eq_true rfl) dX11_shelvePoint_5 ⟨Nat.le_of_ble_eq_true rfl, Nat.le_of_ble_eq_true rfl⟩ (fun r3716 hw => ?_)
  subst hw
  refine lv_if_ne (tgt := 14) hx hb dX11_shelvePoint_8 (by decide) (fun c3717 => ?_) (fun c3717 => ?_)
  · exact absurd c3717 (by decide)
  · refine lv_bipush (v := (-2)) hx hb dX11_shelvePoint_11 (by decide) ?_
    exact W.iret (v := (-2)) hx hb hr (fun t ht hW => ⟨_, rfl, rfl, ht⟩) (fun q hq => absurd hq List.not_mem_nil) dX11_shelvePoint_13
set_option maxHeartbeats 4000000 in
set_option maxRecDepth 100000 in
theorem c_X11_shelvePiece_0 (l : Launch) (D : va_G) (cI cS : ClassId) (h0 h1 h2 h3 h4 h5 h6 h7 h8 h9 h10 h11 h12 h13 h14 h15 h16 h17 : Nat) (x0 x1 : Int32) : Met l yX11_shelvePiece wsX11_shelvePiece ({ frames := 5, cells := 0, slots := 0, locals := 200 }) (PS D cI cS [(h0, .inr (11, [.ref h1, .ref h2, .ref h3, .ref h4, .ref h5, .ref h6, .ref h7, .int 0, .int 0, .ref h8, .ref h9, .ref h10, .ref h11, .ref h12, .ref h13, .ref h14])), (h1, .inr (2, [.ref h15, .int 0, .int 0])), (h2, .inr (3, [.ref h1, .ref h16, .ref h17, .int 0])), (h3, .inr (4, [.ref h1, .ref h2]))] [.ref h0, .int x0, .int 4, .int 0, .int x1]) (vp_Si (fun r => r = ((-2) : Int32))) 0 0 (fun _ => False) := by
  refine Met.ofW (cc := cX11_shelvePiece) (maxL := 6) (ret := (some .int)) (by decide) rfl ?_
  intro p e s m args below meth c s₁ B hml hv
  obtain ⟨rfl, hP, hKK⟩ := hv
  have hx := B.exec
  have hb := B.bytes
  have hr := B.returns
  have hts := atoms_spec (ws := wsX11_shelvePiece) B.pre
  have hown : s.vm.findClass RX11 = some m.cls := findClass_of_methodNamed B.named
  have hlocks := B.notSynchronized
  have hK := hKK.1
  have hN := hKK.2
  have hin11 : ∀ w ∈ wsX110, w ∈ wsX11_shelvePiece := by decide +kernel
  have hl := lv_entry ([.ref h0, .int x0, .int 4, .int 0, .int x1]) (n := 6) (Nat.le_of_ble_eq_true rfl)
  rw [lg_entry_eq]
  generalize (lg_sl ([.ref h0, .int x0, .int 4, .int 0, .int x1]) ++ List.replicate (6 - (lg_sl ([.ref h0, .int x0, .int 4, .int 0, .int x1])).length) Slot.unset).toArray = ls at hl ⊢
  have hl : lv_has ls 6 [(0, .ref h0), (1, .int x0), (2, .int 4), (3, .int 0), (4, .int x1)] := hl
  refine lv_aload_n hx hb dX11_shelvePiece_0 rfl (lv_at hl 0 rfl) ?_
  refine va_get (D := D) (ci := 11) (v := .ref h1) (C := RX11) (T := TX11) (N := 16) hx hb hts hin11 hown hK hP 0 rfl rfl 0 (by decide) (hts (.fieldLink RX11 12 "MissedPoints" "net" "LMissedPoints$Net;") (by decide +kernel)) (fun _ h9 => h9) rfl dX11_shelvePiece_1 ?_
  refine lv_aload_n hx hb dX11_shelvePiece_4 rfl (lv_at hl 0 rfl) ?_
  refine va_get (D := D) (ci := 11) (v := .ref h3) (C := RX11) (T := TX11) (N := 16) hx hb hts hin11 hown hK hP 0 rfl rfl 2 (by decide) (hts (.fieldLink RX11 30 "MissedPoints" "parting" "LMissedPoints$Parting;") (by decide +kernel)) (fun _ h9 => h9) rfl dX11_shelvePiece_5 ?_
  refine lv_iload_n hx hb dX11_shelvePiece_8 rfl (lv_at hl 3 rfl) ?_
  have hPc := hP.sub (ws' := [(h3, .inr (4, [.ref h1, .ref h2])), (h1, .inr (2, [.ref h15, .int 0, .int 0])), (h2, .inr (3, [.ref h1, .ref h16, .ref h17, .int 0]))]) [3, 1, 2] rfl
  refine lz_sv (As := [.int 0]) (rest := [.ref h1]) ⟨hx, hb, hml, hown, hts⟩ (c_X4_allOf_1 l D cI cS h3 h1 h2 h15 h16 h17) hKK hPc (ci := 4) rfl rfl (cwV 1 hts gX11_shelvePiece_X4_allOf rfl rfl rfl (by decide +kernel) ⟨Nat.le_of_ble_eq_true rfl, Nat.le_of_ble_eq_true rfl⟩) rfl hl.1 rfl (Nat.le_of_ble_eq_true rfl) dX11_shelvePiece_9 ⟨Nat.le_of_ble_eq_true rfl, Nat.le_of_ble_eq_true rfl⟩ (fun r3723 hw => ?_)
  subst hw
  refine lv_iload hx hb dX11_shelvePiece_12 (lv_at hl 4 rfl) ?_
  have hPc := hP.sub (ws' := [(h1, .inr (2, [.ref h15, .int 0, .int 0]))]) [1] rfl
  refine lz_sv (As := [.int 0, .int x1]) (rest := []) ⟨hx, hb, hml, hown, hts⟩ (c_X2_pieceAt_0 l D cI cS h1 h15 x1) hKK hPc (ci := 2) rfl rfl (cwV 2 hts gX11_shelvePiece_X2_pieceAt rfl rfl rfl (by decide +kernel) ⟨Nat.le_of_ble_eq_true rfl, Nat.le_of_ble_eq_true rfl⟩) rfl hl.1 rfl (Nat.le_of_ble_eq_true rfl) dX11_shelvePiece_14 ⟨Nat.le_of_ble_eq_true rfl, Nat.le_of_ble_eq_true rfl⟩ (fun r3724 hw => ?_)
  subst hw
  refine lv_istore (lv' := [(5, .int 0), (0, .ref h0), (1, .int x0), (2, .int 4), (3, .int 0), (4, .int x1)]) hx hb dX11_shelvePiece_17 hl (by decide) rfl (fun ls hl => ?_)
  refine lv_iload hx hb dX11_shelvePiece_19 (lv_at hl 0 rfl) ?_
  refine lv_if_ne (tgt := 29) hx hb dX11_shelvePiece_21 (by decide) (fun c3725 => ?_) (fun c3725 => ?_)
  · exact absurd c3725 (by decide)
  · refine lv_bipush (v := (-2)) hx hb dX11_shelvePiece_24 (by decide) ?_
    refine lv_goto (tgt := 40) hx hb dX11_shelvePiece_26 (by decide) ?_
    exact W.iret (v := (-2)) hx hb hr (fun t ht hW => ⟨_, rfl, rfl, ht⟩) (fun q hq => absurd hq List.not_mem_nil) dX11_shelvePiece_40
set_option maxHeartbeats 4000000 in
set_option maxRecDepth 100000 in
theorem c_X11_shelvePiece_1 (l : Launch) (D : va_G) (cI cS : ClassId) (h0 h1 h2 h3 h4 h5 h6 h7 h8 h9 h10 h11 h12 h13 h14 h15 h16 h17 : Nat) (x0 x1 : Int32) : Met l yX11_shelvePiece wsX11_shelvePiece ({ frames := 5, cells := 0, slots := 0, locals := 200 }) (PS D cI cS [(h0, .inr (11, [.ref h1, .ref h2, .ref h3, .ref h4, .ref h5, .ref h6, .ref h7, .int 0, .int 0, .ref h8, .ref h9, .ref h10, .ref h11, .ref h12, .ref h13, .ref h14])), (h1, .inr (2, [.ref h15, .int 0, .int 0])), (h2, .inr (3, [.ref h1, .ref h16, .ref h17, .int 0])), (h3, .inr (4, [.ref h1, .ref h2]))] [.ref h0, .int x0, .int 5, .int 2, .int x1]) (vp_Si (fun r => r = ((-2) : Int32))) 0 0 (fun _ => False) := by
  refine Met.ofW (cc := cX11_shelvePiece) (maxL := 6) (ret := (some .int)) (by decide) rfl ?_
  intro p e s m args below meth c s₁ B hml hv
  obtain ⟨rfl, hP, hKK⟩ := hv
  have hx := B.exec
  have hb := B.bytes
  have hr := B.returns
  have hts := atoms_spec (ws := wsX11_shelvePiece) B.pre
  have hown : s.vm.findClass RX11 = some m.cls := findClass_of_methodNamed B.named
  have hlocks := B.notSynchronized
  have hK := hKK.1
  have hN := hKK.2
  have hin11 : ∀ w ∈ wsX110, w ∈ wsX11_shelvePiece := by decide +kernel
  have hl := lv_entry ([.ref h0, .int x0, .int 5, .int 2, .int x1]) (n := 6) (Nat.le_of_ble_eq_true rfl)
  rw [lg_entry_eq]
  generalize (lg_sl ([.ref h0, .int x0, .int 5, .int 2, .int x1]) ++ List.replicate (6 - (lg_sl ([.ref h0, .int x0, .int 5, .int 2, .int x1])).length) Slot.unset).toArray = ls at hl ⊢
  have hl : lv_has ls 6 [(0, .ref h0), (1, .int x0), (2, .int 5), (3, .int 2), (4, .int x1)] := hl
  refine lv_aload_n hx hb dX11_shelvePiece_0 rfl (lv_at hl 0 rfl) ?_
  refine va_get (D := D) (ci := 11) (v := .ref h1) (C := RX11) (T := TX11) (N := 16) hx hb hts hin11 hown hK hP 0 rfl rfl 0 (by decide) (hts (.fieldLink RX11 12 "MissedPoints" "net" "LMissedPoints$Net;") (by decide +kernel)) (fun _ h9 => h9) rfl dX11_shelvePiece_1 ?_
  refine lv_aload_n hx hb dX11_shelvePiece_4 rfl (lv_at hl 0 rfl) ?_
  refine va_get (D := D) (ci := 11) (v := .ref h3) (C := RX11) (T := TX11) (N := 16) hx hb hts hin11 hown hK hP 0 rfl rfl 2 (by decide) (hts (.fieldLink RX11 30 "MissedPoints" "parting" "LMissedPoints$Parting;") (by decide +kernel)) (fun _ h9 => h9) rfl dX11_shelvePiece_5 ?_
  refine lv_iload_n hx hb dX11_shelvePiece_8 rfl (lv_at hl 3 rfl) ?_
  have hPc := hP.sub (ws' := [(h3, .inr (4, [.ref h1, .ref h2])), (h1, .inr (2, [.ref h15, .int 0, .int 0])), (h2, .inr (3, [.ref h1, .ref h16, .ref h17, .int 0]))]) [3, 1, 2] rfl
  refine lz_sv (As := [.int 2]) (rest := [.ref h1]) ⟨hx, hb, hml, hown, hts⟩ (c_X4_allOf_2 l D cI cS h3 h1 h2 h15 h16 h17) hKK hPc (ci := 4) rfl rfl (cwV 1 hts gX11_shelvePiece_X4_allOf rfl rfl rfl (by decide +kernel) ⟨Nat.le_of_ble_eq_true rfl, Nat.le_of_ble_eq_true rfl⟩) rfl hl.1 rfl (Nat.le_of_ble_eq_true rfl) dX11_shelvePiece_9 ⟨Nat.le_of_ble_eq_true rfl, Nat.le_of_ble_eq_true rfl⟩ (fun r3731 hw => ?_)
  subst hw
  refine lv_iload hx hb dX11_shelvePiece_12 (lv_at hl 4 rfl) ?_
  have hPc := hP.sub (ws' := [(h1, .inr (2, [.ref h15, .int 0, .int 0]))]) [1] rfl
  refine lz_sv (As := [.int 0, .int x1]) (rest := []) ⟨hx, hb, hml, hown, hts⟩ (c_X2_pieceAt_0 l D cI cS h1 h15 x1) hKK hPc (ci := 2) rfl rfl (cwV 2 hts gX11_shelvePiece_X2_pieceAt rfl rfl rfl (by decide +kernel) ⟨Nat.le_of_ble_eq_true rfl, Nat.le_of_ble_eq_true rfl⟩) rfl hl.1 rfl (Nat.le_of_ble_eq_true rfl) dX11_shelvePiece_14 ⟨Nat.le_of_ble_eq_true rfl, Nat.le_of_ble_eq_true rfl⟩ (fun r3732 hw => ?_)
  subst hw
  refine lv_istore (lv' := [(5, .int 0), (0, .ref h0), (1, .int x0), (2, .int 5), (3, .int 2), (4, .int x1)]) hx hb dX11_shelvePiece_17 hl (by decide) rfl (fun ls hl => ?_)
  refine lv_iload hx hb dX11_shelvePiece_19 (lv_at hl 0 rfl) ?_
  refine lv_if_ne (tgt := 29) hx hb dX11_shelvePiece_21 (by decide) (fun c3733 => ?_) (fun c3733 => ?_)
  · exact absurd c3733 (by decide)
  · refine lv_bipush (v := (-2)) hx hb dX11_shelvePiece_24 (by decide) ?_
    refine lv_goto (tgt := 40) hx hb dX11_shelvePiece_26 (by decide) ?_
    exact W.iret (v := (-2)) hx hb hr (fun t ht hW => ⟨_, rfl, rfl, ht⟩) (fun q hq => absurd hq List.not_mem_nil) dX11_shelvePiece_40
set_option maxHeartbeats 4000000 in
set_option maxRecDepth 100000 in
theorem c_X7_put_0 (l : Launch) (D : va_G) (cI cS : ClassId) (sz : Nat) (h0 h1 h2 : Nat) (x0 : Int32) : Met l yX7_put wsX7_put ({ frames := 1, cells := 0, slots := 0, locals := 40 }) (PQ D cI cS [(h0, .inr (7, [.ref h1, .ref h2])), (h1, .inl (cI, 4, .inl (fun _ => -1))), (h2, .inl (cI, 4, .inl (fun _ => 0)))] sz [.ref h0, .int x0, .int 2, .int 0]) (QI D [(h0, .inr (7, [.ref h1, .ref h2])), (h1, .inl (cI, 4, .inl (fun _ => -1))), (h2, .inl (cI, 4, .inl (fun _ => 0)))] [] sz (fun r => r = if x0 < 0 then ((-2) : Int32) else (if (4 : Int32) ≤ x0 then ((-2) : Int32) else (1 : Int32)))) 0 0 (va_A [(h0, .inr (7, [.ref h1, .ref h2])), (h1, .inl (cI, 4, .inl (fun _ => -1))), (h2, .inl (cI, 4, .inl (fun _ => 0)))] sz) := by
  refine Met.ofW (cc := cX7_put) (maxL := 4) (ret := (some .int)) (by decide) rfl ?_
  intro p e s m args below meth c s₁ B hml hv
  obtain ⟨rfl, hsz, hP, hKK, hD0⟩ := hv
  have hx := B.exec
  have hb := B.bytes
  have hr := B.returns
  have hts := atoms_spec (ws := wsX7_put) B.pre
  have hown : s.vm.findClass RX7 = some m.cls := findClass_of_methodNamed B.named
  have hlocks := B.notSynchronized
  have hK := hKK.1
  have hN := hKK.2
  have hin7 : ∀ w ∈ wsX70, w ∈ wsX7_put := by decide +kernel
  subst hsz
  have hD := hD0.self (sz := s.heap.size)
  obtain ⟨A, hAe⟩ : ∃ A, A = va_A [(h0, .inr (7, [.ref h1, .ref h2])), (h1, .inl (cI, 4, .inl (fun _ => -1))), (h2, .inl (cI, 4, .inl (fun _ => 0)))] s.heap.size := ⟨_, rfl⟩
  rw [← hAe] at hD
  have hA : ∀ q : Nat, s.heap.size ≤ q → A q := fun q h => by rw [hAe]; exact Or.inr h
  have hS : va_S A s.heap s.heap [] := va_S.rf
  have hl := lv_entry ([.ref h0, .int x0, .int 2, .int 0]) (n := 4) (Nat.le_of_ble_eq_true rfl)
  rw [lg_entry_eq]
  generalize (lg_sl ([.ref h0, .int x0, .int 2, .int 0]) ++ List.replicate (4 - (lg_sl ([.ref h0, .int x0, .int 2, .int 0])).length) Slot.unset).toArray = ls at hl ⊢
  have hl : lv_has ls 4 [(0, .ref h0), (1, .int x0), (2, .int 2), (3, .int 0)] := hl
  refine lv_iload_n hx hb dX7_put_0 rfl (lv_at hl 1 rfl) ?_
  have hPc := hP.sub (ws' := []) [] rfl
  refine lz_sn (As := [.int x0]) (rest := []) ⟨hx, hb, hml, hown, hts⟩ (c_X11_isShelf_0 l D cI cS x0) hKK hPc ⟨va_cnB 1 hts gX7_put_X11_isShelf_n18 rfl rfl rfl hN.2.2.2.2.2.2.2.2.2.2.2.2.2.2.2.2.2.2.2.2.2.2.2.1 (hts (.initialized RX11) (by decide +kernel)) (by decide +kernel) ⟨Nat.le_of_ble_eq_true rfl, Nat.le_of_ble_eq_true rfl⟩, (hts (.static yX11_isShelf) (by decide +kernel)), trivial⟩ rfl hl.1 rfl (Nat.le_of_ble_eq_true rfl) dX7_put_1 ⟨Nat.le_of_ble_eq_true rfl, Nat.le_of_ble_eq_true rfl⟩ (fun r3748 hw => ?_)
  by_cases k3749 : x0 < 0
  · rw [if_pos k3749] at hw
    subst hw
    refine lv_if_ne (tgt := 10) hx hb dX7_put_4 (by decide) (fun c3750 => ?_) (fun c3750 => ?_)
    · exact absurd c3750 (by decide)
    · refine lv_bipush (v := (-2)) hx hb dX7_put_7 (by decide) ?_
      have hP9 := hP.sub (ws' := []) [] rfl
      have hD9 := hD.sub (ws' := []) [] (by decide) rfl
      subst hAe
      exact W.iret (v := (-2)) hx hb hr (fun t ht hW => ⟨⟨_, (), rfl, by rw [if_pos k3749], by rw [ht]; exact hP9, hD9⟩, hS.F ht⟩) hS.2.2 dX7_put_9
  · rw [if_neg k3749] at hw
    by_cases k3751 : (4 : Int32) ≤ x0
    · rw [if_pos k3751] at hw
      subst hw
      refine lv_if_ne (tgt := 10) hx hb dX7_put_4 (by decide) (fun c3752 => ?_) (fun c3752 => ?_)
      · exact absurd c3752 (by decide)
      · refine lv_bipush (v := (-2)) hx hb dX7_put_7 (by decide) ?_
        have hP9 := hP.sub (ws' := []) [] rfl
        have hD9 := hD.sub (ws' := []) [] (by decide) rfl
        subst hAe
        exact W.iret (v := (-2)) hx hb hr (fun t ht hW => ⟨⟨_, (), rfl, by rw [if_neg k3749, if_pos k3751], by rw [ht]; exact hP9, hD9⟩, hS.F ht⟩) hS.2.2 dX7_put_9
    · rw [if_neg k3751] at hw
      subst hw
      refine lv_if_ne (tgt := 10) hx hb dX7_put_4 (by decide) (fun c3753 => ?_) (fun c3753 => ?_)
      · refine lv_aload_n hx hb dX7_put_10 rfl (lv_at hl 0 rfl) ?_
        refine va_get (D := D) (ci := 7) (v := .ref h1) (C := RX7) (T := TX7) (N := 2) hx hb hts hin7 hown hK hP 0 rfl rfl 0 (by decide) (hts (.fieldLink RX7 11 "MissedPoints$Shelves" "kinds" "[I") (by decide +kernel)) (fun _ h9 => h9) rfl dX7_put_11 ?_
        refine lv_iload_n hx hb dX7_put_14 rfl (lv_at hl 1 rfl) ?_
        refine lv_iload_n hx hb dX7_put_15 rfl (lv_at hl 2 rfl) ?_
        by_cases k3754 : x0 = 0
        · subst k3754
          refine va_iast hx hb hK hP hD hS 1 0 rfl rfl (lz_vp (x := 0) (n := 4) (by decide) (by decide)) dX7_put_16 (fun H locs hP hD hS => ?_)
          have hP : va_P D cls [(h0, .inr (7, [.ref h1, .ref h2])), (h1, .inl (cI, 4, .inl (upd (fun _ => -1) 0 2))), (h2, .inl (cI, 4, .inl (fun _ => 0)))] H := hP
          have hD : va_D A [(h0, .inr (7, [.ref h1, .ref h2])), (h1, .inl (cI, 4, .inl (upd (fun _ => -1) 0 2))), (h2, .inl (cI, 4, .inl (fun _ => 0)))] := hD
          refine lv_aload_n hx hb dX7_put_17 rfl (lv_at hl 0 rfl) ?_
          refine va_get (D := D) (ci := 7) (v := .ref h2) (C := RX7) (T := TX7) (N := 2) hx hb hts hin7 hown hK hP 0 rfl rfl 1 (by decide) (hts (.fieldLink RX7 15 "MissedPoints$Shelves" "worths" "[I") (by decide +kernel)) (fun _ h9 => h9) rfl dX7_put_18 ?_
          refine lv_iload_n hx hb dX7_put_21 rfl (lv_at hl 1 rfl) ?_
          refine lv_iload_n hx hb dX7_put_22 rfl (lv_at hl 3 rfl) ?_
          refine lz_astc hx hb hK hP hD hS 2 0 rfl rfl (lz_vp (x := 0) (n := 4) (by decide) (by decide)) dX7_put_23 (fun H locs hP hD hS => ?_)
          refine lv_iconst (v := 1) hx hb dX7_put_24 (by decide) ?_
          have hP9 := hP.sub (ws' := []) [] rfl
          have hD9 := hD.sub (ws' := []) [] (by decide) rfl
          subst hAe
          exact W.iret (v := 1) hx hb hr (fun t ht hW => ⟨⟨_, (), rfl, by rw [if_neg k3749, if_neg k3751], by rw [ht]; exact hP9, hD9⟩, hS.F ht⟩) hS.2.2 dX7_put_25
        · by_cases k3755 : x0 = 1
          · subst k3755
            refine va_iast hx hb hK hP hD hS 1 0 rfl rfl (lz_vp (x := 1) (n := 4) (by decide) (by decide)) dX7_put_16 (fun H locs hP hD hS => ?_)
            have hP : va_P D cls [(h0, .inr (7, [.ref h1, .ref h2])), (h1, .inl (cI, 4, .inl (upd (fun _ => -1) 1 2))), (h2, .inl (cI, 4, .inl (fun _ => 0)))] H := hP
            have hD : va_D A [(h0, .inr (7, [.ref h1, .ref h2])), (h1, .inl (cI, 4, .inl (upd (fun _ => -1) 1 2))), (h2, .inl (cI, 4, .inl (fun _ => 0)))] := hD
            refine lv_aload_n hx hb dX7_put_17 rfl (lv_at hl 0 rfl) ?_
            refine va_get (D := D) (ci := 7) (v := .ref h2) (C := RX7) (T := TX7) (N := 2) hx hb hts hin7 hown hK hP 0 rfl rfl 1 (by decide) (hts (.fieldLink RX7 15 "MissedPoints$Shelves" "worths" "[I") (by decide +kernel)) (fun _ h9 => h9) rfl dX7_put_18 ?_
            refine lv_iload_n hx hb dX7_put_21 rfl (lv_at hl 1 rfl) ?_
            refine lv_iload_n hx hb dX7_put_22 rfl (lv_at hl 3 rfl) ?_
            refine lz_astc hx hb hK hP hD hS 2 0 rfl rfl (lz_vp (x := 1) (n := 4) (by decide) (by decide)) dX7_put_23 (fun H locs hP hD hS => ?_)
            refine lv_iconst (v := 1) hx hb dX7_put_24 (by decide) ?_
            have hP9 := hP.sub (ws' := []) [] rfl
            have hD9 := hD.sub (ws' := []) [] (by decide) rfl
            subst hAe
            exact W.iret (v := 1) hx hb hr (fun t ht hW => ⟨⟨_, (), rfl, by rw [if_neg k3749, if_neg k3751], by rw [ht]; exact hP9, hD9⟩, hS.F ht⟩) hS.2.2 dX7_put_25
          · by_cases k3756 : x0 = 2
            · subst k3756
              refine va_iast hx hb hK hP hD hS 1 0 rfl rfl (lz_vp (x := 2) (n := 4) (by decide) (by decide)) dX7_put_16 (fun H locs hP hD hS => ?_)
              have hP : va_P D cls [(h0, .inr (7, [.ref h1, .ref h2])), (h1, .inl (cI, 4, .inl (upd (fun _ => -1) 2 2))), (h2, .inl (cI, 4, .inl (fun _ => 0)))] H := hP
              have hD : va_D A [(h0, .inr (7, [.ref h1, .ref h2])), (h1, .inl (cI, 4, .inl (upd (fun _ => -1) 2 2))), (h2, .inl (cI, 4, .inl (fun _ => 0)))] := hD
              refine lv_aload_n hx hb dX7_put_17 rfl (lv_at hl 0 rfl) ?_
              refine va_get (D := D) (ci := 7) (v := .ref h2) (C := RX7) (T := TX7) (N := 2) hx hb hts hin7 hown hK hP 0 rfl rfl 1 (by decide) (hts (.fieldLink RX7 15 "MissedPoints$Shelves" "worths" "[I") (by decide +kernel)) (fun _ h9 => h9) rfl dX7_put_18 ?_
              refine lv_iload_n hx hb dX7_put_21 rfl (lv_at hl 1 rfl) ?_
              refine lv_iload_n hx hb dX7_put_22 rfl (lv_at hl 3 rfl) ?_
              refine lz_astc hx hb hK hP hD hS 2 0 rfl rfl (lz_vp (x := 2) (n := 4) (by decide) (by decide)) dX7_put_23 (fun H locs hP hD hS => ?_)
              refine lv_iconst (v := 1) hx hb dX7_put_24 (by decide) ?_
              have hP9 := hP.sub (ws' := []) [] rfl
              have hD9 := hD.sub (ws' := []) [] (by decide) rfl
              subst hAe
              exact W.iret (v := 1) hx hb hr (fun t ht hW => ⟨⟨_, (), rfl, by rw [if_neg k3749, if_neg k3751], by rw [ht]; exact hP9, hD9⟩, hS.F ht⟩) hS.2.2 dX7_put_25
            · obtain rfl : x0 = 3 := by have zf1 := mt (lz_lt x0 (0 : Int32)).mpr k3749; have zf2 := mt (lz_le (4 : Int32) x0).mpr k3751; have zf3 := mt (lz_eq x0 (0 : Int32)).mpr k3754; have zf4 := mt (lz_eq x0 (1 : Int32)).mpr k3755; have zf5 := mt (lz_eq x0 (2 : Int32)).mpr k3756; have zn0 : (0 : Int32).toInt = 0 := (by decide); have zn1 : (1 : Int32).toInt = 1 := (by decide); have zn2 : (2 : Int32).toInt = 2 := (by decide); have zn3 : (3 : Int32).toInt = 3 := (by decide); have zn4 : (4 : Int32).toInt = 4 := (by decide); rw [lz_eq]; omega
              refine va_iast hx hb hK hP hD hS 1 0 rfl rfl (lz_vp (x := 3) (n := 4) (by decide) (by decide)) dX7_put_16 (fun H locs hP hD hS => ?_)
              have hP : va_P D cls [(h0, .inr (7, [.ref h1, .ref h2])), (h1, .inl (cI, 4, .inl (upd (fun _ => -1) 3 2))), (h2, .inl (cI, 4, .inl (fun _ => 0)))] H := hP
              have hD : va_D A [(h0, .inr (7, [.ref h1, .ref h2])), (h1, .inl (cI, 4, .inl (upd (fun _ => -1) 3 2))), (h2, .inl (cI, 4, .inl (fun _ => 0)))] := hD
              refine lv_aload_n hx hb dX7_put_17 rfl (lv_at hl 0 rfl) ?_
              refine va_get (D := D) (ci := 7) (v := .ref h2) (C := RX7) (T := TX7) (N := 2) hx hb hts hin7 hown hK hP 0 rfl rfl 1 (by decide) (hts (.fieldLink RX7 15 "MissedPoints$Shelves" "worths" "[I") (by decide +kernel)) (fun _ h9 => h9) rfl dX7_put_18 ?_
              refine lv_iload_n hx hb dX7_put_21 rfl (lv_at hl 1 rfl) ?_
              refine lv_iload_n hx hb dX7_put_22 rfl (lv_at hl 3 rfl) ?_
              refine lz_astc hx hb hK hP hD hS 2 0 rfl rfl (lz_vp (x := 3) (n := 4) (by decide) (by decide)) dX7_put_23 (fun H locs hP hD hS => ?_)
              refine lv_iconst (v := 1) hx hb dX7_put_24 (by decide) ?_
              have hP9 := hP.sub (ws' := []) [] rfl
              have hD9 := hD.sub (ws' := []) [] (by decide) rfl
              subst hAe
              exact W.iret (v := 1) hx hb hr (fun t ht hW => ⟨⟨_, (), rfl, by rw [if_neg k3749, if_neg k3751], by rw [ht]; exact hP9, hD9⟩, hS.F ht⟩) hS.2.2 dX7_put_25
      · exact absurd c3753 (by decide)
set_option maxHeartbeats 4000000 in
set_option maxRecDepth 100000 in
theorem c_X11_shelveArea_0 (l : Launch) (D : va_G) (cI cS : ClassId) (sz : Nat) (h0 h1 h2 h3 h4 h5 h6 h7 h8 h9 h10 h11 h12 h13 h14 h15 h35 h36 : Nat) (x0 x1 : Int32) : Met l yX11_shelveArea wsX11_shelveArea ({ frames := 2, cells := 0, slots := 0, locals := 80 }) (PQ D cI cS [(h0, .inr (11, [.ref h1, .ref h2, .ref h3, .ref h4, .ref h5, .ref h6, .ref h7, .int 0, .int 0, .ref h8, .ref h9, .ref h10, .ref h11, .ref h12, .ref h13, .ref h14])), (h1, .inr (2, [.ref h15, .int 0, .int 0])), (h14, .inr (7, [.ref h35, .ref h36])), (h35, .inl (cI, 4, .inl (fun _ => -1))), (h36, .inl (cI, 4, .inl (fun _ => 0)))] sz [.ref h0, .int x0, .int x1]) (QI D [(h0, .inr (11, [.ref h1, .ref h2, .ref h3, .ref h4, .ref h5, .ref h6, .ref h7, .int 0, .int 0, .ref h8, .ref h9, .ref h10, .ref h11, .ref h12, .ref h13, .ref h14])), (h1, .inr (2, [.ref h15, .int 0, .int 0])), (h14, .inr (7, [.ref h35, .ref h36])), (h35, .inl (cI, 4, .inl (fun _ => -1))), (h36, .inl (cI, 4, .inl (fun _ => 0)))] [] sz (fun r => r = if x1 = 0 then (if x0 < 0 then ((-2) : Int32) else (if (4 : Int32) ≤ x0 then ((-2) : Int32) else (1 : Int32))) else ((-2) : Int32))) 0 0 (va_A [(h0, .inr (11, [.ref h1, .ref h2, .ref h3, .ref h4, .ref h5, .ref h6, .ref h7, .int 0, .int 0, .ref h8, .ref h9, .ref h10, .ref h11, .ref h12, .ref h13, .ref h14])), (h1, .inr (2, [.ref h15, .int 0, .int 0])), (h14, .inr (7, [.ref h35, .ref h36])), (h35, .inl (cI, 4, .inl (fun _ => -1))), (h36, .inl (cI, 4, .inl (fun _ => 0)))] sz) := by
  refine Met.ofW (cc := cX11_shelveArea) (maxL := 3) (ret := (some .int)) (by decide) rfl ?_
  intro p e s m args below meth c s₁ B hml hv
  obtain ⟨rfl, hsz, hP, hKK, hD0⟩ := hv
  have hx := B.exec
  have hb := B.bytes
  have hr := B.returns
  have hts := atoms_spec (ws := wsX11_shelveArea) B.pre
  have hown : s.vm.findClass RX11 = some m.cls := findClass_of_methodNamed B.named
  have hlocks := B.notSynchronized
  have hK := hKK.1
  have hN := hKK.2
  have hin11 : ∀ w ∈ wsX110, w ∈ wsX11_shelveArea := by decide +kernel
  subst hsz
  have hD := hD0.self (sz := s.heap.size)
  obtain ⟨A, hAe⟩ : ∃ A, A = va_A [(h0, .inr (11, [.ref h1, .ref h2, .ref h3, .ref h4, .ref h5, .ref h6, .ref h7, .int 0, .int 0, .ref h8, .ref h9, .ref h10, .ref h11, .ref h12, .ref h13, .ref h14])), (h1, .inr (2, [.ref h15, .int 0, .int 0])), (h14, .inr (7, [.ref h35, .ref h36])), (h35, .inl (cI, 4, .inl (fun _ => -1))), (h36, .inl (cI, 4, .inl (fun _ => 0)))] s.heap.size := ⟨_, rfl⟩
  rw [← hAe] at hD
  have hA : ∀ q : Nat, s.heap.size ≤ q → A q := fun q h => by rw [hAe]; exact Or.inr h
  have hS : va_S A s.heap s.heap [] := va_S.rf
  have hl := lv_entry ([.ref h0, .int x0, .int x1]) (n := 3) (Nat.le_of_ble_eq_true rfl)
  rw [lg_entry_eq]
  generalize (lg_sl ([.ref h0, .int x0, .int x1]) ++ List.replicate (3 - (lg_sl ([.ref h0, .int x0, .int x1])).length) Slot.unset).toArray = ls at hl ⊢
  have hl : lv_has ls 3 [(0, .ref h0), (1, .int x0), (2, .int x1)] := hl
  refine lv_aload_n hx hb dX11_shelveArea_0 rfl (lv_at hl 0 rfl) ?_
  refine va_get (D := D) (ci := 11) (v := .ref h1) (C := RX11) (T := TX11) (N := 16) hx hb hts hin11 hown hK hP 0 rfl rfl 0 (by decide) (hts (.fieldLink RX11 12 "MissedPoints" "net" "LMissedPoints$Net;") (by decide +kernel)) (fun _ h9 => h9) rfl dX11_shelveArea_1 ?_
  refine lv_iload_n hx hb dX11_shelveArea_4 rfl (lv_at hl 2 rfl) ?_
  have hPc := hP.sub (ws' := [(h1, .inr (2, [.ref h15, .int 0, .int 0]))]) [1] rfl
  refine lz_sv (As := [.int x1]) (rest := []) ⟨hx, hb, hml, hown, hts⟩ (c_X2_hasAll_0 l D cI cS h1 h15 x1) hKK hPc (ci := 2) rfl rfl (cwV 1 hts gX11_shelveArea_X2_hasAll rfl rfl rfl (by decide +kernel) ⟨Nat.le_of_ble_eq_true rfl, Nat.le_of_ble_eq_true rfl⟩) rfl hl.1 rfl (Nat.le_of_ble_eq_true rfl) dX11_shelveArea_5 ⟨Nat.le_of_ble_eq_true rfl, Nat.le_of_ble_eq_true rfl⟩ (fun r3761 hw => ?_)
  by_cases k3762 : x1 = 0
  · rw [if_pos k3762] at hw
    subst k3762
    subst hw
    refine lv_if_eq (tgt := 24) hx hb dX11_shelveArea_8 (by decide) (fun c3763 => ?_) (fun c3763 => ?_)
    · exact absurd c3763 (by decide)
    · refine lv_aload_n hx hb dX11_shelveArea_11 rfl (lv_at hl 0 rfl) ?_
      refine va_get (D := D) (ci := 11) (v := .ref h14) (C := RX11) (T := TX11) (N := 16) hx hb hts hin11 hown hK hP 0 rfl rfl 15 (by decide) (hts (.fieldLink RX11 92 "MissedPoints" "shelves" "LMissedPoints$Shelves;") (by decide +kernel)) (fun _ h9 => h9) rfl dX11_shelveArea_12 ?_
      refine lv_iload_n hx hb dX11_shelveArea_15 rfl (lv_at hl 1 rfl) ?_
      refine lv_iconst (v := 2) hx hb dX11_shelveArea_16 (by decide) ?_
      refine lv_iload_n hx hb dX11_shelveArea_17 rfl (lv_at hl 2 rfl) ?_
      have hPc := hP.sub (ws' := [(h14, .inr (7, [.ref h35, .ref h36])), (h35, .inl (cI, 4, .inl (fun _ => -1))), (h36, .inl (cI, 4, .inl (fun _ => 0)))]) [2, 3, 4] rfl
      have hDc := hD.sub (ws' := [(h14, .inr (7, [.ref h35, .ref h36])), (h35, .inl (cI, 4, .inl (fun _ => -1))), (h36, .inl (cI, 4, .inl (fun _ => 0)))]) [2, 3, 4] (by decide) rfl
      refine lz_qi (wr := [(h0, .inr (11, [.ref h1, .ref h2, .ref h3, .ref h4, .ref h5, .ref h6, .ref h7, .int 0, .int 0, .ref h8, .ref h9, .ref h10, .ref h11, .ref h12, .ref h13, .ref h14])), (h1, .inr (2, [.ref h15, .int 0, .int 0]))]) (w1 := []) (As := [.int x0, .int 2, .int 0]) (rest := []) ⟨hx, hb, hml, hown, hts⟩ (c_X7_put_0 l D cI cS _ h14 h35 h36 x0) hKK hP hD hS hA [2, 3, 4] [0, 1] (by decide) rfl rfl (by decide) (by decide) hPc hDc (ci := 7) rfl rfl (cwV 3 hts gX11_shelveArea_X7_put rfl rfl rfl (by decide +kernel) ⟨Nat.le_of_ble_eq_true rfl, Nat.le_of_ble_eq_true rfl⟩) rfl hl.1 rfl (Nat.le_of_ble_eq_true rfl) dX11_shelveArea_18 ⟨Nat.le_of_ble_eq_true rfl, Nat.le_of_ble_eq_true rfl⟩ (fun r3764 H locs hw hP hD hS => ?_)
      have hP : va_P D cls [(h0, .inr (11, [.ref h1, .ref h2, .ref h3, .ref h4, .ref h5, .ref h6, .ref h7, .int 0, .int 0, .ref h8, .ref h9, .ref h10, .ref h11, .ref h12, .ref h13, .ref h14])), (h1, .inr (2, [.ref h15, .int 0, .int 0]))] H := hP
      have hD : va_D A [(h0, .inr (11, [.ref h1, .ref h2, .ref h3, .ref h4, .ref h5, .ref h6, .ref h7, .int 0, .int 0, .ref h8, .ref h9, .ref h10, .ref h11, .ref h12, .ref h13, .ref h14])), (h1, .inr (2, [.ref h15, .int 0, .int 0]))] := hD
      by_cases k3765 : x0 < 0
      · rw [if_pos k3765] at hw
        subst hw
        refine lv_goto (tgt := 26) hx hb dX11_shelveArea_21 (by decide) ?_
        have hP9 := hP.sub (ws' := []) [] rfl
        have hD9 := hD.sub (ws' := []) [] (by decide) rfl
        subst hAe
        exact W.iret (v := (-2)) hx hb hr (fun t ht hW => ⟨⟨_, (), rfl, by rw [if_pos rfl, if_pos k3765], by rw [ht]; exact hP9, hD9⟩, hS.F ht⟩) hS.2.2 dX11_shelveArea_26
      · rw [if_neg k3765] at hw
        by_cases k3766 : (4 : Int32) ≤ x0
        · rw [if_pos k3766] at hw
          subst hw
          refine lv_goto (tgt := 26) hx hb dX11_shelveArea_21 (by decide) ?_
          have hP9 := hP.sub (ws' := []) [] rfl
          have hD9 := hD.sub (ws' := []) [] (by decide) rfl
          subst hAe
          exact W.iret (v := (-2)) hx hb hr (fun t ht hW => ⟨⟨_, (), rfl, by rw [if_pos rfl, if_neg k3765, if_pos k3766], by rw [ht]; exact hP9, hD9⟩, hS.F ht⟩) hS.2.2 dX11_shelveArea_26
        · rw [if_neg k3766] at hw
          subst hw
          refine lv_goto (tgt := 26) hx hb dX11_shelveArea_21 (by decide) ?_
          have hP9 := hP.sub (ws' := []) [] rfl
          have hD9 := hD.sub (ws' := []) [] (by decide) rfl
          subst hAe
          exact W.iret (v := 1) hx hb hr (fun t ht hW => ⟨⟨_, (), rfl, by rw [if_pos rfl, if_neg k3765, if_neg k3766], by rw [ht]; exact hP9, hD9⟩, hS.F ht⟩) hS.2.2 dX11_shelveArea_26
  · rw [if_neg k3762] at hw
    subst hw
    refine lv_if_eq (tgt := 24) hx hb dX11_shelveArea_8 (by decide) (fun c3767 => ?_) (fun c3767 => ?_)
    · refine lv_bipush (v := (-2)) hx hb dX11_shelveArea_24 (by decide) ?_
      have hP9 := hP.sub (ws' := []) [] rfl
      have hD9 := hD.sub (ws' := []) [] (by decide) rfl
      subst hAe
      exact W.iret (v := (-2)) hx hb hr (fun t ht hW => ⟨⟨_, (), rfl, by rw [if_neg k3762], by rw [ht]; exact hP9, hD9⟩, hS.F ht⟩) hS.2.2 dX11_shelveArea_26
    · exact absurd c3767 (by decide)
set_option maxHeartbeats 4000000 in
set_option maxRecDepth 100000 in
theorem c_X11_shelveRow_0 (l : Launch) (D : va_G) (cI cS : ClassId) (h0 h1 h2 h3 h4 h5 h6 h7 h8 h9 h10 h11 h12 h13 h14 h25 h26 h27 h28 h41 h42 h43 h44 : Nat) (x0 x1 : Int32) : Met l yX11_shelveRow wsX11_shelveRow ({ frames := 2, cells := 0, slots := 0, locals := 80 }) (PS D cI cS [(h0, .inr (11, [.ref h1, .ref h2, .ref h3, .ref h4, .ref h5, .ref h6, .ref h7, .int 0, .int 0, .ref h8, .ref h9, .ref h10, .ref h11, .ref h12, .ref h13, .ref h14])), (h11, .inl (cS, 4, .inr (.inr (.inr (.inr (fun k => [h25, h26, h27, h28][k]?)))))), (h25, .inr (6, [.ref h41, .int (-1), .int 0])), (h26, .inr (6, [.ref h42, .int (-1), .int 0])), (h27, .inr (6, [.ref h43, .int (-1), .int 0])), (h28, .inr (6, [.ref h44, .int (-1), .int 0]))] [.ref h0, .int x0, .int x1]) (vp_Si (fun r => r = if x1 < 0 then ((-2) : Int32) else (if (4 : Int32) ≤ x1 then ((-2) : Int32) else ((-11) : Int32)))) 0 0 (fun _ => False) := by
  refine Met.ofW (cc := cX11_shelveRow) (maxL := 4) (ret := (some .int)) (by decide) rfl ?_
  intro p e s m args below meth c s₁ B hml hv
  obtain ⟨rfl, hP, hKK⟩ := hv
  have hx := B.exec
  have hb := B.bytes
  have hr := B.returns
  have hts := atoms_spec (ws := wsX11_shelveRow) B.pre
  have hown : s.vm.findClass RX11 = some m.cls := findClass_of_methodNamed B.named
  have hlocks := B.notSynchronized
  have hK := hKK.1
  have hN := hKK.2
  have hl := lv_entry ([.ref h0, .int x0, .int x1]) (n := 4) (Nat.le_of_ble_eq_true rfl)
  rw [lg_entry_eq]
  generalize (lg_sl ([.ref h0, .int x0, .int x1]) ++ List.replicate (4 - (lg_sl ([.ref h0, .int x0, .int x1])).length) Slot.unset).toArray = ls at hl ⊢
  have hl : lv_has ls 4 [(0, .ref h0), (1, .int x0), (2, .int x1)] := hl
  refine lv_aload_n hx hb dX11_shelveRow_0 rfl (lv_at hl 0 rfl) ?_
  refine lv_iload_n hx hb dX11_shelveRow_1 rfl (lv_at hl 2 rfl) ?_
  have hPc := hP.sub (ws' := [(h0, .inr (11, [.ref h1, .ref h2, .ref h3, .ref h4, .ref h5, .ref h6, .ref h7, .int 0, .int 0, .ref h8, .ref h9, .ref h10, .ref h11, .ref h12, .ref h13, .ref h14])), (h11, .inl (cS, 4, .inr (.inr (.inr (.inr (fun k => [h25, h26, h27, h28][k]?)))))), (h25, .inr (6, [.ref h41, .int (-1), .int 0])), (h26, .inr (6, [.ref h42, .int (-1), .int 0])), (h27, .inr (6, [.ref h43, .int (-1), .int 0])), (h28, .inr (6, [.ref h44, .int (-1), .int 0]))]) [0, 1, 2, 3, 4, 5] rfl
  refine lz_sv (As := [.int x1]) (rest := []) ⟨hx, hb, hml, hown, hts⟩ (c_X11_refusalOfSheet_0 l D cI cS h0 h1 h2 h3 h4 h5 h6 h7 h8 h9 h10 h11 h12 h13 h14 h25 h26 h27 h28 h41 h42 h43 h44 x1) hKK hPc (ci := 11) rfl rfl (cwV 1 hts gX11_shelveRow_X11_refusalOfSheet rfl rfl rfl (by decide +kernel) ⟨Nat.le_of_ble_eq_true rfl, Nat.le_of_ble_eq_true rfl⟩) rfl hl.1 rfl (Nat.le_of_ble_eq_true rfl) dX11_shelveRow_2 ⟨Nat.le_of_ble_eq_true rfl, Nat.le_of_ble_eq_true rfl⟩ (fun r3777 hw => ?_)
  by_cases k3778 : x1 < 0
  · rw [if_pos k3778] at hw
    subst hw
    refine lv_istore_n (lv' := [(3, .int (-2)), (0, .ref h0), (1, .int x0), (2, .int x1)]) hx hb dX11_shelveRow_5 rfl hl (by decide) rfl (fun ls hl => ?_)
    refine lv_iload_n hx hb dX11_shelveRow_6 rfl (lv_at hl 0 rfl) ?_
    refine lv_if_eq (tgt := 12) hx hb dX11_shelveRow_7 (by decide) (fun c3779 => ?_) (fun c3779 => ?_)
    · exact absurd c3779 (by decide)
    · refine lv_iload_n hx hb dX11_shelveRow_10 rfl (lv_at hl 0 rfl) ?_
      exact W.iret (v := (-2)) hx hb hr (fun t ht hW => ⟨_, rfl, by rw [if_pos k3778], ht⟩) (fun q hq => absurd hq List.not_mem_nil) dX11_shelveRow_11
  · rw [if_neg k3778] at hw
    by_cases k3780 : (4 : Int32) ≤ x1
    · rw [if_pos k3780] at hw
      subst hw
      refine lv_istore_n (lv' := [(3, .int (-2)), (0, .ref h0), (1, .int x0), (2, .int x1)]) hx hb dX11_shelveRow_5 rfl hl (by decide) rfl (fun ls hl => ?_)
      refine lv_iload_n hx hb dX11_shelveRow_6 rfl (lv_at hl 0 rfl) ?_
      refine lv_if_eq (tgt := 12) hx hb dX11_shelveRow_7 (by decide) (fun c3781 => ?_) (fun c3781 => ?_)
      · exact absurd c3781 (by decide)
      · refine lv_iload_n hx hb dX11_shelveRow_10 rfl (lv_at hl 0 rfl) ?_
        exact W.iret (v := (-2)) hx hb hr (fun t ht hW => ⟨_, rfl, by rw [if_neg k3778, if_pos k3780], ht⟩) (fun q hq => absurd hq List.not_mem_nil) dX11_shelveRow_11
    · rw [if_neg k3780] at hw
      subst hw
      refine lv_istore_n (lv' := [(3, .int (-11)), (0, .ref h0), (1, .int x0), (2, .int x1)]) hx hb dX11_shelveRow_5 rfl hl (by decide) rfl (fun ls hl => ?_)
      refine lv_iload_n hx hb dX11_shelveRow_6 rfl (lv_at hl 0 rfl) ?_
      refine lv_if_eq (tgt := 12) hx hb dX11_shelveRow_7 (by decide) (fun c3782 => ?_) (fun c3782 => ?_)
      · exact absurd c3782 (by decide)
      · refine lv_iload_n hx hb dX11_shelveRow_10 rfl (lv_at hl 0 rfl) ?_
        exact W.iret (v := (-11)) hx hb hr (fun t ht hW => ⟨_, rfl, by rw [if_neg k3778, if_neg k3780], ht⟩) (fun q hq => absurd hq List.not_mem_nil) dX11_shelveRow_11
set_option maxHeartbeats 4000000 in
set_option maxRecDepth 100000 in
theorem c_X7_put_1 (l : Launch) (D : va_G) (cI cS : ClassId) (sz : Nat) (h0 h1 h2 : Nat) (x0 : Int32) : Met l yX7_put wsX7_put ({ frames := 1, cells := 0, slots := 0, locals := 40 }) (PQ D cI cS [(h0, .inr (7, [.ref h1, .ref h2])), (h1, .inl (cI, 4, .inl (fun _ => -1))), (h2, .inl (cI, 4, .inl (fun _ => 0)))] sz [.ref h0, .int x0, .int (-1), .int 0]) (QI D [(h0, .inr (7, [.ref h1, .ref h2])), (h1, .inl (cI, 4, .inl (fun _ => -1))), (h2, .inl (cI, 4, .inl (fun _ => 0)))] [(h0, .inr (7, [.ref h1, .ref h2])), (h1, .inl (cI, 4, .inl (fun _ => -1))), (h2, .inl (cI, 4, .inl (fun _ => 0)))] sz (fun r => r = if x0 < 0 then ((-2) : Int32) else (if (4 : Int32) ≤ x0 then ((-2) : Int32) else (1 : Int32)))) 0 0 (va_A [(h0, .inr (7, [.ref h1, .ref h2])), (h1, .inl (cI, 4, .inl (fun _ => -1))), (h2, .inl (cI, 4, .inl (fun _ => 0)))] sz) := by
  refine Met.ofW (cc := cX7_put) (maxL := 4) (ret := (some .int)) (by decide) rfl ?_
  intro p e s m args below meth c s₁ B hml hv
  obtain ⟨rfl, hsz, hP, hKK, hD0⟩ := hv
  have hx := B.exec
  have hb := B.bytes
  have hr := B.returns
  have hts := atoms_spec (ws := wsX7_put) B.pre
  have hown : s.vm.findClass RX7 = some m.cls := findClass_of_methodNamed B.named
  have hlocks := B.notSynchronized
  have hK := hKK.1
  have hN := hKK.2
  have hin7 : ∀ w ∈ wsX70, w ∈ wsX7_put := by decide +kernel
  subst hsz
  have hD := hD0.self (sz := s.heap.size)
  obtain ⟨A, hAe⟩ : ∃ A, A = va_A [(h0, .inr (7, [.ref h1, .ref h2])), (h1, .inl (cI, 4, .inl (fun _ => -1))), (h2, .inl (cI, 4, .inl (fun _ => 0)))] s.heap.size := ⟨_, rfl⟩
  rw [← hAe] at hD
  have hA : ∀ q : Nat, s.heap.size ≤ q → A q := fun q h => by rw [hAe]; exact Or.inr h
  have hS : va_S A s.heap s.heap [] := va_S.rf
  have hl := lv_entry ([.ref h0, .int x0, .int (-1), .int 0]) (n := 4) (Nat.le_of_ble_eq_true rfl)
  rw [lg_entry_eq]
  generalize (lg_sl ([.ref h0, .int x0, .int (-1), .int 0]) ++ List.replicate (4 - (lg_sl ([.ref h0, .int x0, .int (-1), .int 0])).length) Slot.unset).toArray = ls at hl ⊢
  have hl : lv_has ls 4 [(0, .ref h0), (1, .int x0), (2, .int (-1)), (3, .int 0)] := hl
  refine lv_iload_n hx hb dX7_put_0 rfl (lv_at hl 1 rfl) ?_
  have hPc := hP.sub (ws' := []) [] rfl
  refine lz_sn (As := [.int x0]) (rest := []) ⟨hx, hb, hml, hown, hts⟩ (c_X11_isShelf_0 l D cI cS x0) hKK hPc ⟨va_cnB 1 hts gX7_put_X11_isShelf_n18 rfl rfl rfl hN.2.2.2.2.2.2.2.2.2.2.2.2.2.2.2.2.2.2.2.2.2.2.2.1 (hts (.initialized RX11) (by decide +kernel)) (by decide +kernel) ⟨Nat.le_of_ble_eq_true rfl, Nat.le_of_ble_eq_true rfl⟩, (hts (.static yX11_isShelf) (by decide +kernel)), trivial⟩ rfl hl.1 rfl (Nat.le_of_ble_eq_true rfl) dX7_put_1 ⟨Nat.le_of_ble_eq_true rfl, Nat.le_of_ble_eq_true rfl⟩ (fun r3793 hw => ?_)
  by_cases k3794 : x0 < 0
  · rw [if_pos k3794] at hw
    subst hw
    refine lv_if_ne (tgt := 10) hx hb dX7_put_4 (by decide) (fun c3795 => ?_) (fun c3795 => ?_)
    · exact absurd c3795 (by decide)
    · refine lv_bipush (v := (-2)) hx hb dX7_put_7 (by decide) ?_
      have hP9 := hP.sub (ws' := [(h0, .inr (7, [.ref h1, .ref h2])), (h1, .inl (cI, 4, .inl (fun _ => -1))), (h2, .inl (cI, 4, .inl (fun _ => 0)))]) [0, 1, 2] rfl
      have hD9 := hD.sub (ws' := [(h0, .inr (7, [.ref h1, .ref h2])), (h1, .inl (cI, 4, .inl (fun _ => -1))), (h2, .inl (cI, 4, .inl (fun _ => 0)))]) [0, 1, 2] (by decide) rfl
      subst hAe
      exact W.iret (v := (-2)) hx hb hr (fun t ht hW => ⟨⟨_, (), rfl, by rw [if_pos k3794], by rw [ht]; exact hP9, hD9⟩, hS.F ht⟩) hS.2.2 dX7_put_9
  · rw [if_neg k3794] at hw
    by_cases k3796 : (4 : Int32) ≤ x0
    · rw [if_pos k3796] at hw
      subst hw
      refine lv_if_ne (tgt := 10) hx hb dX7_put_4 (by decide) (fun c3797 => ?_) (fun c3797 => ?_)
      · exact absurd c3797 (by decide)
      · refine lv_bipush (v := (-2)) hx hb dX7_put_7 (by decide) ?_
        have hP9 := hP.sub (ws' := [(h0, .inr (7, [.ref h1, .ref h2])), (h1, .inl (cI, 4, .inl (fun _ => -1))), (h2, .inl (cI, 4, .inl (fun _ => 0)))]) [0, 1, 2] rfl
        have hD9 := hD.sub (ws' := [(h0, .inr (7, [.ref h1, .ref h2])), (h1, .inl (cI, 4, .inl (fun _ => -1))), (h2, .inl (cI, 4, .inl (fun _ => 0)))]) [0, 1, 2] (by decide) rfl
        subst hAe
        exact W.iret (v := (-2)) hx hb hr (fun t ht hW => ⟨⟨_, (), rfl, by rw [if_neg k3794, if_pos k3796], by rw [ht]; exact hP9, hD9⟩, hS.F ht⟩) hS.2.2 dX7_put_9
    · rw [if_neg k3796] at hw
      subst hw
      refine lv_if_ne (tgt := 10) hx hb dX7_put_4 (by decide) (fun c3798 => ?_) (fun c3798 => ?_)
      · refine lv_aload_n hx hb dX7_put_10 rfl (lv_at hl 0 rfl) ?_
        refine va_get (D := D) (ci := 7) (v := .ref h1) (C := RX7) (T := TX7) (N := 2) hx hb hts hin7 hown hK hP 0 rfl rfl 0 (by decide) (hts (.fieldLink RX7 11 "MissedPoints$Shelves" "kinds" "[I") (by decide +kernel)) (fun _ h9 => h9) rfl dX7_put_11 ?_
        refine lv_iload_n hx hb dX7_put_14 rfl (lv_at hl 1 rfl) ?_
        refine lv_iload_n hx hb dX7_put_15 rfl (lv_at hl 2 rfl) ?_
        refine lz_astc hx hb hK hP hD hS 1 0 rfl rfl (lz_vp (x := x0) (n := 4) (by have zf1 := mt (lz_lt x0 (0 : Int32)).mpr k3794; have zf2 := mt (lz_le (4 : Int32) x0).mpr k3796; have zn0 : (0 : Int32).toInt = 0 := (by decide); have zn1 : (4 : Int32).toInt = 4 := (by decide); omega) (by have zf1 := mt (lz_lt x0 (0 : Int32)).mpr k3794; have zf2 := mt (lz_le (4 : Int32) x0).mpr k3796; have zn0 : (0 : Int32).toInt = 0 := (by decide); have zn1 : (4 : Int32).toInt = 4 := (by decide); omega)) dX7_put_16 (fun H locs hP hD hS => ?_)
        refine lv_aload_n hx hb dX7_put_17 rfl (lv_at hl 0 rfl) ?_
        refine va_get (D := D) (ci := 7) (v := .ref h2) (C := RX7) (T := TX7) (N := 2) hx hb hts hin7 hown hK hP 0 rfl rfl 1 (by decide) (hts (.fieldLink RX7 15 "MissedPoints$Shelves" "worths" "[I") (by decide +kernel)) (fun _ h9 => h9) rfl dX7_put_18 ?_
        refine lv_iload_n hx hb dX7_put_21 rfl (lv_at hl 1 rfl) ?_
        refine lv_iload_n hx hb dX7_put_22 rfl (lv_at hl 3 rfl) ?_
        refine lz_astc hx hb hK hP hD hS 2 0 rfl rfl (lz_vp (x := x0) (n := 4) (by have zf1 := mt (lz_lt x0 (0 : Int32)).mpr k3794; have zf2 := mt (lz_le (4 : Int32) x0).mpr k3796; have zn0 : (0 : Int32).toInt = 0 := (by decide); have zn1 : (4 : Int32).toInt = 4 := (by decide); omega) (by have zf1 := mt (lz_lt x0 (0 : Int32)).mpr k3794; have zf2 := mt (lz_le (4 : Int32) x0).mpr k3796; have zn0 : (0 : Int32).toInt = 0 := (by decide); have zn1 : (4 : Int32).toInt = 4 := (by decide); omega)) dX7_put_23 (fun H locs hP hD hS => ?_)
        refine lv_iconst (v := 1) hx hb dX7_put_24 (by decide) ?_
        have hP9 := hP.sub (ws' := [(h0, .inr (7, [.ref h1, .ref h2])), (h1, .inl (cI, 4, .inl (fun _ => -1))), (h2, .inl (cI, 4, .inl (fun _ => 0)))]) [0, 1, 2] rfl
        have hD9 := hD.sub (ws' := [(h0, .inr (7, [.ref h1, .ref h2])), (h1, .inl (cI, 4, .inl (fun _ => -1))), (h2, .inl (cI, 4, .inl (fun _ => 0)))]) [0, 1, 2] (by decide) rfl
        subst hAe
        exact W.iret (v := 1) hx hb hr (fun t ht hW => ⟨⟨_, (), rfl, by rw [if_neg k3794, if_neg k3796], by rw [ht]; exact hP9, hD9⟩, hS.F ht⟩) hS.2.2 dX7_put_25
      · exact absurd c3798 (by decide)
set_option maxHeartbeats 4000000 in
set_option maxRecDepth 100000 in
theorem c_X11_shelf_0 (l : Launch) (D : va_G) (cI cS : ClassId) (sz : Nat) (h0 h1 h2 h3 h4 h5 h6 h7 h8 h9 h10 h11 h12 h13 h14 h15 h16 h17 h25 h26 h27 h28 h35 h36 h41 h42 h43 h44 : Nat) (x0 x1 x2 : Int32) : Met l yX11_shelf wsX11_shelf ({ frames := 6, cells := 0, slots := 0, locals := 240 }) (PQ D cI cS [(h0, .inr (11, [.ref h1, .ref h2, .ref h3, .ref h4, .ref h5, .ref h6, .ref h7, .int 0, .int 0, .ref h8, .ref h9, .ref h10, .ref h11, .ref h12, .ref h13, .ref h14])), (h1, .inr (2, [.ref h15, .int 0, .int 0])), (h2, .inr (3, [.ref h1, .ref h16, .ref h17, .int 0])), (h3, .inr (4, [.ref h1, .ref h2])), (h11, .inl (cS, 4, .inr (.inr (.inr (.inr (fun k => [h25, h26, h27, h28][k]?)))))), (h14, .inr (7, [.ref h35, .ref h36])), (h25, .inr (6, [.ref h41, .int (-1), .int 0])), (h26, .inr (6, [.ref h42, .int (-1), .int 0])), (h27, .inr (6, [.ref h43, .int (-1), .int 0])), (h28, .inr (6, [.ref h44, .int (-1), .int 0])), (h35, .inl (cI, 4, .inl (fun _ => -1))), (h36, .inl (cI, 4, .inl (fun _ => 0)))] sz [.ref h0, .int x0, .int x1, .int x2]) (QI D [(h0, .inr (11, [.ref h1, .ref h2, .ref h3, .ref h4, .ref h5, .ref h6, .ref h7, .int 0, .int 0, .ref h8, .ref h9, .ref h10, .ref h11, .ref h12, .ref h13, .ref h14])), (h1, .inr (2, [.ref h15, .int 0, .int 0])), (h2, .inr (3, [.ref h1, .ref h16, .ref h17, .int 0])), (h3, .inr (4, [.ref h1, .ref h2])), (h11, .inl (cS, 4, .inr (.inr (.inr (.inr (fun k => [h25, h26, h27, h28][k]?)))))), (h14, .inr (7, [.ref h35, .ref h36])), (h25, .inr (6, [.ref h41, .int (-1), .int 0])), (h26, .inr (6, [.ref h42, .int (-1), .int 0])), (h27, .inr (6, [.ref h43, .int (-1), .int 0])), (h28, .inr (6, [.ref h44, .int (-1), .int 0])), (h35, .inl (cI, 4, .inl (fun _ => -1))), (h36, .inl (cI, 4, .inl (fun _ => 0)))] [] sz (fun r => r = if x0 < 0 then ((-2) : Int32) else (if (4 : Int32) ≤ x0 then ((-2) : Int32) else (if x1 = 0 then ((-2) : Int32) else (if x1 = 1 then ((-2) : Int32) else (if x1 = 2 then ((-2) : Int32) else (if x1 = 3 then (if x2 = 0 then (1 : Int32) else ((-2) : Int32)) else (if x1 = 4 then (if x2 < 0 then ((-2) : Int32) else (if (4 : Int32) ≤ x2 then ((-2) : Int32) else ((-11) : Int32))) else (if x1 = 5 then (1 : Int32) else ((-2) : Int32)))))))))) 0 0 (va_A [(h0, .inr (11, [.ref h1, .ref h2, .ref h3, .ref h4, .ref h5, .ref h6, .ref h7, .int 0, .int 0, .ref h8, .ref h9, .ref h10, .ref h11, .ref h12, .ref h13, .ref h14])), (h1, .inr (2, [.ref h15, .int 0, .int 0])), (h2, .inr (3, [.ref h1, .ref h16, .ref h17, .int 0])), (h3, .inr (4, [.ref h1, .ref h2])), (h11, .inl (cS, 4, .inr (.inr (.inr (.inr (fun k => [h25, h26, h27, h28][k]?)))))), (h14, .inr (7, [.ref h35, .ref h36])), (h25, .inr (6, [.ref h41, .int (-1), .int 0])), (h26, .inr (6, [.ref h42, .int (-1), .int 0])), (h27, .inr (6, [.ref h43, .int (-1), .int 0])), (h28, .inr (6, [.ref h44, .int (-1), .int 0])), (h35, .inl (cI, 4, .inl (fun _ => -1))), (h36, .inl (cI, 4, .inl (fun _ => 0)))] sz) := by
  refine Met.ofW (cc := cX11_shelf) (maxL := 4) (ret := (some .int)) (by decide) rfl ?_
  intro p e s m args below meth c s₁ B hml hv
  obtain ⟨rfl, hsz, hP, hKK, hD0⟩ := hv
  have hx := B.exec
  have hb := B.bytes
  have hr := B.returns
  have hts := atoms_spec (ws := wsX11_shelf) B.pre
  have hown : s.vm.findClass RX11 = some m.cls := findClass_of_methodNamed B.named
  have hlocks := B.notSynchronized
  have hK := hKK.1
  have hN := hKK.2
  have hin11 : ∀ w ∈ wsX110, w ∈ wsX11_shelf := by decide +kernel
  subst hsz
  have hD := hD0.self (sz := s.heap.size)
  obtain ⟨A, hAe⟩ : ∃ A, A = va_A [(h0, .inr (11, [.ref h1, .ref h2, .ref h3, .ref h4, .ref h5, .ref h6, .ref h7, .int 0, .int 0, .ref h8, .ref h9, .ref h10, .ref h11, .ref h12, .ref h13, .ref h14])), (h1, .inr (2, [.ref h15, .int 0, .int 0])), (h2, .inr (3, [.ref h1, .ref h16, .ref h17, .int 0])), (h3, .inr (4, [.ref h1, .ref h2])), (h11, .inl (cS, 4, .inr (.inr (.inr (.inr (fun k => [h25, h26, h27, h28][k]?)))))), (h14, .inr (7, [.ref h35, .ref h36])), (h25, .inr (6, [.ref h41, .int (-1), .int 0])), (h26, .inr (6, [.ref h42, .int (-1), .int 0])), (h27, .inr (6, [.ref h43, .int (-1), .int 0])), (h28, .inr (6, [.ref h44, .int (-1), .int 0])), (h35, .inl (cI, 4, .inl (fun _ => -1))), (h36, .inl (cI, 4, .inl (fun _ => 0)))] s.heap.size := ⟨_, rfl⟩
  rw [← hAe] at hD
  have hA : ∀ q : Nat, s.heap.size ≤ q → A q := fun q h => by rw [hAe]; exact Or.inr h
  have hS : va_S A s.heap s.heap [] := va_S.rf
  have hl := lv_entry ([.ref h0, .int x0, .int x1, .int x2]) (n := 4) (Nat.le_of_ble_eq_true rfl)
  rw [lg_entry_eq]
  generalize (lg_sl ([.ref h0, .int x0, .int x1, .int x2]) ++ List.replicate (4 - (lg_sl ([.ref h0, .int x0, .int x1, .int x2])).length) Slot.unset).toArray = ls at hl ⊢
  have hl : lv_has ls 4 [(0, .ref h0), (1, .int x0), (2, .int x1), (3, .int x2)] := hl
  refine lv_iload_n hx hb dX11_shelf_0 rfl (lv_at hl 1 rfl) ?_
  have hPc := hP.sub (ws' := []) [] rfl
  refine lz_ss (As := [.int x0]) (rest := []) ⟨hx, hb, hml, hown, hts⟩ (c_X11_isShelf_0 l D cI cS x0) hKK hPc (va_cwS 1 hts gX11_shelf_X11_isShelf rfl rfl rfl (by decide +kernel) ⟨Nat.le_of_ble_eq_true rfl, Nat.le_of_ble_eq_true rfl⟩) rfl hl.1 rfl (Nat.le_of_ble_eq_true rfl) dX11_shelf_1 ⟨Nat.le_of_ble_eq_true rfl, Nat.le_of_ble_eq_true rfl⟩ (fun r3800 hw => ?_)
  by_cases k3801 : x0 < 0
  · rw [if_pos k3801] at hw
    subst hw
    refine lv_if_ne (tgt := 10) hx hb dX11_shelf_4 (by decide) (fun c3802 => ?_) (fun c3802 => ?_)
    · exact absurd c3802 (by decide)
    · refine lv_bipush (v := (-2)) hx hb dX11_shelf_7 (by decide) ?_
      have hP9 := hP.sub (ws' := []) [] rfl
      have hD9 := hD.sub (ws' := []) [] (by decide) rfl
      subst hAe
      exact W.iret (v := (-2)) hx hb hr (fun t ht hW => ⟨⟨_, (), rfl, by rw [if_pos k3801], by rw [ht]; exact hP9, hD9⟩, hS.F ht⟩) hS.2.2 dX11_shelf_9
  · rw [if_neg k3801] at hw
    by_cases k3803 : (4 : Int32) ≤ x0
    · rw [if_pos k3803] at hw
      subst hw
      refine lv_if_ne (tgt := 10) hx hb dX11_shelf_4 (by decide) (fun c3804 => ?_) (fun c3804 => ?_)
      · exact absurd c3804 (by decide)
      · refine lv_bipush (v := (-2)) hx hb dX11_shelf_7 (by decide) ?_
        have hP9 := hP.sub (ws' := []) [] rfl
        have hD9 := hD.sub (ws' := []) [] (by decide) rfl
        subst hAe
        exact W.iret (v := (-2)) hx hb hr (fun t ht hW => ⟨⟨_, (), rfl, by rw [if_neg k3801, if_pos k3803], by rw [ht]; exact hP9, hD9⟩, hS.F ht⟩) hS.2.2 dX11_shelf_9
    · rw [if_neg k3803] at hw
      subst hw
      refine lv_if_ne (tgt := 10) hx hb dX11_shelf_4 (by decide) (fun c3805 => ?_) (fun c3805 => ?_)
      · refine lv_iload_n hx hb dX11_shelf_10 rfl (lv_at hl 2 rfl) ?_
        by_cases k3806 : x1 = 0
        · subst k3806
          refine lv_tableIn (tgt := 48) (off := 37) hx hb dX11_shelf_11 (by decide) (by decide) rfl (by decide) ?_
          refine lv_aload_n hx hb dX11_shelf_48 rfl (lv_at hl 0 rfl) ?_
          refine lv_iload_n hx hb dX11_shelf_49 rfl (lv_at hl 1 rfl) ?_
          refine lv_iload_n hx hb dX11_shelf_50 rfl (lv_at hl 3 rfl) ?_
          have hPc := hP.sub (ws' := [(h0, .inr (11, [.ref h1, .ref h2, .ref h3, .ref h4, .ref h5, .ref h6, .ref h7, .int 0, .int 0, .ref h8, .ref h9, .ref h10, .ref h11, .ref h12, .ref h13, .ref h14])), (h1, .inr (2, [.ref h15, .int 0, .int 0]))]) [0, 1] rfl
          refine lz_sv (As := [.int x0, .int x2]) (rest := []) ⟨hx, hb, hml, hown, hts⟩ (c_X11_shelvePoint_0 l D cI cS h0 h1 h2 h3 h4 h5 h6 h7 h8 h9 h10 h11 h12 h13 h14 h15 x0 x2) hKK hPc (ci := 11) rfl rfl (cwV 2 hts gX11_shelf_X11_shelvePoint rfl rfl rfl (by decide +kernel) ⟨Nat.le_of_ble_eq_true rfl, Nat.le_of_ble_eq_true rfl⟩) rfl hl.1 rfl (Nat.le_of_ble_eq_true rfl) dX11_shelf_51 ⟨Nat.le_of_ble_eq_true rfl, Nat.le_of_ble_eq_true rfl⟩ (fun r3807 hw => ?_)
          subst hw
          have hP9 := hP.sub (ws' := []) [] rfl
          have hD9 := hD.sub (ws' := []) [] (by decide) rfl
          subst hAe
          exact W.iret (v := (-2)) hx hb hr (fun t ht hW => ⟨⟨_, (), rfl, by rw [if_neg k3801, if_neg k3803, if_pos rfl], by rw [ht]; exact hP9, hD9⟩, hS.F ht⟩) hS.2.2 dX11_shelf_54
        · by_cases k3808 : x1 = 1
          · subst k3808
            refine lv_tableIn (tgt := 55) (off := 44) hx hb dX11_shelf_11 (by decide) (by decide) rfl (by decide) ?_
            refine lv_aload_n hx hb dX11_shelf_55 rfl (lv_at hl 0 rfl) ?_
            refine lv_iload_n hx hb dX11_shelf_56 rfl (lv_at hl 1 rfl) ?_
            refine lv_iconst (v := 4) hx hb dX11_shelf_57 (by decide) ?_
            refine lv_iconst (v := 0) hx hb dX11_shelf_58 (by decide) ?_
            refine lv_iload_n hx hb dX11_shelf_59 rfl (lv_at hl 3 rfl) ?_
            have hPc := hP.sub (ws' := [(h0, .inr (11, [.ref h1, .ref h2, .ref h3, .ref h4, .ref h5, .ref h6, .ref h7, .int 0, .int 0, .ref h8, .ref h9, .ref h10, .ref h11, .ref h12, .ref h13, .ref h14])), (h1, .inr (2, [.ref h15, .int 0, .int 0])), (h2, .inr (3, [.ref h1, .ref h16, .ref h17, .int 0])), (h3, .inr (4, [.ref h1, .ref h2]))]) [0, 1, 2, 3] rfl
            refine lz_sv (As := [.int x0, .int 4, .int 0, .int x2]) (rest := []) ⟨hx, hb, hml, hown, hts⟩ (c_X11_shelvePiece_0 l D cI cS h0 h1 h2 h3 h4 h5 h6 h7 h8 h9 h10 h11 h12 h13 h14 h15 h16 h17 x0 x2) hKK hPc (ci := 11) rfl rfl (cwV 4 hts gX11_shelf_X11_shelvePiece rfl rfl rfl (by decide +kernel) ⟨Nat.le_of_ble_eq_true rfl, Nat.le_of_ble_eq_true rfl⟩) rfl hl.1 rfl (Nat.le_of_ble_eq_true rfl) dX11_shelf_60 ⟨Nat.le_of_ble_eq_true rfl, Nat.le_of_ble_eq_true rfl⟩ (fun r3809 hw => ?_)
            subst hw
            have hP9 := hP.sub (ws' := []) [] rfl
            have hD9 := hD.sub (ws' := []) [] (by decide) rfl
            subst hAe
            exact W.iret (v := (-2)) hx hb hr (fun t ht hW => ⟨⟨_, (), rfl, by rw [if_neg k3801, if_neg k3803, if_neg k3806, if_pos rfl], by rw [ht]; exact hP9, hD9⟩, hS.F ht⟩) hS.2.2 dX11_shelf_63
          · by_cases k3810 : x1 = 2
            · subst k3810
              refine lv_tableIn (tgt := 64) (off := 53) hx hb dX11_shelf_11 (by decide) (by decide) rfl (by decide) ?_
              refine lv_aload_n hx hb dX11_shelf_64 rfl (lv_at hl 0 rfl) ?_
              refine lv_iload_n hx hb dX11_shelf_65 rfl (lv_at hl 1 rfl) ?_
              refine lv_iconst (v := 5) hx hb dX11_shelf_66 (by decide) ?_
              refine lv_iconst (v := 2) hx hb dX11_shelf_67 (by decide) ?_
              refine lv_iload_n hx hb dX11_shelf_68 rfl (lv_at hl 3 rfl) ?_
              have hPc := hP.sub (ws' := [(h0, .inr (11, [.ref h1, .ref h2, .ref h3, .ref h4, .ref h5, .ref h6, .ref h7, .int 0, .int 0, .ref h8, .ref h9, .ref h10, .ref h11, .ref h12, .ref h13, .ref h14])), (h1, .inr (2, [.ref h15, .int 0, .int 0])), (h2, .inr (3, [.ref h1, .ref h16, .ref h17, .int 0])), (h3, .inr (4, [.ref h1, .ref h2]))]) [0, 1, 2, 3] rfl
              refine lz_sv (As := [.int x0, .int 5, .int 2, .int x2]) (rest := []) ⟨hx, hb, hml, hown, hts⟩ (c_X11_shelvePiece_1 l D cI cS h0 h1 h2 h3 h4 h5 h6 h7 h8 h9 h10 h11 h12 h13 h14 h15 h16 h17 x0 x2) hKK hPc (ci := 11) rfl rfl (cwV 4 hts gX11_shelf_X11_shelvePiece rfl rfl rfl (by decide +kernel) ⟨Nat.le_of_ble_eq_true rfl, Nat.le_of_ble_eq_true rfl⟩) rfl hl.1 rfl (Nat.le_of_ble_eq_true rfl) dX11_shelf_69 ⟨Nat.le_of_ble_eq_true rfl, Nat.le_of_ble_eq_true rfl⟩ (fun r3811 hw => ?_)
              subst hw
              have hP9 := hP.sub (ws' := []) [] rfl
              have hD9 := hD.sub (ws' := []) [] (by decide) rfl
              subst hAe
              exact W.iret (v := (-2)) hx hb hr (fun t ht hW => ⟨⟨_, (), rfl, by rw [if_neg k3801, if_neg k3803, if_neg k3806, if_neg k3808, if_pos rfl], by rw [ht]; exact hP9, hD9⟩, hS.F ht⟩) hS.2.2 dX11_shelf_72
            · by_cases k3812 : x1 = 3
              · subst k3812
                refine lv_tableIn (tgt := 73) (off := 62) hx hb dX11_shelf_11 (by decide) (by decide) rfl (by decide) ?_
                refine lv_aload_n hx hb dX11_shelf_73 rfl (lv_at hl 0 rfl) ?_
                refine lv_iload_n hx hb dX11_shelf_74 rfl (lv_at hl 1 rfl) ?_
                refine lv_iload_n hx hb dX11_shelf_75 rfl (lv_at hl 3 rfl) ?_
                have hPc := hP.sub (ws' := [(h0, .inr (11, [.ref h1, .ref h2, .ref h3, .ref h4, .ref h5, .ref h6, .ref h7, .int 0, .int 0, .ref h8, .ref h9, .ref h10, .ref h11, .ref h12, .ref h13, .ref h14])), (h1, .inr (2, [.ref h15, .int 0, .int 0])), (h14, .inr (7, [.ref h35, .ref h36])), (h35, .inl (cI, 4, .inl (fun _ => -1))), (h36, .inl (cI, 4, .inl (fun _ => 0)))]) [0, 1, 5, 10, 11] rfl
                have hDc := hD.sub (ws' := [(h0, .inr (11, [.ref h1, .ref h2, .ref h3, .ref h4, .ref h5, .ref h6, .ref h7, .int 0, .int 0, .ref h8, .ref h9, .ref h10, .ref h11, .ref h12, .ref h13, .ref h14])), (h1, .inr (2, [.ref h15, .int 0, .int 0])), (h14, .inr (7, [.ref h35, .ref h36])), (h35, .inl (cI, 4, .inl (fun _ => -1))), (h36, .inl (cI, 4, .inl (fun _ => 0)))]) [0, 1, 5, 10, 11] (by decide) rfl
                refine lz_qi (wr := [(h2, .inr (3, [.ref h1, .ref h16, .ref h17, .int 0])), (h3, .inr (4, [.ref h1, .ref h2])), (h11, .inl (cS, 4, .inr (.inr (.inr (.inr (fun k => [h25, h26, h27, h28][k]?)))))), (h25, .inr (6, [.ref h41, .int (-1), .int 0])), (h26, .inr (6, [.ref h42, .int (-1), .int 0])), (h27, .inr (6, [.ref h43, .int (-1), .int 0])), (h28, .inr (6, [.ref h44, .int (-1), .int 0]))]) (w1 := []) (As := [.int x0, .int x2]) (rest := []) ⟨hx, hb, hml, hown, hts⟩ (c_X11_shelveArea_0 l D cI cS _ h0 h1 h2 h3 h4 h5 h6 h7 h8 h9 h10 h11 h12 h13 h14 h15 h35 h36 x0 x2) hKK hP hD hS hA [0, 1, 5, 10, 11] [2, 3, 4, 6, 7, 8, 9] (by decide) rfl rfl (by decide) (by decide) hPc hDc (ci := 11) rfl rfl (cwV 2 hts gX11_shelf_X11_shelveArea rfl rfl rfl (by decide +kernel) ⟨Nat.le_of_ble_eq_true rfl, Nat.le_of_ble_eq_true rfl⟩) rfl hl.1 rfl (Nat.le_of_ble_eq_true rfl) dX11_shelf_76 ⟨Nat.le_of_ble_eq_true rfl, Nat.le_of_ble_eq_true rfl⟩ (fun r3813 H locs hw hP hD hS => ?_)
                have hP : va_P D cls [(h2, .inr (3, [.ref h1, .ref h16, .ref h17, .int 0])), (h3, .inr (4, [.ref h1, .ref h2])), (h11, .inl (cS, 4, .inr (.inr (.inr (.inr (fun k => [h25, h26, h27, h28][k]?)))))), (h25, .inr (6, [.ref h41, .int (-1), .int 0])), (h26, .inr (6, [.ref h42, .int (-1), .int 0])), (h27, .inr (6, [.ref h43, .int (-1), .int 0])), (h28, .inr (6, [.ref h44, .int (-1), .int 0]))] H := hP
                have hD : va_D A [(h2, .inr (3, [.ref h1, .ref h16, .ref h17, .int 0])), (h3, .inr (4, [.ref h1, .ref h2])), (h11, .inl (cS, 4, .inr (.inr (.inr (.inr (fun k => [h25, h26, h27, h28][k]?)))))), (h25, .inr (6, [.ref h41, .int (-1), .int 0])), (h26, .inr (6, [.ref h42, .int (-1), .int 0])), (h27, .inr (6, [.ref h43, .int (-1), .int 0])), (h28, .inr (6, [.ref h44, .int (-1), .int 0]))] := hD
                by_cases k3814 : x2 = 0
                · rw [if_pos k3814] at hw
                  subst k3814
                  rw [if_neg k3801] at hw
                  rw [if_neg k3803] at hw
                  subst hw
                  have hP9 := hP.sub (ws' := []) [] rfl
                  have hD9 := hD.sub (ws' := []) [] (by decide) rfl
                  subst hAe
                  exact W.iret (v := 1) hx hb hr (fun t ht hW => ⟨⟨_, (), rfl, by rw [if_neg k3801, if_neg k3803, if_neg k3806, if_neg k3808, if_neg k3810, if_pos rfl, if_pos rfl], by rw [ht]; exact hP9, hD9⟩, hS.F ht⟩) hS.2.2 dX11_shelf_79
                · rw [if_neg k3814] at hw
                  subst hw
                  have hP9 := hP.sub (ws' := []) [] rfl
                  have hD9 := hD.sub (ws' := []) [] (by decide) rfl
                  subst hAe
                  exact W.iret (v := (-2)) hx hb hr (fun t ht hW => ⟨⟨_, (), rfl, by rw [if_neg k3801, if_neg k3803, if_neg k3806, if_neg k3808, if_neg k3810, if_pos rfl, if_neg k3814], by rw [ht]; exact hP9, hD9⟩, hS.F ht⟩) hS.2.2 dX11_shelf_79
              · by_cases k3815 : x1 = 4
                · subst k3815
                  refine lv_tableIn (tgt := 80) (off := 69) hx hb dX11_shelf_11 (by decide) (by decide) rfl (by decide) ?_
                  refine lv_aload_n hx hb dX11_shelf_80 rfl (lv_at hl 0 rfl) ?_
                  refine lv_iload_n hx hb dX11_shelf_81 rfl (lv_at hl 1 rfl) ?_
                  refine lv_iload_n hx hb dX11_shelf_82 rfl (lv_at hl 3 rfl) ?_
                  have hPc := hP.sub (ws' := [(h0, .inr (11, [.ref h1, .ref h2, .ref h3, .ref h4, .ref h5, .ref h6, .ref h7, .int 0, .int 0, .ref h8, .ref h9, .ref h10, .ref h11, .ref h12, .ref h13, .ref h14])), (h11, .inl (cS, 4, .inr (.inr (.inr (.inr (fun k => [h25, h26, h27, h28][k]?)))))), (h25, .inr (6, [.ref h41, .int (-1), .int 0])), (h26, .inr (6, [.ref h42, .int (-1), .int 0])), (h27, .inr (6, [.ref h43, .int (-1), .int 0])), (h28, .inr (6, [.ref h44, .int (-1), .int 0]))]) [0, 4, 6, 7, 8, 9] rfl
                  refine lz_sv (As := [.int x0, .int x2]) (rest := []) ⟨hx, hb, hml, hown, hts⟩ (c_X11_shelveRow_0 l D cI cS h0 h1 h2 h3 h4 h5 h6 h7 h8 h9 h10 h11 h12 h13 h14 h25 h26 h27 h28 h41 h42 h43 h44 x0 x2) hKK hPc (ci := 11) rfl rfl (cwV 2 hts gX11_shelf_X11_shelveRow rfl rfl rfl (by decide +kernel) ⟨Nat.le_of_ble_eq_true rfl, Nat.le_of_ble_eq_true rfl⟩) rfl hl.1 rfl (Nat.le_of_ble_eq_true rfl) dX11_shelf_83 ⟨Nat.le_of_ble_eq_true rfl, Nat.le_of_ble_eq_true rfl⟩ (fun r3816 hw => ?_)
                  by_cases k3817 : x2 < 0
                  · rw [if_pos k3817] at hw
                    subst hw
                    have hP9 := hP.sub (ws' := []) [] rfl
                    have hD9 := hD.sub (ws' := []) [] (by decide) rfl
                    subst hAe
                    exact W.iret (v := (-2)) hx hb hr (fun t ht hW => ⟨⟨_, (), rfl, by rw [if_neg k3801, if_neg k3803, if_neg k3806, if_neg k3808, if_neg k3810, if_neg k3812, if_pos rfl, if_pos k3817], by rw [ht]; exact hP9, hD9⟩, hS.F ht⟩) hS.2.2 dX11_shelf_86
                  · rw [if_neg k3817] at hw
                    by_cases k3818 : (4 : Int32) ≤ x2
                    · rw [if_pos k3818] at hw
                      subst hw
                      have hP9 := hP.sub (ws' := []) [] rfl
                      have hD9 := hD.sub (ws' := []) [] (by decide) rfl
                      subst hAe
                      exact W.iret (v := (-2)) hx hb hr (fun t ht hW => ⟨⟨_, (), rfl, by rw [if_neg k3801, if_neg k3803, if_neg k3806, if_neg k3808, if_neg k3810, if_neg k3812, if_pos rfl, if_neg k3817, if_pos k3818], by rw [ht]; exact hP9, hD9⟩, hS.F ht⟩) hS.2.2 dX11_shelf_86
                    · rw [if_neg k3818] at hw
                      subst hw
                      have hP9 := hP.sub (ws' := []) [] rfl
                      have hD9 := hD.sub (ws' := []) [] (by decide) rfl
                      subst hAe
                      exact W.iret (v := (-11)) hx hb hr (fun t ht hW => ⟨⟨_, (), rfl, by rw [if_neg k3801, if_neg k3803, if_neg k3806, if_neg k3808, if_neg k3810, if_neg k3812, if_pos rfl, if_neg k3817, if_neg k3818], by rw [ht]; exact hP9, hD9⟩, hS.F ht⟩) hS.2.2 dX11_shelf_86
                · by_cases k3819 : x1 = 5
                  · subst k3819
                    refine lv_tableIn (tgt := 87) (off := 76) hx hb dX11_shelf_11 (by decide) (by decide) rfl (by decide) ?_
                    refine lv_aload_n hx hb dX11_shelf_87 rfl (lv_at hl 0 rfl) ?_
                    refine va_get (D := D) (ci := 11) (v := .ref h14) (C := RX11) (T := TX11) (N := 16) hx hb hts hin11 hown hK hP 0 rfl rfl 15 (by decide) (hts (.fieldLink RX11 92 "MissedPoints" "shelves" "LMissedPoints$Shelves;") (by decide +kernel)) (fun _ h9 => h9) rfl dX11_shelf_88 ?_
                    refine lv_iload_n hx hb dX11_shelf_91 rfl (lv_at hl 1 rfl) ?_
                    refine lv_iconst (v := (-1)) hx hb dX11_shelf_92 (by decide) ?_
                    refine lv_iconst (v := 0) hx hb dX11_shelf_93 (by decide) ?_
                    have hPc := hP.sub (ws' := [(h14, .inr (7, [.ref h35, .ref h36])), (h35, .inl (cI, 4, .inl (fun _ => -1))), (h36, .inl (cI, 4, .inl (fun _ => 0)))]) [5, 10, 11] rfl
                    have hDc := hD.sub (ws' := [(h14, .inr (7, [.ref h35, .ref h36])), (h35, .inl (cI, 4, .inl (fun _ => -1))), (h36, .inl (cI, 4, .inl (fun _ => 0)))]) [5, 10, 11] (by decide) rfl
                    refine lz_qi (wr := [(h0, .inr (11, [.ref h1, .ref h2, .ref h3, .ref h4, .ref h5, .ref h6, .ref h7, .int 0, .int 0, .ref h8, .ref h9, .ref h10, .ref h11, .ref h12, .ref h13, .ref h14])), (h1, .inr (2, [.ref h15, .int 0, .int 0])), (h2, .inr (3, [.ref h1, .ref h16, .ref h17, .int 0])), (h3, .inr (4, [.ref h1, .ref h2])), (h11, .inl (cS, 4, .inr (.inr (.inr (.inr (fun k => [h25, h26, h27, h28][k]?)))))), (h25, .inr (6, [.ref h41, .int (-1), .int 0])), (h26, .inr (6, [.ref h42, .int (-1), .int 0])), (h27, .inr (6, [.ref h43, .int (-1), .int 0])), (h28, .inr (6, [.ref h44, .int (-1), .int 0]))]) (w1 := [(h14, .inr (7, [.ref h35, .ref h36])), (h35, .inl (cI, 4, .inl (fun _ => -1))), (h36, .inl (cI, 4, .inl (fun _ => 0)))]) (As := [.int x0, .int (-1), .int 0]) (rest := []) ⟨hx, hb, hml, hown, hts⟩ (c_X7_put_1 l D cI cS _ h14 h35 h36 x0) hKK hP hD hS hA [5, 10, 11] [0, 1, 2, 3, 4, 6, 7, 8, 9] (by decide) rfl rfl (by decide) (by decide) hPc hDc (ci := 7) rfl rfl (cwV 3 hts gX11_shelf_X7_put rfl rfl rfl (by decide +kernel) ⟨Nat.le_of_ble_eq_true rfl, Nat.le_of_ble_eq_true rfl⟩) rfl hl.1 rfl (Nat.le_of_ble_eq_true rfl) dX11_shelf_94 ⟨Nat.le_of_ble_eq_true rfl, Nat.le_of_ble_eq_true rfl⟩ (fun r3820 H locs hw hP hD hS => ?_)
                    have hP : va_P D cls [(h0, .inr (11, [.ref h1, .ref h2, .ref h3, .ref h4, .ref h5, .ref h6, .ref h7, .int 0, .int 0, .ref h8, .ref h9, .ref h10, .ref h11, .ref h12, .ref h13, .ref h14])), (h1, .inr (2, [.ref h15, .int 0, .int 0])), (h2, .inr (3, [.ref h1, .ref h16, .ref h17, .int 0])), (h3, .inr (4, [.ref h1, .ref h2])), (h11, .inl (cS, 4, .inr (.inr (.inr (.inr (fun k => [h25, h26, h27, h28][k]?)))))), (h25, .inr (6, [.ref h41, .int (-1), .int 0])), (h26, .inr (6, [.ref h42, .int (-1), .int 0])), (h27, .inr (6, [.ref h43, .int (-1), .int 0])), (h28, .inr (6, [.ref h44, .int (-1), .int 0])), (h14, .inr (7, [.ref h35, .ref h36])), (h35, .inl (cI, 4, .inl (fun _ => -1))), (h36, .inl (cI, 4, .inl (fun _ => 0)))] H := hP
                    have hD : va_D A [(h0, .inr (11, [.ref h1, .ref h2, .ref h3, .ref h4, .ref h5, .ref h6, .ref h7, .int 0, .int 0, .ref h8, .ref h9, .ref h10, .ref h11, .ref h12, .ref h13, .ref h14])), (h1, .inr (2, [.ref h15, .int 0, .int 0])), (h2, .inr (3, [.ref h1, .ref h16, .ref h17, .int 0])), (h3, .inr (4, [.ref h1, .ref h2])), (h11, .inl (cS, 4, .inr (.inr (.inr (.inr (fun k => [h25, h26, h27, h28][k]?)))))), (h25, .inr (6, [.ref h41, .int (-1), .int 0])), (h26, .inr (6, [.ref h42, .int (-1), .int 0])), (h27, .inr (6, [.ref h43, .int (-1), .int 0])), (h28, .inr (6, [.ref h44, .int (-1), .int 0])), (h14, .inr (7, [.ref h35, .ref h36])), (h35, .inl (cI, 4, .inl (fun _ => -1))), (h36, .inl (cI, 4, .inl (fun _ => 0)))] := hD
                    rw [if_neg k3801] at hw
                    rw [if_neg k3803] at hw
                    subst hw
                    have hP9 := hP.sub (ws' := []) [] rfl
                    have hD9 := hD.sub (ws' := []) [] (by decide) rfl
                    subst hAe
                    exact W.iret (v := 1) hx hb hr (fun t ht hW => ⟨⟨_, (), rfl, by rw [if_neg k3801, if_neg k3803, if_neg k3806, if_neg k3808, if_neg k3810, if_neg k3812, if_neg k3815, if_pos rfl], by rw [ht]; exact hP9, hD9⟩, hS.F ht⟩) hS.2.2 dX11_shelf_97
                  · refine lv_tableOut (tgt := 98) hx hb dX11_shelf_11 (by have zf1 := mt (lz_lt x0 (0 : Int32)).mpr k3801; have zf2 := mt (lz_le (4 : Int32) x0).mpr k3803; have zf3 := mt (lz_eq x1 (0 : Int32)).mpr k3806; have zf4 := mt (lz_eq x1 (1 : Int32)).mpr k3808; have zf5 := mt (lz_eq x1 (2 : Int32)).mpr k3810; have zf6 := mt (lz_eq x1 (3 : Int32)).mpr k3812; have zf7 := mt (lz_eq x1 (4 : Int32)).mpr k3815; have zf8 := mt (lz_eq x1 (5 : Int32)).mpr k3819; have zn0 : (0 : Int32).toInt = 0 := (by decide); have zn1 : (1 : Int32).toInt = 1 := (by decide); have zn2 : (2 : Int32).toInt = 2 := (by decide); have zn3 : (3 : Int32).toInt = 3 := (by decide); have zn4 : (4 : Int32).toInt = 4 := (by decide); have zn5 : (5 : Int32).toInt = 5 := (by decide); omega) (by decide) ?_
                    refine lv_bipush (v := (-2)) hx hb dX11_shelf_98 (by decide) ?_
                    have hP9 := hP.sub (ws' := []) [] rfl
                    have hD9 := hD.sub (ws' := []) [] (by decide) rfl
                    subst hAe
                    exact W.iret (v := (-2)) hx hb hr (fun t ht hW => ⟨⟨_, (), rfl, by rw [if_neg k3801, if_neg k3803, if_neg k3806, if_neg k3808, if_neg k3810, if_neg k3812, if_neg k3815, if_neg k3819], by rw [ht]; exact hP9, hD9⟩, hS.F ht⟩) hS.2.2 dX11_shelf_100
      · exact absurd c3805 (by decide)
set_option maxHeartbeats 4000000 in
set_option maxRecDepth 100000 in
theorem c_X11_isKind_0 (l : Launch) (D : va_G) (cI cS : ClassId) (x0 : Int32) : Met l yX11_isKind wsX11_isKind ({ frames := 0, cells := 0, slots := 0, locals := 0 }) (PS D cI cS [] [.int x0]) (vp_Si (fun r => r = if x0 < 0 then (0 : Int32) else (if (6 : Int32) ≤ x0 then (0 : Int32) else (1 : Int32)))) 0 0 (fun _ => False) := by
  refine Met.ofW (cc := cX11_isKind) (maxL := 1) (ret := (some .boolean)) (by decide) rfl ?_
  intro p e s m args below meth c s₁ B hml hv
  obtain ⟨rfl, hP, hKK⟩ := hv
  have hx := B.exec
  have hb := B.bytes
  have hr := B.returns
  have hts := atoms_spec (ws := wsX11_isKind) B.pre
  have hown : s.vm.findClass RX11 = some m.cls := findClass_of_methodNamed B.named
  have hlocks := B.notSynchronized
  have hK := hKK.1
  have hN := hKK.2
  have hl := lv_entry ([.int x0]) (n := 1) (Nat.le_of_ble_eq_true rfl)
  rw [lg_entry_eq]
  generalize (lg_sl ([.int x0]) ++ List.replicate (1 - (lg_sl ([.int x0])).length) Slot.unset).toArray = ls at hl ⊢
  have hl : lv_has ls 1 [(0, .int x0)] := hl
  refine lv_iload_n hx hb dX11_isKind_0 rfl (lv_at hl 0 rfl) ?_
  refine lv_if_lt (tgt := 14) hx hb dX11_isKind_1 (by decide) (fun c3823 => ?_) (fun c3823 => ?_)
  · refine lv_iconst (v := 0) hx hb dX11_isKind_14 (by decide) ?_
    exact W.zret (v := 0) hx hb hr (by decide) (fun t ht hW => ⟨_, rfl, by rw [if_pos c3823], ht⟩) (fun q hq => absurd hq List.not_mem_nil) dX11_isKind_15
  · refine lv_iload_n hx hb dX11_isKind_4 rfl (lv_at hl 0 rfl) ?_
    refine lv_bipush (v := 6) hx hb dX11_isKind_5 (by decide) ?_
    refine lv_icmp_ge (tgt := 14) hx hb dX11_isKind_7 (by decide) (fun c3824 => ?_) (fun c3824 => ?_)
    · refine lv_iconst (v := 0) hx hb dX11_isKind_14 (by decide) ?_
      exact W.zret (v := 0) hx hb hr (by decide) (fun t ht hW => ⟨_, rfl, by rw [if_neg c3823, if_pos c3824], ht⟩) (fun q hq => absurd hq List.not_mem_nil) dX11_isKind_15
    · refine lv_iconst (v := 1) hx hb dX11_isKind_10 (by decide) ?_
      refine lv_goto (tgt := 15) hx hb dX11_isKind_11 (by decide) ?_
      exact W.zret (v := 1) hx hb hr (by decide) (fun t ht hW => ⟨_, rfl, by rw [if_neg c3823, if_neg c3824], ht⟩) (fun q hq => absurd hq List.not_mem_nil) dX11_isKind_15
set_option maxHeartbeats 4000000 in
set_option maxRecDepth 100000 in
theorem c_X7_isEmpty_0 (l : Launch) (D : va_G) (cI cS : ClassId) (h0 h1 h2 : Nat) (x0 : Int32) : Met l yX7_isEmpty wsX7_isEmpty ({ frames := 1, cells := 0, slots := 0, locals := 40 }) (PS D cI cS [(h0, .inr (7, [.ref h1, .ref h2])), (h1, .inl (cI, 4, .inl (fun _ => -1)))] [.ref h0, .int x0]) (vp_Si (fun r => r = (1 : Int32))) 0 0 (fun _ => False) := by
  refine Met.ofW (cc := cX7_isEmpty) (maxL := 2) (ret := (some .boolean)) (by decide) rfl ?_
  intro p e s m args below meth c s₁ B hml hv
  obtain ⟨rfl, hP, hKK⟩ := hv
  have hx := B.exec
  have hb := B.bytes
  have hr := B.returns
  have hts := atoms_spec (ws := wsX7_isEmpty) B.pre
  have hown : s.vm.findClass RX7 = some m.cls := findClass_of_methodNamed B.named
  have hlocks := B.notSynchronized
  have hK := hKK.1
  have hN := hKK.2
  have hin7 : ∀ w ∈ wsX70, w ∈ wsX7_isEmpty := by decide +kernel
  have hl := lv_entry ([.ref h0, .int x0]) (n := 2) (Nat.le_of_ble_eq_true rfl)
  rw [lg_entry_eq]
  generalize (lg_sl ([.ref h0, .int x0]) ++ List.replicate (2 - (lg_sl ([.ref h0, .int x0])).length) Slot.unset).toArray = ls at hl ⊢
  have hl : lv_has ls 2 [(0, .ref h0), (1, .int x0)] := hl
  refine lv_iload_n hx hb dX7_isEmpty_0 rfl (lv_at hl 1 rfl) ?_
  have hPc := hP.sub (ws' := []) [] rfl
  refine lz_sn (As := [.int x0]) (rest := []) ⟨hx, hb, hml, hown, hts⟩ (c_X11_isShelf_0 l D cI cS x0) hKK hPc ⟨va_cnB 1 hts gX7_isEmpty_X11_isShelf_n18 rfl rfl rfl hN.2.2.2.2.2.2.2.2.2.2.2.2.2.2.2.2.2.2.2.2.2.2.2.1 (hts (.initialized RX11) (by decide +kernel)) (by decide +kernel) ⟨Nat.le_of_ble_eq_true rfl, Nat.le_of_ble_eq_true rfl⟩, (hts (.static yX11_isShelf) (by decide +kernel)), trivial⟩ rfl hl.1 rfl (Nat.le_of_ble_eq_true rfl) dX7_isEmpty_1 ⟨Nat.le_of_ble_eq_true rfl, Nat.le_of_ble_eq_true rfl⟩ (fun r3844 hw => ?_)
  by_cases k3845 : x0 < 0
  · rw [if_pos k3845] at hw
    subst hw
    refine lv_if_eq (tgt := 17) hx hb dX7_isEmpty_4 (by decide) (fun c3846 => ?_) (fun c3846 => ?_)
    · refine lv_iconst (v := 1) hx hb dX7_isEmpty_17 (by decide) ?_
      refine lv_goto (tgt := 22) hx hb dX7_isEmpty_18 (by decide) ?_
      exact W.zret (v := 1) hx hb hr (by decide) (fun t ht hW => ⟨_, rfl, rfl, ht⟩) (fun q hq => absurd hq List.not_mem_nil) dX7_isEmpty_22
    · exact absurd c3846 (by decide)
  · rw [if_neg k3845] at hw
    by_cases k3847 : (4 : Int32) ≤ x0
    · rw [if_pos k3847] at hw
      subst hw
      refine lv_if_eq (tgt := 17) hx hb dX7_isEmpty_4 (by decide) (fun c3848 => ?_) (fun c3848 => ?_)
      · refine lv_iconst (v := 1) hx hb dX7_isEmpty_17 (by decide) ?_
        refine lv_goto (tgt := 22) hx hb dX7_isEmpty_18 (by decide) ?_
        exact W.zret (v := 1) hx hb hr (by decide) (fun t ht hW => ⟨_, rfl, rfl, ht⟩) (fun q hq => absurd hq List.not_mem_nil) dX7_isEmpty_22
      · exact absurd c3848 (by decide)
    · rw [if_neg k3847] at hw
      subst hw
      refine lv_if_eq (tgt := 17) hx hb dX7_isEmpty_4 (by decide) (fun c3849 => ?_) (fun c3849 => ?_)
      · exact absurd c3849 (by decide)
      · refine lv_aload_n hx hb dX7_isEmpty_7 rfl (lv_at hl 0 rfl) ?_
        refine va_get (D := D) (ci := 7) (v := .ref h1) (C := RX7) (T := TX7) (N := 2) hx hb hts hin7 hown hK hP 0 rfl rfl 0 (by decide) (hts (.fieldLink RX7 11 "MissedPoints$Shelves" "kinds" "[I") (by decide +kernel)) (fun _ h9 => h9) rfl dX7_isEmpty_8 ?_
        refine lv_iload_n hx hb dX7_isEmpty_11 rfl (lv_at hl 1 rfl) ?_
        refine va_iald hx hb hK hP 1 0 rfl rfl (lz_vp (x := x0) (n := 4) (by have zf1 := mt (lz_lt x0 (0 : Int32)).mpr k3845; have zf2 := mt (lz_le (4 : Int32) x0).mpr k3847; have zn0 : (0 : Int32).toInt = 0 := (by decide); have zn1 : (4 : Int32).toInt = 4 := (by decide); omega) (by have zf1 := mt (lz_lt x0 (0 : Int32)).mpr k3845; have zf2 := mt (lz_le (4 : Int32) x0).mpr k3847; have zn0 : (0 : Int32).toInt = 0 := (by decide); have zn1 : (4 : Int32).toInt = 4 := (by decide); omega)) dX7_isEmpty_12 ?_
        refine lz_top (y := (-1)) rfl ?_
        refine lv_iconst (v := (-1)) hx hb dX7_isEmpty_13 (by decide) ?_
        refine lv_icmp_ne (tgt := 21) hx hb dX7_isEmpty_14 (by decide) (fun c3850 => ?_) (fun c3850 => ?_)
        · exact absurd c3850 (by decide)
        · refine lv_iconst (v := 1) hx hb dX7_isEmpty_17 (by decide) ?_
          refine lv_goto (tgt := 22) hx hb dX7_isEmpty_18 (by decide) ?_
          exact W.zret (v := 1) hx hb hr (by decide) (fun t ht hW => ⟨_, rfl, rfl, ht⟩) (fun q hq => absurd hq List.not_mem_nil) dX7_isEmpty_22
set_option maxHeartbeats 4000000 in
set_option maxRecDepth 100000 in
theorem c_X11_taken_0 (l : Launch) (D : va_G) (cI cS : ClassId) (h0 h1 h2 h3 h4 h5 h6 h7 h8 h9 h10 h11 h12 h13 h14 h35 h36 : Nat) (x0 x1 : Int32) : Met l yX11_taken wsX11_taken ({ frames := 2, cells := 0, slots := 0, locals := 80 }) (PS D cI cS [(h0, .inr (11, [.ref h1, .ref h2, .ref h3, .ref h4, .ref h5, .ref h6, .ref h7, .int 0, .int 0, .ref h8, .ref h9, .ref h10, .ref h11, .ref h12, .ref h13, .ref h14])), (h14, .inr (7, [.ref h35, .ref h36])), (h35, .inl (cI, 4, .inl (fun _ => -1)))] [.ref h0, .int x0, .int x1]) (vp_Si (fun r => r = if x1 < 0 then (if x0 < 0 then ((-2) : Int32) else (if (4 : Int32) ≤ x0 then ((-2) : Int32) else (if (x1 - (10 : Int32)) = 0 then ((-11) : Int32) else (if (x1 - (10 : Int32)) = 1 then ((-11) : Int32) else ((-2) : Int32))))) else (if (6 : Int32) ≤ x1 then (if x0 < 0 then ((-2) : Int32) else (if (4 : Int32) ≤ x0 then ((-2) : Int32) else (if (x1 - (10 : Int32)) = 0 then ((-11) : Int32) else (if (x1 - (10 : Int32)) = 1 then ((-11) : Int32) else ((-2) : Int32))))) else (if x0 < 0 then ((-2) : Int32) else (if (4 : Int32) ≤ x0 then ((-2) : Int32) else ((-11) : Int32)))))) 0 0 (fun _ => False) := by
  refine Met.ofW (cc := cX11_taken) (maxL := 5) (ret := (some .int)) (by decide) rfl ?_
  intro p e s m args below meth c s₁ B hml hv
  obtain ⟨rfl, hP, hKK⟩ := hv
  have hx := B.exec
  have hb := B.bytes
  have hr := B.returns
  have hts := atoms_spec (ws := wsX11_taken) B.pre
  have hown : s.vm.findClass RX11 = some m.cls := findClass_of_methodNamed B.named
  have hlocks := B.notSynchronized
  have hK := hKK.1
  have hN := hKK.2
  have hin11 : ∀ w ∈ wsX110, w ∈ wsX11_taken := by decide +kernel
  have hl := lv_entry ([.ref h0, .int x0, .int x1]) (n := 5) (Nat.le_of_ble_eq_true rfl)
  rw [lg_entry_eq]
  generalize (lg_sl ([.ref h0, .int x0, .int x1]) ++ List.replicate (5 - (lg_sl ([.ref h0, .int x0, .int x1])).length) Slot.unset).toArray = ls at hl ⊢
  have hl : lv_has ls 5 [(0, .ref h0), (1, .int x0), (2, .int x1)] := hl
  refine lv_iload_n hx hb dX11_taken_0 rfl (lv_at hl 2 rfl) ?_
  have hPc := hP.sub (ws' := []) [] rfl
  refine lz_ss (As := [.int x1]) (rest := []) ⟨hx, hb, hml, hown, hts⟩ (c_X11_isKind_0 l D cI cS x1) hKK hPc (va_cwS 1 hts gX11_taken_X11_isKind rfl rfl rfl (by decide +kernel) ⟨Nat.le_of_ble_eq_true rfl, Nat.le_of_ble_eq_true rfl⟩) rfl hl.1 rfl (Nat.le_of_ble_eq_true rfl) dX11_taken_1 ⟨Nat.le_of_ble_eq_true rfl, Nat.le_of_ble_eq_true rfl⟩ (fun r3885 hw => ?_)
  by_cases k3886 : x1 < 0
  · rw [if_pos k3886] at hw
    subst hw
    refine lv_istore_n (lv' := [(3, .int 0), (0, .ref h0), (1, .int x0), (2, .int x1)]) hx hb dX11_taken_4 rfl hl (by decide) rfl (fun ls hl => ?_)
    refine lv_iload_n hx hb dX11_taken_5 rfl (lv_at hl 2 rfl) ?_
    have hPc := hP.sub (ws' := []) [] rfl
    refine lz_ss (As := [.int x0]) (rest := []) ⟨hx, hb, hml, hown, hts⟩ (c_X11_isShelf_0 l D cI cS x0) hKK hPc (va_cwS 1 hts gX11_taken_X11_isShelf rfl rfl rfl (by decide +kernel) ⟨Nat.le_of_ble_eq_true rfl, Nat.le_of_ble_eq_true rfl⟩) rfl hl.1 rfl (Nat.le_of_ble_eq_true rfl) dX11_taken_6 ⟨Nat.le_of_ble_eq_true rfl, Nat.le_of_ble_eq_true rfl⟩ (fun r3887 hw => ?_)
    by_cases k3888 : x0 < 0
    · rw [if_pos k3888] at hw
      subst hw
      refine lv_if_eq (tgt := 26) hx hb dX11_taken_9 (by decide) (fun c3889 => ?_) (fun c3889 => ?_)
      · refine lv_bipush (v := (-2)) hx hb dX11_taken_26 (by decide) ?_
        exact W.iret (v := (-2)) hx hb hr (fun t ht hW => ⟨_, rfl, by rw [if_pos k3886, if_pos k3888], ht⟩) (fun q hq => absurd hq List.not_mem_nil) dX11_taken_28
      · exact absurd c3889 (by decide)
    · rw [if_neg k3888] at hw
      by_cases k3890 : (4 : Int32) ≤ x0
      · rw [if_pos k3890] at hw
        subst hw
        refine lv_if_eq (tgt := 26) hx hb dX11_taken_9 (by decide) (fun c3891 => ?_) (fun c3891 => ?_)
        · refine lv_bipush (v := (-2)) hx hb dX11_taken_26 (by decide) ?_
          exact W.iret (v := (-2)) hx hb hr (fun t ht hW => ⟨_, rfl, by rw [if_pos k3886, if_neg k3888, if_pos k3890], ht⟩) (fun q hq => absurd hq List.not_mem_nil) dX11_taken_28
        · exact absurd c3891 (by decide)
      · rw [if_neg k3890] at hw
        subst hw
        refine lv_if_eq (tgt := 26) hx hb dX11_taken_9 (by decide) (fun c3892 => ?_) (fun c3892 => ?_)
        · exact absurd c3892 (by decide)
        · refine lv_iload_n hx hb dX11_taken_12 rfl (lv_at hl 0 rfl) ?_
          refine lv_if_ne (tgt := 29) hx hb dX11_taken_13 (by decide) (fun c3893 => ?_) (fun c3893 => ?_)
          · exact absurd c3893 (by decide)
          · refine lv_iload_n hx hb dX11_taken_16 rfl (lv_at hl 3 rfl) ?_
            refine lv_bipush (v := 10) hx hb dX11_taken_17 (by decide) ?_
            refine lv_isub hx hb dX11_taken_19 ?_
            have hPc := hP.sub (ws' := []) [] rfl
            refine lz_ss (As := [.int (x1 - (10 : Int32))]) (rest := []) ⟨hx, hb, hml, hown, hts⟩ (c_X11_isSort_0 l D cI cS (x1 - (10 : Int32))) hKK hPc (va_cwS 1 hts gX11_taken_X11_isSort rfl rfl rfl (by decide +kernel) ⟨Nat.le_of_ble_eq_true rfl, Nat.le_of_ble_eq_true rfl⟩) rfl hl.1 rfl (Nat.le_of_ble_eq_true rfl) dX11_taken_20 ⟨Nat.le_of_ble_eq_true rfl, Nat.le_of_ble_eq_true rfl⟩ (fun r3894 hw => ?_)
            by_cases k3895 : (x1 - (10 : Int32)) = 0
            · rw [if_pos k3895] at hw
              subst hw
              refine lv_if_ne (tgt := 29) hx hb dX11_taken_23 (by decide) (fun c3896 => ?_) (fun c3896 => ?_)
              · refine lv_aload_n hx hb dX11_taken_29 rfl (lv_at hl 1 rfl) ?_
                refine va_get (D := D) (ci := 11) (v := .ref h14) (C := RX11) (T := TX11) (N := 16) hx hb hts hin11 hown hK hP 0 rfl rfl 15 (by decide) (hts (.fieldLink RX11 92 "MissedPoints" "shelves" "LMissedPoints$Shelves;") (by decide +kernel)) (fun _ h9 => h9) rfl dX11_taken_30 ?_
                refine lv_iload_n hx hb dX11_taken_33 rfl (lv_at hl 2 rfl) ?_
                have hPc := hP.sub (ws' := [(h14, .inr (7, [.ref h35, .ref h36])), (h35, .inl (cI, 4, .inl (fun _ => -1)))]) [1, 2] rfl
                refine lz_sv (As := [.int x0]) (rest := []) ⟨hx, hb, hml, hown, hts⟩ (c_X7_isEmpty_0 l D cI cS h14 h35 h36 x0) hKK hPc (ci := 7) rfl rfl (cwV 1 hts gX11_taken_X7_isEmpty rfl rfl rfl (by decide +kernel) ⟨Nat.le_of_ble_eq_true rfl, Nat.le_of_ble_eq_true rfl⟩) rfl hl.1 rfl (Nat.le_of_ble_eq_true rfl) dX11_taken_34 ⟨Nat.le_of_ble_eq_true rfl, Nat.le_of_ble_eq_true rfl⟩ (fun r3897 hw => ?_)
                subst hw
                refine lv_if_eq (tgt := 43) hx hb dX11_taken_37 (by decide) (fun c3898 => ?_) (fun c3898 => ?_)
                · exact absurd c3898 (by decide)
                · refine lv_bipush (v := (-11)) hx hb dX11_taken_40 (by decide) ?_
                  exact W.iret (v := (-11)) hx hb hr (fun t ht hW => ⟨_, rfl, by rw [if_pos k3886, if_neg k3888, if_neg k3890, if_pos k3895], ht⟩) (fun q hq => absurd hq List.not_mem_nil) dX11_taken_42
              · exact absurd c3896 (by decide)
            · rw [if_neg k3895] at hw
              by_cases k3899 : (x1 - (10 : Int32)) = 1
              · rw [if_pos k3899] at hw
                subst hw
                refine lv_if_ne (tgt := 29) hx hb dX11_taken_23 (by decide) (fun c3900 => ?_) (fun c3900 => ?_)
                · refine lv_aload_n hx hb dX11_taken_29 rfl (lv_at hl 1 rfl) ?_
                  refine va_get (D := D) (ci := 11) (v := .ref h14) (C := RX11) (T := TX11) (N := 16) hx hb hts hin11 hown hK hP 0 rfl rfl 15 (by decide) (hts (.fieldLink RX11 92 "MissedPoints" "shelves" "LMissedPoints$Shelves;") (by decide +kernel)) (fun _ h9 => h9) rfl dX11_taken_30 ?_
                  refine lv_iload_n hx hb dX11_taken_33 rfl (lv_at hl 2 rfl) ?_
                  have hPc := hP.sub (ws' := [(h14, .inr (7, [.ref h35, .ref h36])), (h35, .inl (cI, 4, .inl (fun _ => -1)))]) [1, 2] rfl
                  refine lz_sv (As := [.int x0]) (rest := []) ⟨hx, hb, hml, hown, hts⟩ (c_X7_isEmpty_0 l D cI cS h14 h35 h36 x0) hKK hPc (ci := 7) rfl rfl (cwV 1 hts gX11_taken_X7_isEmpty rfl rfl rfl (by decide +kernel) ⟨Nat.le_of_ble_eq_true rfl, Nat.le_of_ble_eq_true rfl⟩) rfl hl.1 rfl (Nat.le_of_ble_eq_true rfl) dX11_taken_34 ⟨Nat.le_of_ble_eq_true rfl, Nat.le_of_ble_eq_true rfl⟩ (fun r3901 hw => ?_)
                  subst hw
                  refine lv_if_eq (tgt := 43) hx hb dX11_taken_37 (by decide) (fun c3902 => ?_) (fun c3902 => ?_)
                  · exact absurd c3902 (by decide)
                  · refine lv_bipush (v := (-11)) hx hb dX11_taken_40 (by decide) ?_
                    exact W.iret (v := (-11)) hx hb hr (fun t ht hW => ⟨_, rfl, by rw [if_pos k3886, if_neg k3888, if_neg k3890, if_neg k3895, if_pos k3899], ht⟩) (fun q hq => absurd hq List.not_mem_nil) dX11_taken_42
                · exact absurd c3900 (by decide)
              · rw [if_neg k3899] at hw
                subst hw
                refine lv_if_ne (tgt := 29) hx hb dX11_taken_23 (by decide) (fun c3903 => ?_) (fun c3903 => ?_)
                · exact absurd c3903 (by decide)
                · refine lv_bipush (v := (-2)) hx hb dX11_taken_26 (by decide) ?_
                  exact W.iret (v := (-2)) hx hb hr (fun t ht hW => ⟨_, rfl, by rw [if_pos k3886, if_neg k3888, if_neg k3890, if_neg k3895, if_neg k3899], ht⟩) (fun q hq => absurd hq List.not_mem_nil) dX11_taken_28
  · rw [if_neg k3886] at hw
    by_cases k3904 : (6 : Int32) ≤ x1
    · rw [if_pos k3904] at hw
      subst hw
      refine lv_istore_n (lv' := [(3, .int 0), (0, .ref h0), (1, .int x0), (2, .int x1)]) hx hb dX11_taken_4 rfl hl (by decide) rfl (fun ls hl => ?_)
      refine lv_iload_n hx hb dX11_taken_5 rfl (lv_at hl 2 rfl) ?_
      have hPc := hP.sub (ws' := []) [] rfl
      refine lz_ss (As := [.int x0]) (rest := []) ⟨hx, hb, hml, hown, hts⟩ (c_X11_isShelf_0 l D cI cS x0) hKK hPc (va_cwS 1 hts gX11_taken_X11_isShelf rfl rfl rfl (by decide +kernel) ⟨Nat.le_of_ble_eq_true rfl, Nat.le_of_ble_eq_true rfl⟩) rfl hl.1 rfl (Nat.le_of_ble_eq_true rfl) dX11_taken_6 ⟨Nat.le_of_ble_eq_true rfl, Nat.le_of_ble_eq_true rfl⟩ (fun r3905 hw => ?_)
      by_cases k3906 : x0 < 0
      · rw [if_pos k3906] at hw
        subst hw
        refine lv_if_eq (tgt := 26) hx hb dX11_taken_9 (by decide) (fun c3907 => ?_) (fun c3907 => ?_)
        · refine lv_bipush (v := (-2)) hx hb dX11_taken_26 (by decide) ?_
          exact W.iret (v := (-2)) hx hb hr (fun t ht hW => ⟨_, rfl, by rw [if_neg k3886, if_pos k3904, if_pos k3906], ht⟩) (fun q hq => absurd hq List.not_mem_nil) dX11_taken_28
        · exact absurd c3907 (by decide)
      · rw [if_neg k3906] at hw
        by_cases k3908 : (4 : Int32) ≤ x0
        · rw [if_pos k3908] at hw
          subst hw
          refine lv_if_eq (tgt := 26) hx hb dX11_taken_9 (by decide) (fun c3909 => ?_) (fun c3909 => ?_)
          · refine lv_bipush (v := (-2)) hx hb dX11_taken_26 (by decide) ?_
            exact W.iret (v := (-2)) hx hb hr (fun t ht hW => ⟨_, rfl, by rw [if_neg k3886, if_pos k3904, if_neg k3906, if_pos k3908], ht⟩) (fun q hq => absurd hq List.not_mem_nil) dX11_taken_28
          · exact absurd c3909 (by decide)
        · rw [if_neg k3908] at hw
          subst hw
          refine lv_if_eq (tgt := 26) hx hb dX11_taken_9 (by decide) (fun c3910 => ?_) (fun c3910 => ?_)
          · exact absurd c3910 (by decide)
          · refine lv_iload_n hx hb dX11_taken_12 rfl (lv_at hl 0 rfl) ?_
            refine lv_if_ne (tgt := 29) hx hb dX11_taken_13 (by decide) (fun c3911 => ?_) (fun c3911 => ?_)
            · exact absurd c3911 (by decide)
            · refine lv_iload_n hx hb dX11_taken_16 rfl (lv_at hl 3 rfl) ?_
              refine lv_bipush (v := 10) hx hb dX11_taken_17 (by decide) ?_
              refine lv_isub hx hb dX11_taken_19 ?_
              have hPc := hP.sub (ws' := []) [] rfl
              refine lz_ss (As := [.int (x1 - (10 : Int32))]) (rest := []) ⟨hx, hb, hml, hown, hts⟩ (c_X11_isSort_0 l D cI cS (x1 - (10 : Int32))) hKK hPc (va_cwS 1 hts gX11_taken_X11_isSort rfl rfl rfl (by decide +kernel) ⟨Nat.le_of_ble_eq_true rfl, Nat.le_of_ble_eq_true rfl⟩) rfl hl.1 rfl (Nat.le_of_ble_eq_true rfl) dX11_taken_20 ⟨Nat.le_of_ble_eq_true rfl, Nat.le_of_ble_eq_true rfl⟩ (fun r3912 hw => ?_)
              by_cases k3913 : (x1 - (10 : Int32)) = 0
              · rw [if_pos k3913] at hw
                subst hw
                refine lv_if_ne (tgt := 29) hx hb dX11_taken_23 (by decide) (fun c3914 => ?_) (fun c3914 => ?_)
                · refine lv_aload_n hx hb dX11_taken_29 rfl (lv_at hl 1 rfl) ?_
                  refine va_get (D := D) (ci := 11) (v := .ref h14) (C := RX11) (T := TX11) (N := 16) hx hb hts hin11 hown hK hP 0 rfl rfl 15 (by decide) (hts (.fieldLink RX11 92 "MissedPoints" "shelves" "LMissedPoints$Shelves;") (by decide +kernel)) (fun _ h9 => h9) rfl dX11_taken_30 ?_
                  refine lv_iload_n hx hb dX11_taken_33 rfl (lv_at hl 2 rfl) ?_
                  have hPc := hP.sub (ws' := [(h14, .inr (7, [.ref h35, .ref h36])), (h35, .inl (cI, 4, .inl (fun _ => -1)))]) [1, 2] rfl
                  refine lz_sv (As := [.int x0]) (rest := []) ⟨hx, hb, hml, hown, hts⟩ (c_X7_isEmpty_0 l D cI cS h14 h35 h36 x0) hKK hPc (ci := 7) rfl rfl (cwV 1 hts gX11_taken_X7_isEmpty rfl rfl rfl (by decide +kernel) ⟨Nat.le_of_ble_eq_true rfl, Nat.le_of_ble_eq_true rfl⟩) rfl hl.1 rfl (Nat.le_of_ble_eq_true rfl) dX11_taken_34 ⟨Nat.le_of_ble_eq_true rfl, Nat.le_of_ble_eq_true rfl⟩ (fun r3915 hw => ?_)
                  subst hw
                  refine lv_if_eq (tgt := 43) hx hb dX11_taken_37 (by decide) (fun c3916 => ?_) (fun c3916 => ?_)
                  · exact absurd c3916 (by decide)
                  · refine lv_bipush (v := (-11)) hx hb dX11_taken_40 (by decide) ?_
                    exact W.iret (v := (-11)) hx hb hr (fun t ht hW => ⟨_, rfl, by rw [if_neg k3886, if_pos k3904, if_neg k3906, if_neg k3908, if_pos k3913], ht⟩) (fun q hq => absurd hq List.not_mem_nil) dX11_taken_42
                · exact absurd c3914 (by decide)
              · rw [if_neg k3913] at hw
                by_cases k3917 : (x1 - (10 : Int32)) = 1
                · rw [if_pos k3917] at hw
                  subst hw
                  refine lv_if_ne (tgt := 29) hx hb dX11_taken_23 (by decide) (fun c3918 => ?_) (fun c3918 => ?_)
                  · refine lv_aload_n hx hb dX11_taken_29 rfl (lv_at hl 1 rfl) ?_
                    refine va_get (D := D) (ci := 11) (v := .ref h14) (C := RX11) (T := TX11) (N := 16) hx hb hts hin11 hown hK hP 0 rfl rfl 15 (by decide) (hts (.fieldLink RX11 92 "MissedPoints" "shelves" "LMissedPoints$Shelves;") (by decide +kernel)) (fun _ h9 => h9) rfl dX11_taken_30 ?_
                    refine lv_iload_n hx hb dX11_taken_33 rfl (lv_at hl 2 rfl) ?_
                    have hPc := hP.sub (ws' := [(h14, .inr (7, [.ref h35, .ref h36])), (h35, .inl (cI, 4, .inl (fun _ => -1)))]) [1, 2] rfl
                    refine lz_sv (As := [.int x0]) (rest := []) ⟨hx, hb, hml, hown, hts⟩ (c_X7_isEmpty_0 l D cI cS h14 h35 h36 x0) hKK hPc (ci := 7) rfl rfl (cwV 1 hts gX11_taken_X7_isEmpty rfl rfl rfl (by decide +kernel) ⟨Nat.le_of_ble_eq_true rfl, Nat.le_of_ble_eq_true rfl⟩) rfl hl.1 rfl (Nat.le_of_ble_eq_true rfl) dX11_taken_34 ⟨Nat.le_of_ble_eq_true rfl, Nat.le_of_ble_eq_true rfl⟩ (fun r3919 hw => ?_)
                    subst hw
                    refine lv_if_eq (tgt := 43) hx hb dX11_taken_37 (by decide) (fun c3920 => ?_) (fun c3920 => ?_)
                    · exact absurd c3920 (by decide)
                    · refine lv_bipush (v := (-11)) hx hb dX11_taken_40 (by decide) ?_
                      exact W.iret (v := (-11)) hx hb hr (fun t ht hW => ⟨_, rfl, by rw [if_neg k3886, if_pos k3904, if_neg k3906, if_neg k3908, if_neg k3913, if_pos k3917], ht⟩) (fun q hq => absurd hq List.not_mem_nil) dX11_taken_42
                  · exact absurd c3918 (by decide)
                · rw [if_neg k3917] at hw
                  subst hw
                  refine lv_if_ne (tgt := 29) hx hb dX11_taken_23 (by decide) (fun c3921 => ?_) (fun c3921 => ?_)
                  · exact absurd c3921 (by decide)
                  · refine lv_bipush (v := (-2)) hx hb dX11_taken_26 (by decide) ?_
                    exact W.iret (v := (-2)) hx hb hr (fun t ht hW => ⟨_, rfl, by rw [if_neg k3886, if_pos k3904, if_neg k3906, if_neg k3908, if_neg k3913, if_neg k3917], ht⟩) (fun q hq => absurd hq List.not_mem_nil) dX11_taken_28
    · rw [if_neg k3904] at hw
      subst hw
      refine lv_istore_n (lv' := [(3, .int 1), (0, .ref h0), (1, .int x0), (2, .int x1)]) hx hb dX11_taken_4 rfl hl (by decide) rfl (fun ls hl => ?_)
      refine lv_iload_n hx hb dX11_taken_5 rfl (lv_at hl 2 rfl) ?_
      have hPc := hP.sub (ws' := []) [] rfl
      refine lz_ss (As := [.int x0]) (rest := []) ⟨hx, hb, hml, hown, hts⟩ (c_X11_isShelf_0 l D cI cS x0) hKK hPc (va_cwS 1 hts gX11_taken_X11_isShelf rfl rfl rfl (by decide +kernel) ⟨Nat.le_of_ble_eq_true rfl, Nat.le_of_ble_eq_true rfl⟩) rfl hl.1 rfl (Nat.le_of_ble_eq_true rfl) dX11_taken_6 ⟨Nat.le_of_ble_eq_true rfl, Nat.le_of_ble_eq_true rfl⟩ (fun r3922 hw => ?_)
      by_cases k3923 : x0 < 0
      · rw [if_pos k3923] at hw
        subst hw
        refine lv_if_eq (tgt := 26) hx hb dX11_taken_9 (by decide) (fun c3924 => ?_) (fun c3924 => ?_)
        · refine lv_bipush (v := (-2)) hx hb dX11_taken_26 (by decide) ?_
          exact W.iret (v := (-2)) hx hb hr (fun t ht hW => ⟨_, rfl, by rw [if_neg k3886, if_neg k3904, if_pos k3923], ht⟩) (fun q hq => absurd hq List.not_mem_nil) dX11_taken_28
        · exact absurd c3924 (by decide)
      · rw [if_neg k3923] at hw
        by_cases k3925 : (4 : Int32) ≤ x0
        · rw [if_pos k3925] at hw
          subst hw
          refine lv_if_eq (tgt := 26) hx hb dX11_taken_9 (by decide) (fun c3926 => ?_) (fun c3926 => ?_)
          · refine lv_bipush (v := (-2)) hx hb dX11_taken_26 (by decide) ?_
            exact W.iret (v := (-2)) hx hb hr (fun t ht hW => ⟨_, rfl, by rw [if_neg k3886, if_neg k3904, if_neg k3923, if_pos k3925], ht⟩) (fun q hq => absurd hq List.not_mem_nil) dX11_taken_28
          · exact absurd c3926 (by decide)
        · rw [if_neg k3925] at hw
          subst hw
          refine lv_if_eq (tgt := 26) hx hb dX11_taken_9 (by decide) (fun c3927 => ?_) (fun c3927 => ?_)
          · exact absurd c3927 (by decide)
          · refine lv_iload_n hx hb dX11_taken_12 rfl (lv_at hl 0 rfl) ?_
            refine lv_if_ne (tgt := 29) hx hb dX11_taken_13 (by decide) (fun c3928 => ?_) (fun c3928 => ?_)
            · refine lv_aload_n hx hb dX11_taken_29 rfl (lv_at hl 1 rfl) ?_
              refine va_get (D := D) (ci := 11) (v := .ref h14) (C := RX11) (T := TX11) (N := 16) hx hb hts hin11 hown hK hP 0 rfl rfl 15 (by decide) (hts (.fieldLink RX11 92 "MissedPoints" "shelves" "LMissedPoints$Shelves;") (by decide +kernel)) (fun _ h9 => h9) rfl dX11_taken_30 ?_
              refine lv_iload_n hx hb dX11_taken_33 rfl (lv_at hl 2 rfl) ?_
              have hPc := hP.sub (ws' := [(h14, .inr (7, [.ref h35, .ref h36])), (h35, .inl (cI, 4, .inl (fun _ => -1)))]) [1, 2] rfl
              refine lz_sv (As := [.int x0]) (rest := []) ⟨hx, hb, hml, hown, hts⟩ (c_X7_isEmpty_0 l D cI cS h14 h35 h36 x0) hKK hPc (ci := 7) rfl rfl (cwV 1 hts gX11_taken_X7_isEmpty rfl rfl rfl (by decide +kernel) ⟨Nat.le_of_ble_eq_true rfl, Nat.le_of_ble_eq_true rfl⟩) rfl hl.1 rfl (Nat.le_of_ble_eq_true rfl) dX11_taken_34 ⟨Nat.le_of_ble_eq_true rfl, Nat.le_of_ble_eq_true rfl⟩ (fun r3929 hw => ?_)
              subst hw
              refine lv_if_eq (tgt := 43) hx hb dX11_taken_37 (by decide) (fun c3930 => ?_) (fun c3930 => ?_)
              · exact absurd c3930 (by decide)
              · refine lv_bipush (v := (-11)) hx hb dX11_taken_40 (by decide) ?_
                exact W.iret (v := (-11)) hx hb hr (fun t ht hW => ⟨_, rfl, by rw [if_neg k3886, if_neg k3904, if_neg k3923, if_neg k3925], ht⟩) (fun q hq => absurd hq List.not_mem_nil) dX11_taken_42
            · exact absurd c3928 (by decide)
set_option maxHeartbeats 4000000 in
set_option maxRecDepth 100000 in
theorem c_X11_isShelf_1 (l : Launch) (D : va_G) (cI cS : ClassId) : Met l yX11_isShelf wsX11_isShelf ({ frames := 0, cells := 0, slots := 0, locals := 0 }) (PS D cI cS [] [.int 0]) (vp_Si (fun r => r = (1 : Int32))) 0 0 (fun _ => False) := by
  refine Met.ofW (cc := cX11_isShelf) (maxL := 1) (ret := (some .boolean)) (by decide) rfl ?_
  intro p e s m args below meth c s₁ B hml hv
  obtain ⟨rfl, hP, hKK⟩ := hv
  have hx := B.exec
  have hb := B.bytes
  have hr := B.returns
  have hts := atoms_spec (ws := wsX11_isShelf) B.pre
  have hown : s.vm.findClass RX11 = some m.cls := findClass_of_methodNamed B.named
  have hlocks := B.notSynchronized
  have hK := hKK.1
  have hN := hKK.2
  have hl := lv_entry ([.int 0]) (n := 1) (Nat.le_of_ble_eq_true rfl)
  rw [lg_entry_eq]
  generalize (lg_sl ([.int 0]) ++ List.replicate (1 - (lg_sl ([.int 0])).length) Slot.unset).toArray = ls at hl ⊢
  have hl : lv_has ls 1 [(0, .int 0)] := hl
  refine lv_iload_n hx hb dX11_isShelf_0 rfl (lv_at hl 0 rfl) ?_
  refine lv_if_lt (tgt := 13) hx hb dX11_isShelf_1 (by decide) (fun c3944 => ?_) (fun c3944 => ?_)
  · exact absurd c3944 (by decide)
  · refine lv_iload_n hx hb dX11_isShelf_4 rfl (lv_at hl 0 rfl) ?_
    refine lv_iconst (v := 4) hx hb dX11_isShelf_5 (by decide) ?_
    refine lv_icmp_ge (tgt := 13) hx hb dX11_isShelf_6 (by decide) (fun c3945 => ?_) (fun c3945 => ?_)
    · exact absurd c3945 (by decide)
    · refine lv_iconst (v := 1) hx hb dX11_isShelf_9 (by decide) ?_
      refine lv_goto (tgt := 14) hx hb dX11_isShelf_10 (by decide) ?_
      exact W.zret (v := 1) hx hb hr (by decide) (fun t ht hW => ⟨_, rfl, rfl, ht⟩) (fun q hq => absurd hq List.not_mem_nil) dX11_isShelf_14
set_option maxHeartbeats 4000000 in
set_option maxRecDepth 100000 in
theorem c_X11_isKind_1 (l : Launch) (D : va_G) (cI cS : ClassId) : Met l yX11_isKind wsX11_isKind ({ frames := 0, cells := 0, slots := 0, locals := 0 }) (PS D cI cS [] [.int (-1)]) (vp_Si (fun r => r = (0 : Int32))) 0 0 (fun _ => False) := by
  refine Met.ofW (cc := cX11_isKind) (maxL := 1) (ret := (some .boolean)) (by decide) rfl ?_
  intro p e s m args below meth c s₁ B hml hv
  obtain ⟨rfl, hP, hKK⟩ := hv
  have hx := B.exec
  have hb := B.bytes
  have hr := B.returns
  have hts := atoms_spec (ws := wsX11_isKind) B.pre
  have hown : s.vm.findClass RX11 = some m.cls := findClass_of_methodNamed B.named
  have hlocks := B.notSynchronized
  have hK := hKK.1
  have hN := hKK.2
  have hl := lv_entry ([.int (-1)]) (n := 1) (Nat.le_of_ble_eq_true rfl)
  rw [lg_entry_eq]
  generalize (lg_sl ([.int (-1)]) ++ List.replicate (1 - (lg_sl ([.int (-1)])).length) Slot.unset).toArray = ls at hl ⊢
  have hl : lv_has ls 1 [(0, .int (-1))] := hl
  refine lv_iload_n hx hb dX11_isKind_0 rfl (lv_at hl 0 rfl) ?_
  refine lv_if_lt (tgt := 14) hx hb dX11_isKind_1 (by decide) (fun c3950 => ?_) (fun c3950 => ?_)
  · refine lv_iconst (v := 0) hx hb dX11_isKind_14 (by decide) ?_
    exact W.zret (v := 0) hx hb hr (by decide) (fun t ht hW => ⟨_, rfl, rfl, ht⟩) (fun q hq => absurd hq List.not_mem_nil) dX11_isKind_15
  · exact absurd c3950 (by decide)
set_option maxHeartbeats 4000000 in
set_option maxRecDepth 100000 in
theorem c_X7_holdsThing_0 (l : Launch) (D : va_G) (cI cS : ClassId) (h0 h1 h2 : Nat) (x0 : Int32) : Met l yX7_holdsThing wsX7_holdsThing ({ frames := 1, cells := 0, slots := 0, locals := 40 }) (PS D cI cS [(h0, .inr (7, [.ref h1, .ref h2])), (h1, .inl (cI, 4, .inl (fun _ => -1)))] [.ref h0, .int 0, .int x0]) (vp_Si (fun r => r = (0 : Int32))) 0 0 (fun _ => False) := by
  refine Met.ofW (cc := cX7_holdsThing) (maxL := 5) (ret := (some .boolean)) (by decide) rfl ?_
  intro p e s m args below meth c s₁ B hml hv
  obtain ⟨rfl, hP, hKK⟩ := hv
  have hx := B.exec
  have hb := B.bytes
  have hr := B.returns
  have hts := atoms_spec (ws := wsX7_holdsThing) B.pre
  have hown : s.vm.findClass RX7 = some m.cls := findClass_of_methodNamed B.named
  have hlocks := B.notSynchronized
  have hK := hKK.1
  have hN := hKK.2
  have hin7 : ∀ w ∈ wsX70, w ∈ wsX7_holdsThing := by decide +kernel
  have hl := lv_entry ([.ref h0, .int 0, .int x0]) (n := 5) (Nat.le_of_ble_eq_true rfl)
  rw [lg_entry_eq]
  generalize (lg_sl ([.ref h0, .int 0, .int x0]) ++ List.replicate (5 - (lg_sl ([.ref h0, .int 0, .int x0])).length) Slot.unset).toArray = ls at hl ⊢
  have hl : lv_has ls 5 [(0, .ref h0), (1, .int 0), (2, .int x0)] := hl
  refine lv_iload_n hx hb dX7_holdsThing_0 rfl (lv_at hl 1 rfl) ?_
  have hPc := hP.sub (ws' := []) [] rfl
  refine lz_sn (As := [.int 0]) (rest := []) ⟨hx, hb, hml, hown, hts⟩ (c_X11_isShelf_1 l D cI cS) hKK hPc ⟨va_cnB 1 hts gX7_holdsThing_X11_isShelf_n18 rfl rfl rfl hN.2.2.2.2.2.2.2.2.2.2.2.2.2.2.2.2.2.2.2.2.2.2.2.1 (hts (.initialized RX11) (by decide +kernel)) (by decide +kernel) ⟨Nat.le_of_ble_eq_true rfl, Nat.le_of_ble_eq_true rfl⟩, (hts (.static yX11_isShelf) (by decide +kernel)), trivial⟩ rfl hl.1 rfl (Nat.le_of_ble_eq_true rfl) dX7_holdsThing_1 ⟨Nat.le_of_ble_eq_true rfl, Nat.le_of_ble_eq_true rfl⟩ (fun r3953 hw => ?_)
  subst hw
  refine lv_if_eq (tgt := 16) hx hb dX7_holdsThing_4 (by decide) (fun c3954 => ?_) (fun c3954 => ?_)
  · exact absurd c3954 (by decide)
  · refine lv_aload_n hx hb dX7_holdsThing_7 rfl (lv_at hl 0 rfl) ?_
    refine va_get (D := D) (ci := 7) (v := .ref h1) (C := RX7) (T := TX7) (N := 2) hx hb hts hin7 hown hK hP 0 rfl rfl 0 (by decide) (hts (.fieldLink RX7 11 "MissedPoints$Shelves" "kinds" "[I") (by decide +kernel)) (fun _ h9 => h9) rfl dX7_holdsThing_8 ?_
    refine lv_iload_n hx hb dX7_holdsThing_11 rfl (lv_at hl 1 rfl) ?_
    refine va_iald hx hb hK hP 1 0 rfl rfl (lz_vp (x := 0) (n := 4) (by decide) (by decide)) dX7_holdsThing_12 ?_
    refine lz_top (y := (-1)) rfl ?_
    refine lv_goto (tgt := 17) hx hb dX7_holdsThing_13 (by decide) ?_
    refine lv_istore_n (lv' := [(3, .int (-1)), (0, .ref h0), (1, .int 0), (2, .int x0)]) hx hb dX7_holdsThing_17 rfl hl (by decide) rfl (fun ls hl => ?_)
    refine lv_iconst (v := 0) hx hb dX7_holdsThing_18 (by decide) ?_
    refine lv_istore (lv' := [(4, .int 0), (3, .int (-1)), (0, .ref h0), (1, .int 0), (2, .int x0)]) hx hb dX7_holdsThing_19 hl (by decide) rfl (fun ls hl => ?_)
    refine lv_iload hx hb dX7_holdsThing_21 (lv_at hl 0 rfl) ?_
    refine lv_iconst (v := 3) hx hb dX7_holdsThing_23 (by decide) ?_
    refine lv_icmp_ge (tgt := 53) hx hb dX7_holdsThing_24 (by decide) (fun c3955 => ?_) (fun c3955 => ?_)
    · exact absurd c3955 (by decide)
    · refine lv_iload_n hx hb dX7_holdsThing_27 rfl (lv_at hl 1 rfl) ?_
      have hPc := hP.sub (ws' := []) [] rfl
      refine lz_sn (As := [.int (-1)]) (rest := []) ⟨hx, hb, hml, hown, hts⟩ (c_X11_isKind_1 l D cI cS) hKK hPc ⟨va_cnB 1 hts gX7_holdsThing_X11_isKind_n22 rfl rfl rfl hN.2.2.2.2.2.2.2.2.2.2.2.2.2.2.2.2.2.2.2.2.2.2.2.2 (hts (.initialized RX11) (by decide +kernel)) (by decide +kernel) ⟨Nat.le_of_ble_eq_true rfl, Nat.le_of_ble_eq_true rfl⟩, (hts (.static yX11_isKind) (by decide +kernel)), trivial⟩ rfl hl.1 rfl (Nat.le_of_ble_eq_true rfl) dX7_holdsThing_28 ⟨Nat.le_of_ble_eq_true rfl, Nat.le_of_ble_eq_true rfl⟩ (fun r3956 hw => ?_)
      subst hw
      refine lv_if_eq (tgt := 53) hx hb dX7_holdsThing_31 (by decide) (fun c3957 => ?_) (fun c3957 => ?_)
      · refine lv_iconst (v := 0) hx hb dX7_holdsThing_53 (by decide) ?_
        exact W.zret (v := 0) hx hb hr (by decide) (fun t ht hW => ⟨_, rfl, rfl, ht⟩) (fun q hq => absurd hq List.not_mem_nil) dX7_holdsThing_54
      · exact absurd c3957 (by decide)
set_option maxHeartbeats 4000000 in
set_option maxRecDepth 100000 in
theorem c_X11_isShelf_2 (l : Launch) (D : va_G) (cI cS : ClassId) : Met l yX11_isShelf wsX11_isShelf ({ frames := 0, cells := 0, slots := 0, locals := 0 }) (PS D cI cS [] [.int 1]) (vp_Si (fun r => r = (1 : Int32))) 0 0 (fun _ => False) := by
  refine Met.ofW (cc := cX11_isShelf) (maxL := 1) (ret := (some .boolean)) (by decide) rfl ?_
  intro p e s m args below meth c s₁ B hml hv
  obtain ⟨rfl, hP, hKK⟩ := hv
  have hx := B.exec
  have hb := B.bytes
  have hr := B.returns
  have hts := atoms_spec (ws := wsX11_isShelf) B.pre
  have hown : s.vm.findClass RX11 = some m.cls := findClass_of_methodNamed B.named
  have hlocks := B.notSynchronized
  have hK := hKK.1
  have hN := hKK.2
  have hl := lv_entry ([.int 1]) (n := 1) (Nat.le_of_ble_eq_true rfl)
  rw [lg_entry_eq]
  generalize (lg_sl ([.int 1]) ++ List.replicate (1 - (lg_sl ([.int 1])).length) Slot.unset).toArray = ls at hl ⊢
  have hl : lv_has ls 1 [(0, .int 1)] := hl
  refine lv_iload_n hx hb dX11_isShelf_0 rfl (lv_at hl 0 rfl) ?_
  refine lv_if_lt (tgt := 13) hx hb dX11_isShelf_1 (by decide) (fun c3963 => ?_) (fun c3963 => ?_)
  · exact absurd c3963 (by decide)
  · refine lv_iload_n hx hb dX11_isShelf_4 rfl (lv_at hl 0 rfl) ?_
    refine lv_iconst (v := 4) hx hb dX11_isShelf_5 (by decide) ?_
    refine lv_icmp_ge (tgt := 13) hx hb dX11_isShelf_6 (by decide) (fun c3964 => ?_) (fun c3964 => ?_)
    · exact absurd c3964 (by decide)
    · refine lv_iconst (v := 1) hx hb dX11_isShelf_9 (by decide) ?_
      refine lv_goto (tgt := 14) hx hb dX11_isShelf_10 (by decide) ?_
      exact W.zret (v := 1) hx hb hr (by decide) (fun t ht hW => ⟨_, rfl, rfl, ht⟩) (fun q hq => absurd hq List.not_mem_nil) dX11_isShelf_14
set_option maxHeartbeats 4000000 in
set_option maxRecDepth 100000 in
theorem c_X7_holdsThing_1 (l : Launch) (D : va_G) (cI cS : ClassId) (h0 h1 h2 : Nat) (x0 : Int32) : Met l yX7_holdsThing wsX7_holdsThing ({ frames := 1, cells := 0, slots := 0, locals := 40 }) (PS D cI cS [(h0, .inr (7, [.ref h1, .ref h2])), (h1, .inl (cI, 4, .inl (fun _ => -1)))] [.ref h0, .int 1, .int x0]) (vp_Si (fun r => r = (0 : Int32))) 0 0 (fun _ => False) := by
  refine Met.ofW (cc := cX7_holdsThing) (maxL := 5) (ret := (some .boolean)) (by decide) rfl ?_
  intro p e s m args below meth c s₁ B hml hv
  obtain ⟨rfl, hP, hKK⟩ := hv
  have hx := B.exec
  have hb := B.bytes
  have hr := B.returns
  have hts := atoms_spec (ws := wsX7_holdsThing) B.pre
  have hown : s.vm.findClass RX7 = some m.cls := findClass_of_methodNamed B.named
  have hlocks := B.notSynchronized
  have hK := hKK.1
  have hN := hKK.2
  have hin7 : ∀ w ∈ wsX70, w ∈ wsX7_holdsThing := by decide +kernel
  have hl := lv_entry ([.ref h0, .int 1, .int x0]) (n := 5) (Nat.le_of_ble_eq_true rfl)
  rw [lg_entry_eq]
  generalize (lg_sl ([.ref h0, .int 1, .int x0]) ++ List.replicate (5 - (lg_sl ([.ref h0, .int 1, .int x0])).length) Slot.unset).toArray = ls at hl ⊢
  have hl : lv_has ls 5 [(0, .ref h0), (1, .int 1), (2, .int x0)] := hl
  refine lv_iload_n hx hb dX7_holdsThing_0 rfl (lv_at hl 1 rfl) ?_
  have hPc := hP.sub (ws' := []) [] rfl
  refine lz_sn (As := [.int 1]) (rest := []) ⟨hx, hb, hml, hown, hts⟩ (c_X11_isShelf_2 l D cI cS) hKK hPc ⟨va_cnB 1 hts gX7_holdsThing_X11_isShelf_n18 rfl rfl rfl hN.2.2.2.2.2.2.2.2.2.2.2.2.2.2.2.2.2.2.2.2.2.2.2.1 (hts (.initialized RX11) (by decide +kernel)) (by decide +kernel) ⟨Nat.le_of_ble_eq_true rfl, Nat.le_of_ble_eq_true rfl⟩, (hts (.static yX11_isShelf) (by decide +kernel)), trivial⟩ rfl hl.1 rfl (Nat.le_of_ble_eq_true rfl) dX7_holdsThing_1 ⟨Nat.le_of_ble_eq_true rfl, Nat.le_of_ble_eq_true rfl⟩ (fun r3970 hw => ?_)
  subst hw
  refine lv_if_eq (tgt := 16) hx hb dX7_holdsThing_4 (by decide) (fun c3971 => ?_) (fun c3971 => ?_)
  · exact absurd c3971 (by decide)
  · refine lv_aload_n hx hb dX7_holdsThing_7 rfl (lv_at hl 0 rfl) ?_
    refine va_get (D := D) (ci := 7) (v := .ref h1) (C := RX7) (T := TX7) (N := 2) hx hb hts hin7 hown hK hP 0 rfl rfl 0 (by decide) (hts (.fieldLink RX7 11 "MissedPoints$Shelves" "kinds" "[I") (by decide +kernel)) (fun _ h9 => h9) rfl dX7_holdsThing_8 ?_
    refine lv_iload_n hx hb dX7_holdsThing_11 rfl (lv_at hl 1 rfl) ?_
    refine va_iald hx hb hK hP 1 0 rfl rfl (lz_vp (x := 1) (n := 4) (by decide) (by decide)) dX7_holdsThing_12 ?_
    refine lz_top (y := (-1)) rfl ?_
    refine lv_goto (tgt := 17) hx hb dX7_holdsThing_13 (by decide) ?_
    refine lv_istore_n (lv' := [(3, .int (-1)), (0, .ref h0), (1, .int 1), (2, .int x0)]) hx hb dX7_holdsThing_17 rfl hl (by decide) rfl (fun ls hl => ?_)
    refine lv_iconst (v := 0) hx hb dX7_holdsThing_18 (by decide) ?_
    refine lv_istore (lv' := [(4, .int 0), (3, .int (-1)), (0, .ref h0), (1, .int 1), (2, .int x0)]) hx hb dX7_holdsThing_19 hl (by decide) rfl (fun ls hl => ?_)
    refine lv_iload hx hb dX7_holdsThing_21 (lv_at hl 0 rfl) ?_
    refine lv_iconst (v := 3) hx hb dX7_holdsThing_23 (by decide) ?_
    refine lv_icmp_ge (tgt := 53) hx hb dX7_holdsThing_24 (by decide) (fun c3972 => ?_) (fun c3972 => ?_)
    · exact absurd c3972 (by decide)
    · refine lv_iload_n hx hb dX7_holdsThing_27 rfl (lv_at hl 1 rfl) ?_
      have hPc := hP.sub (ws' := []) [] rfl
      refine lz_sn (As := [.int (-1)]) (rest := []) ⟨hx, hb, hml, hown, hts⟩ (c_X11_isKind_1 l D cI cS) hKK hPc ⟨va_cnB 1 hts gX7_holdsThing_X11_isKind_n22 rfl rfl rfl hN.2.2.2.2.2.2.2.2.2.2.2.2.2.2.2.2.2.2.2.2.2.2.2.2 (hts (.initialized RX11) (by decide +kernel)) (by decide +kernel) ⟨Nat.le_of_ble_eq_true rfl, Nat.le_of_ble_eq_true rfl⟩, (hts (.static yX11_isKind) (by decide +kernel)), trivial⟩ rfl hl.1 rfl (Nat.le_of_ble_eq_true rfl) dX7_holdsThing_28 ⟨Nat.le_of_ble_eq_true rfl, Nat.le_of_ble_eq_true rfl⟩ (fun r3973 hw => ?_)
      subst hw
      refine lv_if_eq (tgt := 53) hx hb dX7_holdsThing_31 (by decide) (fun c3974 => ?_) (fun c3974 => ?_)
      · refine lv_iconst (v := 0) hx hb dX7_holdsThing_53 (by decide) ?_
        exact W.zret (v := 0) hx hb hr (by decide) (fun t ht hW => ⟨_, rfl, rfl, ht⟩) (fun q hq => absurd hq List.not_mem_nil) dX7_holdsThing_54
      · exact absurd c3974 (by decide)
set_option maxHeartbeats 4000000 in
set_option maxRecDepth 100000 in
theorem c_X11_isShelf_3 (l : Launch) (D : va_G) (cI cS : ClassId) : Met l yX11_isShelf wsX11_isShelf ({ frames := 0, cells := 0, slots := 0, locals := 0 }) (PS D cI cS [] [.int 2]) (vp_Si (fun r => r = (1 : Int32))) 0 0 (fun _ => False) := by
  refine Met.ofW (cc := cX11_isShelf) (maxL := 1) (ret := (some .boolean)) (by decide) rfl ?_
  intro p e s m args below meth c s₁ B hml hv
  obtain ⟨rfl, hP, hKK⟩ := hv
  have hx := B.exec
  have hb := B.bytes
  have hr := B.returns
  have hts := atoms_spec (ws := wsX11_isShelf) B.pre
  have hown : s.vm.findClass RX11 = some m.cls := findClass_of_methodNamed B.named
  have hlocks := B.notSynchronized
  have hK := hKK.1
  have hN := hKK.2
  have hl := lv_entry ([.int 2]) (n := 1) (Nat.le_of_ble_eq_true rfl)
  rw [lg_entry_eq]
  generalize (lg_sl ([.int 2]) ++ List.replicate (1 - (lg_sl ([.int 2])).length) Slot.unset).toArray = ls at hl ⊢
  have hl : lv_has ls 1 [(0, .int 2)] := hl
  refine lv_iload_n hx hb dX11_isShelf_0 rfl (lv_at hl 0 rfl) ?_
  refine lv_if_lt (tgt := 13) hx hb dX11_isShelf_1 (by decide) (fun c3980 => ?_) (fun c3980 => ?_)
  · exact absurd c3980 (by decide)
  · refine lv_iload_n hx hb dX11_isShelf_4 rfl (lv_at hl 0 rfl) ?_
    refine lv_iconst (v := 4) hx hb dX11_isShelf_5 (by decide) ?_
    refine lv_icmp_ge (tgt := 13) hx hb dX11_isShelf_6 (by decide) (fun c3981 => ?_) (fun c3981 => ?_)
    · exact absurd c3981 (by decide)
    · refine lv_iconst (v := 1) hx hb dX11_isShelf_9 (by decide) ?_
      refine lv_goto (tgt := 14) hx hb dX11_isShelf_10 (by decide) ?_
      exact W.zret (v := 1) hx hb hr (by decide) (fun t ht hW => ⟨_, rfl, rfl, ht⟩) (fun q hq => absurd hq List.not_mem_nil) dX11_isShelf_14
set_option maxHeartbeats 4000000 in
set_option maxRecDepth 100000 in
theorem c_X7_holdsThing_2 (l : Launch) (D : va_G) (cI cS : ClassId) (h0 h1 h2 : Nat) (x0 : Int32) : Met l yX7_holdsThing wsX7_holdsThing ({ frames := 1, cells := 0, slots := 0, locals := 40 }) (PS D cI cS [(h0, .inr (7, [.ref h1, .ref h2])), (h1, .inl (cI, 4, .inl (fun _ => -1)))] [.ref h0, .int 2, .int x0]) (vp_Si (fun r => r = (0 : Int32))) 0 0 (fun _ => False) := by
  refine Met.ofW (cc := cX7_holdsThing) (maxL := 5) (ret := (some .boolean)) (by decide) rfl ?_
  intro p e s m args below meth c s₁ B hml hv
  obtain ⟨rfl, hP, hKK⟩ := hv
  have hx := B.exec
  have hb := B.bytes
  have hr := B.returns
  have hts := atoms_spec (ws := wsX7_holdsThing) B.pre
  have hown : s.vm.findClass RX7 = some m.cls := findClass_of_methodNamed B.named
  have hlocks := B.notSynchronized
  have hK := hKK.1
  have hN := hKK.2
  have hin7 : ∀ w ∈ wsX70, w ∈ wsX7_holdsThing := by decide +kernel
  have hl := lv_entry ([.ref h0, .int 2, .int x0]) (n := 5) (Nat.le_of_ble_eq_true rfl)
  rw [lg_entry_eq]
  generalize (lg_sl ([.ref h0, .int 2, .int x0]) ++ List.replicate (5 - (lg_sl ([.ref h0, .int 2, .int x0])).length) Slot.unset).toArray = ls at hl ⊢
  have hl : lv_has ls 5 [(0, .ref h0), (1, .int 2), (2, .int x0)] := hl
  refine lv_iload_n hx hb dX7_holdsThing_0 rfl (lv_at hl 1 rfl) ?_
  have hPc := hP.sub (ws' := []) [] rfl
  refine lz_sn (As := [.int 2]) (rest := []) ⟨hx, hb, hml, hown, hts⟩ (c_X11_isShelf_3 l D cI cS) hKK hPc ⟨va_cnB 1 hts gX7_holdsThing_X11_isShelf_n18 rfl rfl rfl hN.2.2.2.2.2.2.2.2.2.2.2.2.2.2.2.2.2.2.2.2.2.2.2.1 (hts (.initialized RX11) (by decide +kernel)) (by decide +kernel) ⟨Nat.le_of_ble_eq_true rfl, Nat.le_of_ble_eq_true rfl⟩, (hts (.static yX11_isShelf) (by decide +kernel)), trivial⟩ rfl hl.1 rfl (Nat.le_of_ble_eq_true rfl) dX7_holdsThing_1 ⟨Nat.le_of_ble_eq_true rfl, Nat.le_of_ble_eq_true rfl⟩ (fun r3987 hw => ?_)
  subst hw
  refine lv_if_eq (tgt := 16) hx hb dX7_holdsThing_4 (by decide) (fun c3988 => ?_) (fun c3988 => ?_)
  · exact absurd c3988 (by decide)
  · refine lv_aload_n hx hb dX7_holdsThing_7 rfl (lv_at hl 0 rfl) ?_
    refine va_get (D := D) (ci := 7) (v := .ref h1) (C := RX7) (T := TX7) (N := 2) hx hb hts hin7 hown hK hP 0 rfl rfl 0 (by decide) (hts (.fieldLink RX7 11 "MissedPoints$Shelves" "kinds" "[I") (by decide +kernel)) (fun _ h9 => h9) rfl dX7_holdsThing_8 ?_
    refine lv_iload_n hx hb dX7_holdsThing_11 rfl (lv_at hl 1 rfl) ?_
    refine va_iald hx hb hK hP 1 0 rfl rfl (lz_vp (x := 2) (n := 4) (by decide) (by decide)) dX7_holdsThing_12 ?_
    refine lz_top (y := (-1)) rfl ?_
    refine lv_goto (tgt := 17) hx hb dX7_holdsThing_13 (by decide) ?_
    refine lv_istore_n (lv' := [(3, .int (-1)), (0, .ref h0), (1, .int 2), (2, .int x0)]) hx hb dX7_holdsThing_17 rfl hl (by decide) rfl (fun ls hl => ?_)
    refine lv_iconst (v := 0) hx hb dX7_holdsThing_18 (by decide) ?_
    refine lv_istore (lv' := [(4, .int 0), (3, .int (-1)), (0, .ref h0), (1, .int 2), (2, .int x0)]) hx hb dX7_holdsThing_19 hl (by decide) rfl (fun ls hl => ?_)
    refine lv_iload hx hb dX7_holdsThing_21 (lv_at hl 0 rfl) ?_
    refine lv_iconst (v := 3) hx hb dX7_holdsThing_23 (by decide) ?_
    refine lv_icmp_ge (tgt := 53) hx hb dX7_holdsThing_24 (by decide) (fun c3989 => ?_) (fun c3989 => ?_)
    · exact absurd c3989 (by decide)
    · refine lv_iload_n hx hb dX7_holdsThing_27 rfl (lv_at hl 1 rfl) ?_
      have hPc := hP.sub (ws' := []) [] rfl
      refine lz_sn (As := [.int (-1)]) (rest := []) ⟨hx, hb, hml, hown, hts⟩ (c_X11_isKind_1 l D cI cS) hKK hPc ⟨va_cnB 1 hts gX7_holdsThing_X11_isKind_n22 rfl rfl rfl hN.2.2.2.2.2.2.2.2.2.2.2.2.2.2.2.2.2.2.2.2.2.2.2.2 (hts (.initialized RX11) (by decide +kernel)) (by decide +kernel) ⟨Nat.le_of_ble_eq_true rfl, Nat.le_of_ble_eq_true rfl⟩, (hts (.static yX11_isKind) (by decide +kernel)), trivial⟩ rfl hl.1 rfl (Nat.le_of_ble_eq_true rfl) dX7_holdsThing_28 ⟨Nat.le_of_ble_eq_true rfl, Nat.le_of_ble_eq_true rfl⟩ (fun r3990 hw => ?_)
      subst hw
      refine lv_if_eq (tgt := 53) hx hb dX7_holdsThing_31 (by decide) (fun c3991 => ?_) (fun c3991 => ?_)
      · refine lv_iconst (v := 0) hx hb dX7_holdsThing_53 (by decide) ?_
        exact W.zret (v := 0) hx hb hr (by decide) (fun t ht hW => ⟨_, rfl, rfl, ht⟩) (fun q hq => absurd hq List.not_mem_nil) dX7_holdsThing_54
      · exact absurd c3991 (by decide)
set_option maxHeartbeats 4000000 in
set_option maxRecDepth 100000 in
theorem c_X11_isShelf_4 (l : Launch) (D : va_G) (cI cS : ClassId) : Met l yX11_isShelf wsX11_isShelf ({ frames := 0, cells := 0, slots := 0, locals := 0 }) (PS D cI cS [] [.int 3]) (vp_Si (fun r => r = (1 : Int32))) 0 0 (fun _ => False) := by
  refine Met.ofW (cc := cX11_isShelf) (maxL := 1) (ret := (some .boolean)) (by decide) rfl ?_
  intro p e s m args below meth c s₁ B hml hv
  obtain ⟨rfl, hP, hKK⟩ := hv
  have hx := B.exec
  have hb := B.bytes
  have hr := B.returns
  have hts := atoms_spec (ws := wsX11_isShelf) B.pre
  have hown : s.vm.findClass RX11 = some m.cls := findClass_of_methodNamed B.named
  have hlocks := B.notSynchronized
  have hK := hKK.1
  have hN := hKK.2
  have hl := lv_entry ([.int 3]) (n := 1) (Nat.le_of_ble_eq_true rfl)
  rw [lg_entry_eq]
  generalize (lg_sl ([.int 3]) ++ List.replicate (1 - (lg_sl ([.int 3])).length) Slot.unset).toArray = ls at hl ⊢
  have hl : lv_has ls 1 [(0, .int 3)] := hl
  refine lv_iload_n hx hb dX11_isShelf_0 rfl (lv_at hl 0 rfl) ?_
  refine lv_if_lt (tgt := 13) hx hb dX11_isShelf_1 (by decide) (fun c3997 => ?_) (fun c3997 => ?_)
  · exact absurd c3997 (by decide)
  · refine lv_iload_n hx hb dX11_isShelf_4 rfl (lv_at hl 0 rfl) ?_
    refine lv_iconst (v := 4) hx hb dX11_isShelf_5 (by decide) ?_
    refine lv_icmp_ge (tgt := 13) hx hb dX11_isShelf_6 (by decide) (fun c3998 => ?_) (fun c3998 => ?_)
    · exact absurd c3998 (by decide)
    · refine lv_iconst (v := 1) hx hb dX11_isShelf_9 (by decide) ?_
      refine lv_goto (tgt := 14) hx hb dX11_isShelf_10 (by decide) ?_
      exact W.zret (v := 1) hx hb hr (by decide) (fun t ht hW => ⟨_, rfl, rfl, ht⟩) (fun q hq => absurd hq List.not_mem_nil) dX11_isShelf_14
set_option maxHeartbeats 4000000 in
set_option maxRecDepth 100000 in
theorem c_X7_holdsThing_3 (l : Launch) (D : va_G) (cI cS : ClassId) (h0 h1 h2 : Nat) (x0 : Int32) : Met l yX7_holdsThing wsX7_holdsThing ({ frames := 1, cells := 0, slots := 0, locals := 40 }) (PS D cI cS [(h0, .inr (7, [.ref h1, .ref h2])), (h1, .inl (cI, 4, .inl (fun _ => -1)))] [.ref h0, .int 3, .int x0]) (vp_Si (fun r => r = (0 : Int32))) 0 0 (fun _ => False) := by
  refine Met.ofW (cc := cX7_holdsThing) (maxL := 5) (ret := (some .boolean)) (by decide) rfl ?_
  intro p e s m args below meth c s₁ B hml hv
  obtain ⟨rfl, hP, hKK⟩ := hv
  have hx := B.exec
  have hb := B.bytes
  have hr := B.returns
  have hts := atoms_spec (ws := wsX7_holdsThing) B.pre
  have hown : s.vm.findClass RX7 = some m.cls := findClass_of_methodNamed B.named
  have hlocks := B.notSynchronized
  have hK := hKK.1
  have hN := hKK.2
  have hin7 : ∀ w ∈ wsX70, w ∈ wsX7_holdsThing := by decide +kernel
  have hl := lv_entry ([.ref h0, .int 3, .int x0]) (n := 5) (Nat.le_of_ble_eq_true rfl)
  rw [lg_entry_eq]
  generalize (lg_sl ([.ref h0, .int 3, .int x0]) ++ List.replicate (5 - (lg_sl ([.ref h0, .int 3, .int x0])).length) Slot.unset).toArray = ls at hl ⊢
  have hl : lv_has ls 5 [(0, .ref h0), (1, .int 3), (2, .int x0)] := hl
  refine lv_iload_n hx hb dX7_holdsThing_0 rfl (lv_at hl 1 rfl) ?_
  have hPc := hP.sub (ws' := []) [] rfl
  refine lz_sn (As := [.int 3]) (rest := []) ⟨hx, hb, hml, hown, hts⟩ (c_X11_isShelf_4 l D cI cS) hKK hPc ⟨va_cnB 1 hts gX7_holdsThing_X11_isShelf_n18 rfl rfl rfl hN.2.2.2.2.2.2.2.2.2.2.2.2.2.2.2.2.2.2.2.2.2.2.2.1 (hts (.initialized RX11) (by decide +kernel)) (by decide +kernel) ⟨Nat.le_of_ble_eq_true rfl, Nat.le_of_ble_eq_true rfl⟩, (hts (.static yX11_isShelf) (by decide +kernel)), trivial⟩ rfl hl.1 rfl (Nat.le_of_ble_eq_true rfl) dX7_holdsThing_1 ⟨Nat.le_of_ble_eq_true rfl, Nat.le_of_ble_eq_true rfl⟩ (fun r4004 hw => ?_)
  subst hw
  refine lv_if_eq (tgt := 16) hx hb dX7_holdsThing_4 (by decide) (fun c4005 => ?_) (fun c4005 => ?_)
  · exact absurd c4005 (by decide)
  · refine lv_aload_n hx hb dX7_holdsThing_7 rfl (lv_at hl 0 rfl) ?_
    refine va_get (D := D) (ci := 7) (v := .ref h1) (C := RX7) (T := TX7) (N := 2) hx hb hts hin7 hown hK hP 0 rfl rfl 0 (by decide) (hts (.fieldLink RX7 11 "MissedPoints$Shelves" "kinds" "[I") (by decide +kernel)) (fun _ h9 => h9) rfl dX7_holdsThing_8 ?_
    refine lv_iload_n hx hb dX7_holdsThing_11 rfl (lv_at hl 1 rfl) ?_
    refine va_iald hx hb hK hP 1 0 rfl rfl (lz_vp (x := 3) (n := 4) (by decide) (by decide)) dX7_holdsThing_12 ?_
    refine lz_top (y := (-1)) rfl ?_
    refine lv_goto (tgt := 17) hx hb dX7_holdsThing_13 (by decide) ?_
    refine lv_istore_n (lv' := [(3, .int (-1)), (0, .ref h0), (1, .int 3), (2, .int x0)]) hx hb dX7_holdsThing_17 rfl hl (by decide) rfl (fun ls hl => ?_)
    refine lv_iconst (v := 0) hx hb dX7_holdsThing_18 (by decide) ?_
    refine lv_istore (lv' := [(4, .int 0), (3, .int (-1)), (0, .ref h0), (1, .int 3), (2, .int x0)]) hx hb dX7_holdsThing_19 hl (by decide) rfl (fun ls hl => ?_)
    refine lv_iload hx hb dX7_holdsThing_21 (lv_at hl 0 rfl) ?_
    refine lv_iconst (v := 3) hx hb dX7_holdsThing_23 (by decide) ?_
    refine lv_icmp_ge (tgt := 53) hx hb dX7_holdsThing_24 (by decide) (fun c4006 => ?_) (fun c4006 => ?_)
    · exact absurd c4006 (by decide)
    · refine lv_iload_n hx hb dX7_holdsThing_27 rfl (lv_at hl 1 rfl) ?_
      have hPc := hP.sub (ws' := []) [] rfl
      refine lz_sn (As := [.int (-1)]) (rest := []) ⟨hx, hb, hml, hown, hts⟩ (c_X11_isKind_1 l D cI cS) hKK hPc ⟨va_cnB 1 hts gX7_holdsThing_X11_isKind_n22 rfl rfl rfl hN.2.2.2.2.2.2.2.2.2.2.2.2.2.2.2.2.2.2.2.2.2.2.2.2 (hts (.initialized RX11) (by decide +kernel)) (by decide +kernel) ⟨Nat.le_of_ble_eq_true rfl, Nat.le_of_ble_eq_true rfl⟩, (hts (.static yX11_isKind) (by decide +kernel)), trivial⟩ rfl hl.1 rfl (Nat.le_of_ble_eq_true rfl) dX7_holdsThing_28 ⟨Nat.le_of_ble_eq_true rfl, Nat.le_of_ble_eq_true rfl⟩ (fun r4007 hw => ?_)
      subst hw
      refine lv_if_eq (tgt := 53) hx hb dX7_holdsThing_31 (by decide) (fun c4008 => ?_) (fun c4008 => ?_)
      · refine lv_iconst (v := 0) hx hb dX7_holdsThing_53 (by decide) ?_
        exact W.zret (v := 0) hx hb hr (by decide) (fun t ht hW => ⟨_, rfl, rfl, ht⟩) (fun q hq => absurd hq List.not_mem_nil) dX7_holdsThing_54
      · exact absurd c4008 (by decide)
set_option maxHeartbeats 4000000 in
set_option maxRecDepth 100000 in
theorem c_X7_fullestOf_0 (l : Launch) (D : va_G) (cI cS : ClassId) (h0 h1 h2 : Nat) (x0 : Int32) : Met l yX7_fullestOf wsX7_fullestOf ({ frames := 2, cells := 0, slots := 0, locals := 80 }) (PS D cI cS [(h0, .inr (7, [.ref h1, .ref h2])), (h1, .inl (cI, 4, .inl (fun _ => -1)))] [.ref h0, .int x0]) (vp_Si (fun r => r = ((-1) : Int32))) 0 0 (fun _ => False) := by
  refine Met.ofW (cc := cX7_fullestOf) (maxL := 5) (ret := (some .int)) (by decide) rfl ?_
  intro p e s m args below meth c s₁ B hml hv
  obtain ⟨rfl, hP, hKK⟩ := hv
  have hx := B.exec
  have hb := B.bytes
  have hr := B.returns
  have hts := atoms_spec (ws := wsX7_fullestOf) B.pre
  have hown : s.vm.findClass RX7 = some m.cls := findClass_of_methodNamed B.named
  have hlocks := B.notSynchronized
  have hK := hKK.1
  have hN := hKK.2
  have hl := lv_entry ([.ref h0, .int x0]) (n := 5) (Nat.le_of_ble_eq_true rfl)
  rw [lg_entry_eq]
  generalize (lg_sl ([.ref h0, .int x0]) ++ List.replicate (5 - (lg_sl ([.ref h0, .int x0])).length) Slot.unset).toArray = ls at hl ⊢
  have hl : lv_has ls 5 [(0, .ref h0), (1, .int x0)] := hl
  refine lv_iconst (v := (-1)) hx hb dX7_fullestOf_0 (by decide) ?_
  refine lv_istore_n (lv' := [(2, .int (-1)), (0, .ref h0), (1, .int x0)]) hx hb dX7_fullestOf_1 rfl hl (by decide) rfl (fun ls hl => ?_)
  refine lv_iconst (v := (-1)) hx hb dX7_fullestOf_2 (by decide) ?_
  refine lv_istore_n (lv' := [(3, .int (-1)), (2, .int (-1)), (0, .ref h0), (1, .int x0)]) hx hb dX7_fullestOf_3 rfl hl (by decide) rfl (fun ls hl => ?_)
  refine lv_iconst (v := 0) hx hb dX7_fullestOf_4 (by decide) ?_
  refine lv_istore (lv' := [(4, .int 0), (3, .int (-1)), (2, .int (-1)), (0, .ref h0), (1, .int x0)]) hx hb dX7_fullestOf_5 hl (by decide) rfl (fun ls hl => ?_)
  refine lv_iload hx hb dX7_fullestOf_7 (lv_at hl 0 rfl) ?_
  refine lv_iconst (v := 4) hx hb dX7_fullestOf_9 (by decide) ?_
  refine lv_icmp_ge (tgt := 57) hx hb dX7_fullestOf_10 (by decide) (fun c4012 => ?_) (fun c4012 => ?_)
  · exact absurd c4012 (by decide)
  · refine lv_aload_n hx hb dX7_fullestOf_13 rfl (lv_at hl 3 rfl) ?_
    refine lv_iload hx hb dX7_fullestOf_14 (lv_at hl 0 rfl) ?_
    refine lv_iload_n hx hb dX7_fullestOf_16 rfl (lv_at hl 4 rfl) ?_
    have hPc := hP.sub (ws' := [(h0, .inr (7, [.ref h1, .ref h2])), (h1, .inl (cI, 4, .inl (fun _ => -1)))]) [0, 1] rfl
    refine lz_sv (As := [.int 0, .int x0]) (rest := []) ⟨hx, hb, hml, hown, hts⟩ (c_X7_holdsThing_0 l D cI cS h0 h1 h2 x0) hKK hPc (ci := 7) rfl rfl (cwV 2 hts gX7_fullestOf_X7_holdsThing rfl rfl rfl (by decide +kernel) ⟨Nat.le_of_ble_eq_true rfl, Nat.le_of_ble_eq_true rfl⟩) rfl hl.1 rfl (Nat.le_of_ble_eq_true rfl) dX7_fullestOf_17 ⟨Nat.le_of_ble_eq_true rfl, Nat.le_of_ble_eq_true rfl⟩ (fun r4013 hw => ?_)
    subst hw
    refine lv_if_eq (tgt := 51) hx hb dX7_fullestOf_20 (by decide) (fun c4014 => ?_) (fun c4014 => ?_)
    · refine lv_iinc (v := 1) (lv' := [(4, .int 1), (3, .int (-1)), (2, .int (-1)), (0, .ref h0), (1, .int x0)]) hx hb dX7_fullestOf_51 hl (k := 0) rfl (by decide) (by decide) rfl (fun ls hl => ?_)
      refine lv_goto (tgt := 7) hx hb dX7_fullestOf_54 (by decide) ?_
      refine lv_iload hx hb dX7_fullestOf_7 (lv_at hl 0 rfl) ?_
      refine lv_iconst (v := 4) hx hb dX7_fullestOf_9 (by decide) ?_
      refine lv_icmp_ge (tgt := 57) hx hb dX7_fullestOf_10 (by decide) (fun c4015 => ?_) (fun c4015 => ?_)
      · exact absurd c4015 (by decide)
      · refine lv_aload_n hx hb dX7_fullestOf_13 rfl (lv_at hl 3 rfl) ?_
        refine lv_iload hx hb dX7_fullestOf_14 (lv_at hl 0 rfl) ?_
        refine lv_iload_n hx hb dX7_fullestOf_16 rfl (lv_at hl 4 rfl) ?_
        have hPc := hP.sub (ws' := [(h0, .inr (7, [.ref h1, .ref h2])), (h1, .inl (cI, 4, .inl (fun _ => -1)))]) [0, 1] rfl
        refine lz_sv (As := [.int 1, .int x0]) (rest := []) ⟨hx, hb, hml, hown, hts⟩ (c_X7_holdsThing_1 l D cI cS h0 h1 h2 x0) hKK hPc (ci := 7) rfl rfl (cwV 2 hts gX7_fullestOf_X7_holdsThing rfl rfl rfl (by decide +kernel) ⟨Nat.le_of_ble_eq_true rfl, Nat.le_of_ble_eq_true rfl⟩) rfl hl.1 rfl (Nat.le_of_ble_eq_true rfl) dX7_fullestOf_17 ⟨Nat.le_of_ble_eq_true rfl, Nat.le_of_ble_eq_true rfl⟩ (fun r4016 hw => ?_)
        subst hw
        refine lv_if_eq (tgt := 51) hx hb dX7_fullestOf_20 (by decide) (fun c4017 => ?_) (fun c4017 => ?_)
        · refine lv_iinc (v := 2) (lv' := [(4, .int 2), (3, .int (-1)), (2, .int (-1)), (0, .ref h0), (1, .int x0)]) hx hb dX7_fullestOf_51 hl (k := 0) rfl (by decide) (by decide) rfl (fun ls hl => ?_)
          refine lv_goto (tgt := 7) hx hb dX7_fullestOf_54 (by decide) ?_
          refine lv_iload hx hb dX7_fullestOf_7 (lv_at hl 0 rfl) ?_
          refine lv_iconst (v := 4) hx hb dX7_fullestOf_9 (by decide) ?_
          refine lv_icmp_ge (tgt := 57) hx hb dX7_fullestOf_10 (by decide) (fun c4018 => ?_) (fun c4018 => ?_)
          · exact absurd c4018 (by decide)
          · refine lv_aload_n hx hb dX7_fullestOf_13 rfl (lv_at hl 3 rfl) ?_
            refine lv_iload hx hb dX7_fullestOf_14 (lv_at hl 0 rfl) ?_
            refine lv_iload_n hx hb dX7_fullestOf_16 rfl (lv_at hl 4 rfl) ?_
            have hPc := hP.sub (ws' := [(h0, .inr (7, [.ref h1, .ref h2])), (h1, .inl (cI, 4, .inl (fun _ => -1)))]) [0, 1] rfl
            refine lz_sv (As := [.int 2, .int x0]) (rest := []) ⟨hx, hb, hml, hown, hts⟩ (c_X7_holdsThing_2 l D cI cS h0 h1 h2 x0) hKK hPc (ci := 7) rfl rfl (cwV 2 hts gX7_fullestOf_X7_holdsThing rfl rfl rfl (by decide +kernel) ⟨Nat.le_of_ble_eq_true rfl, Nat.le_of_ble_eq_true rfl⟩) rfl hl.1 rfl (Nat.le_of_ble_eq_true rfl) dX7_fullestOf_17 ⟨Nat.le_of_ble_eq_true rfl, Nat.le_of_ble_eq_true rfl⟩ (fun r4019 hw => ?_)
            subst hw
            refine lv_if_eq (tgt := 51) hx hb dX7_fullestOf_20 (by decide) (fun c4020 => ?_) (fun c4020 => ?_)
            · refine lv_iinc (v := 3) (lv' := [(4, .int 3), (3, .int (-1)), (2, .int (-1)), (0, .ref h0), (1, .int x0)]) hx hb dX7_fullestOf_51 hl (k := 0) rfl (by decide) (by decide) rfl (fun ls hl => ?_)
              refine lv_goto (tgt := 7) hx hb dX7_fullestOf_54 (by decide) ?_
              refine lv_iload hx hb dX7_fullestOf_7 (lv_at hl 0 rfl) ?_
              refine lv_iconst (v := 4) hx hb dX7_fullestOf_9 (by decide) ?_
              refine lv_icmp_ge (tgt := 57) hx hb dX7_fullestOf_10 (by decide) (fun c4021 => ?_) (fun c4021 => ?_)
              · exact absurd c4021 (by decide)
              · refine lv_aload_n hx hb dX7_fullestOf_13 rfl (lv_at hl 3 rfl) ?_
                refine lv_iload hx hb dX7_fullestOf_14 (lv_at hl 0 rfl) ?_
                refine lv_iload_n hx hb dX7_fullestOf_16 rfl (lv_at hl 4 rfl) ?_
                have hPc := hP.sub (ws' := [(h0, .inr (7, [.ref h1, .ref h2])), (h1, .inl (cI, 4, .inl (fun _ => -1)))]) [0, 1] rfl
                refine lz_sv (As := [.int 3, .int x0]) (rest := []) ⟨hx, hb, hml, hown, hts⟩ (c_X7_holdsThing_3 l D cI cS h0 h1 h2 x0) hKK hPc (ci := 7) rfl rfl (cwV 2 hts gX7_fullestOf_X7_holdsThing rfl rfl rfl (by decide +kernel) ⟨Nat.le_of_ble_eq_true rfl, Nat.le_of_ble_eq_true rfl⟩) rfl hl.1 rfl (Nat.le_of_ble_eq_true rfl) dX7_fullestOf_17 ⟨Nat.le_of_ble_eq_true rfl, Nat.le_of_ble_eq_true rfl⟩ (fun r4022 hw => ?_)
                subst hw
                refine lv_if_eq (tgt := 51) hx hb dX7_fullestOf_20 (by decide) (fun c4023 => ?_) (fun c4023 => ?_)
                · refine lv_iinc (v := 4) (lv' := [(4, .int 4), (3, .int (-1)), (2, .int (-1)), (0, .ref h0), (1, .int x0)]) hx hb dX7_fullestOf_51 hl (k := 0) rfl (by decide) (by decide) rfl (fun ls hl => ?_)
                  refine lv_goto (tgt := 7) hx hb dX7_fullestOf_54 (by decide) ?_
                  refine lv_iload hx hb dX7_fullestOf_7 (lv_at hl 0 rfl) ?_
                  refine lv_iconst (v := 4) hx hb dX7_fullestOf_9 (by decide) ?_
                  refine lv_icmp_ge (tgt := 57) hx hb dX7_fullestOf_10 (by decide) (fun c4024 => ?_) (fun c4024 => ?_)
                  · refine lv_iload_n hx hb dX7_fullestOf_57 rfl (lv_at hl 2 rfl) ?_
                    exact W.iret (v := (-1)) hx hb hr (fun t ht hW => ⟨_, rfl, rfl, ht⟩) (fun q hq => absurd hq List.not_mem_nil) dX7_fullestOf_58
                  · exact absurd c4024 (by decide)
                · exact absurd c4023 (by decide)
            · exact absurd c4020 (by decide)
        · exact absurd c4017 (by decide)
    · exact absurd c4014 (by decide)
set_option maxHeartbeats 4000000 in
set_option maxRecDepth 100000 in
theorem c_X7_pointsOf_0 (l : Launch) (D : va_G) (cI cS : ClassId) (h0 h1 h2 : Nat) (x0 : Int32) : Met l yX7_pointsOf wsX7_pointsOf ({ frames := 2, cells := 0, slots := 0, locals := 80 }) (PS D cI cS [(h0, .inr (7, [.ref h1, .ref h2])), (h1, .inl (cI, 4, .inl (fun _ => -1)))] [.ref h0, .int x0]) (vp_Si (fun r => r = (0 : Int32))) 0 0 (fun _ => False) := by
  refine Met.ofW (cc := cX7_pointsOf) (maxL := 4) (ret := (some .int)) (by decide) rfl ?_
  intro p e s m args below meth c s₁ B hml hv
  obtain ⟨rfl, hP, hKK⟩ := hv
  have hx := B.exec
  have hb := B.bytes
  have hr := B.returns
  have hts := atoms_spec (ws := wsX7_pointsOf) B.pre
  have hown : s.vm.findClass RX7 = some m.cls := findClass_of_methodNamed B.named
  have hlocks := B.notSynchronized
  have hK := hKK.1
  have hN := hKK.2
  have hl := lv_entry ([.ref h0, .int x0]) (n := 4) (Nat.le_of_ble_eq_true rfl)
  rw [lg_entry_eq]
  generalize (lg_sl ([.ref h0, .int x0]) ++ List.replicate (4 - (lg_sl ([.ref h0, .int x0])).length) Slot.unset).toArray = ls at hl ⊢
  have hl : lv_has ls 4 [(0, .ref h0), (1, .int x0)] := hl
  refine lv_iconst (v := 0) hx hb dX7_pointsOf_0 (by decide) ?_
  refine lv_istore_n (lv' := [(2, .int 0), (0, .ref h0), (1, .int x0)]) hx hb dX7_pointsOf_1 rfl hl (by decide) rfl (fun ls hl => ?_)
  refine lv_iconst (v := 0) hx hb dX7_pointsOf_2 (by decide) ?_
  refine lv_istore_n (lv' := [(3, .int 0), (2, .int 0), (0, .ref h0), (1, .int x0)]) hx hb dX7_pointsOf_3 rfl hl (by decide) rfl (fun ls hl => ?_)
  refine lv_iload_n hx hb dX7_pointsOf_4 rfl (lv_at hl 0 rfl) ?_
  refine lv_iconst (v := 4) hx hb dX7_pointsOf_5 (by decide) ?_
  refine lv_icmp_ge (tgt := 33) hx hb dX7_pointsOf_6 (by decide) (fun c4039 => ?_) (fun c4039 => ?_)
  · exact absurd c4039 (by decide)
  · refine lv_aload_n hx hb dX7_pointsOf_9 rfl (lv_at hl 2 rfl) ?_
    refine lv_iload_n hx hb dX7_pointsOf_10 rfl (lv_at hl 0 rfl) ?_
    refine lv_iload_n hx hb dX7_pointsOf_11 rfl (lv_at hl 3 rfl) ?_
    have hPc := hP.sub (ws' := [(h0, .inr (7, [.ref h1, .ref h2])), (h1, .inl (cI, 4, .inl (fun _ => -1)))]) [0, 1] rfl
    refine lz_sv (As := [.int 0, .int x0]) (rest := []) ⟨hx, hb, hml, hown, hts⟩ (c_X7_holdsThing_0 l D cI cS h0 h1 h2 x0) hKK hPc (ci := 7) rfl rfl (cwV 2 hts gX7_pointsOf_X7_holdsThing rfl rfl rfl (by decide +kernel) ⟨Nat.le_of_ble_eq_true rfl, Nat.le_of_ble_eq_true rfl⟩) rfl hl.1 rfl (Nat.le_of_ble_eq_true rfl) dX7_pointsOf_12 ⟨Nat.le_of_ble_eq_true rfl, Nat.le_of_ble_eq_true rfl⟩ (fun r4040 hw => ?_)
    subst hw
    refine lv_if_eq (tgt := 27) hx hb dX7_pointsOf_15 (by decide) (fun c4041 => ?_) (fun c4041 => ?_)
    · refine lv_iinc (v := 1) (lv' := [(3, .int 1), (2, .int 0), (0, .ref h0), (1, .int x0)]) hx hb dX7_pointsOf_27 hl (k := 0) rfl (by decide) (by decide) rfl (fun ls hl => ?_)
      refine lv_goto (tgt := 4) hx hb dX7_pointsOf_30 (by decide) ?_
      refine lv_iload_n hx hb dX7_pointsOf_4 rfl (lv_at hl 0 rfl) ?_
      refine lv_iconst (v := 4) hx hb dX7_pointsOf_5 (by decide) ?_
      refine lv_icmp_ge (tgt := 33) hx hb dX7_pointsOf_6 (by decide) (fun c4042 => ?_) (fun c4042 => ?_)
      · exact absurd c4042 (by decide)
      · refine lv_aload_n hx hb dX7_pointsOf_9 rfl (lv_at hl 2 rfl) ?_
        refine lv_iload_n hx hb dX7_pointsOf_10 rfl (lv_at hl 0 rfl) ?_
        refine lv_iload_n hx hb dX7_pointsOf_11 rfl (lv_at hl 3 rfl) ?_
        have hPc := hP.sub (ws' := [(h0, .inr (7, [.ref h1, .ref h2])), (h1, .inl (cI, 4, .inl (fun _ => -1)))]) [0, 1] rfl
        refine lz_sv (As := [.int 1, .int x0]) (rest := []) ⟨hx, hb, hml, hown, hts⟩ (c_X7_holdsThing_1 l D cI cS h0 h1 h2 x0) hKK hPc (ci := 7) rfl rfl (cwV 2 hts gX7_pointsOf_X7_holdsThing rfl rfl rfl (by decide +kernel) ⟨Nat.le_of_ble_eq_true rfl, Nat.le_of_ble_eq_true rfl⟩) rfl hl.1 rfl (Nat.le_of_ble_eq_true rfl) dX7_pointsOf_12 ⟨Nat.le_of_ble_eq_true rfl, Nat.le_of_ble_eq_true rfl⟩ (fun r4043 hw => ?_)
        subst hw
        refine lv_if_eq (tgt := 27) hx hb dX7_pointsOf_15 (by decide) (fun c4044 => ?_) (fun c4044 => ?_)
        · refine lv_iinc (v := 2) (lv' := [(3, .int 2), (2, .int 0), (0, .ref h0), (1, .int x0)]) hx hb dX7_pointsOf_27 hl (k := 0) rfl (by decide) (by decide) rfl (fun ls hl => ?_)
          refine lv_goto (tgt := 4) hx hb dX7_pointsOf_30 (by decide) ?_
          refine lv_iload_n hx hb dX7_pointsOf_4 rfl (lv_at hl 0 rfl) ?_
          refine lv_iconst (v := 4) hx hb dX7_pointsOf_5 (by decide) ?_
          refine lv_icmp_ge (tgt := 33) hx hb dX7_pointsOf_6 (by decide) (fun c4045 => ?_) (fun c4045 => ?_)
          · exact absurd c4045 (by decide)
          · refine lv_aload_n hx hb dX7_pointsOf_9 rfl (lv_at hl 2 rfl) ?_
            refine lv_iload_n hx hb dX7_pointsOf_10 rfl (lv_at hl 0 rfl) ?_
            refine lv_iload_n hx hb dX7_pointsOf_11 rfl (lv_at hl 3 rfl) ?_
            have hPc := hP.sub (ws' := [(h0, .inr (7, [.ref h1, .ref h2])), (h1, .inl (cI, 4, .inl (fun _ => -1)))]) [0, 1] rfl
            refine lz_sv (As := [.int 2, .int x0]) (rest := []) ⟨hx, hb, hml, hown, hts⟩ (c_X7_holdsThing_2 l D cI cS h0 h1 h2 x0) hKK hPc (ci := 7) rfl rfl (cwV 2 hts gX7_pointsOf_X7_holdsThing rfl rfl rfl (by decide +kernel) ⟨Nat.le_of_ble_eq_true rfl, Nat.le_of_ble_eq_true rfl⟩) rfl hl.1 rfl (Nat.le_of_ble_eq_true rfl) dX7_pointsOf_12 ⟨Nat.le_of_ble_eq_true rfl, Nat.le_of_ble_eq_true rfl⟩ (fun r4046 hw => ?_)
            subst hw
            refine lv_if_eq (tgt := 27) hx hb dX7_pointsOf_15 (by decide) (fun c4047 => ?_) (fun c4047 => ?_)
            · refine lv_iinc (v := 3) (lv' := [(3, .int 3), (2, .int 0), (0, .ref h0), (1, .int x0)]) hx hb dX7_pointsOf_27 hl (k := 0) rfl (by decide) (by decide) rfl (fun ls hl => ?_)
              refine lv_goto (tgt := 4) hx hb dX7_pointsOf_30 (by decide) ?_
              refine lv_iload_n hx hb dX7_pointsOf_4 rfl (lv_at hl 0 rfl) ?_
              refine lv_iconst (v := 4) hx hb dX7_pointsOf_5 (by decide) ?_
              refine lv_icmp_ge (tgt := 33) hx hb dX7_pointsOf_6 (by decide) (fun c4048 => ?_) (fun c4048 => ?_)
              · exact absurd c4048 (by decide)
              · refine lv_aload_n hx hb dX7_pointsOf_9 rfl (lv_at hl 2 rfl) ?_
                refine lv_iload_n hx hb dX7_pointsOf_10 rfl (lv_at hl 0 rfl) ?_
                refine lv_iload_n hx hb dX7_pointsOf_11 rfl (lv_at hl 3 rfl) ?_
                have hPc := hP.sub (ws' := [(h0, .inr (7, [.ref h1, .ref h2])), (h1, .inl (cI, 4, .inl (fun _ => -1)))]) [0, 1] rfl
                refine lz_sv (As := [.int 3, .int x0]) (rest := []) ⟨hx, hb, hml, hown, hts⟩ (c_X7_holdsThing_3 l D cI cS h0 h1 h2 x0) hKK hPc (ci := 7) rfl rfl (cwV 2 hts gX7_pointsOf_X7_holdsThing rfl rfl rfl (by decide +kernel) ⟨Nat.le_of_ble_eq_true rfl, Nat.le_of_ble_eq_true rfl⟩) rfl hl.1 rfl (Nat.le_of_ble_eq_true rfl) dX7_pointsOf_12 ⟨Nat.le_of_ble_eq_true rfl, Nat.le_of_ble_eq_true rfl⟩ (fun r4049 hw => ?_)
                subst hw
                refine lv_if_eq (tgt := 27) hx hb dX7_pointsOf_15 (by decide) (fun c4050 => ?_) (fun c4050 => ?_)
                · refine lv_iinc (v := 4) (lv' := [(3, .int 4), (2, .int 0), (0, .ref h0), (1, .int x0)]) hx hb dX7_pointsOf_27 hl (k := 0) rfl (by decide) (by decide) rfl (fun ls hl => ?_)
                  refine lv_goto (tgt := 4) hx hb dX7_pointsOf_30 (by decide) ?_
                  refine lv_iload_n hx hb dX7_pointsOf_4 rfl (lv_at hl 0 rfl) ?_
                  refine lv_iconst (v := 4) hx hb dX7_pointsOf_5 (by decide) ?_
                  refine lv_icmp_ge (tgt := 33) hx hb dX7_pointsOf_6 (by decide) (fun c4051 => ?_) (fun c4051 => ?_)
                  · refine lv_iload_n hx hb dX7_pointsOf_33 rfl (lv_at hl 1 rfl) ?_
                    exact W.iret (v := 0) hx hb hr (fun t ht hW => ⟨_, rfl, rfl, ht⟩) (fun q hq => absurd hq List.not_mem_nil) dX7_pointsOf_34
                  · exact absurd c4051 (by decide)
                · exact absurd c4050 (by decide)
            · exact absurd c4047 (by decide)
        · exact absurd c4044 (by decide)
    · exact absurd c4041 (by decide)
set_option maxHeartbeats 4000000 in
set_option maxRecDepth 100000 in
theorem c_X7_countOf_0 (l : Launch) (D : va_G) (cI cS : ClassId) (h0 h1 h2 : Nat) (x0 : Int32) : Met l yX7_countOf wsX7_countOf ({ frames := 2, cells := 0, slots := 0, locals := 80 }) (PS D cI cS [(h0, .inr (7, [.ref h1, .ref h2])), (h1, .inl (cI, 4, .inl (fun _ => -1)))] [.ref h0, .int x0]) (vp_Si (fun r => r = (0 : Int32))) 0 0 (fun _ => False) := by
  refine Met.ofW (cc := cX7_countOf) (maxL := 4) (ret := (some .int)) (by decide) rfl ?_
  intro p e s m args below meth c s₁ B hml hv
  obtain ⟨rfl, hP, hKK⟩ := hv
  have hx := B.exec
  have hb := B.bytes
  have hr := B.returns
  have hts := atoms_spec (ws := wsX7_countOf) B.pre
  have hown : s.vm.findClass RX7 = some m.cls := findClass_of_methodNamed B.named
  have hlocks := B.notSynchronized
  have hK := hKK.1
  have hN := hKK.2
  have hl := lv_entry ([.ref h0, .int x0]) (n := 4) (Nat.le_of_ble_eq_true rfl)
  rw [lg_entry_eq]
  generalize (lg_sl ([.ref h0, .int x0]) ++ List.replicate (4 - (lg_sl ([.ref h0, .int x0])).length) Slot.unset).toArray = ls at hl ⊢
  have hl : lv_has ls 4 [(0, .ref h0), (1, .int x0)] := hl
  refine lv_iconst (v := 0) hx hb dX7_countOf_0 (by decide) ?_
  refine lv_istore_n (lv' := [(2, .int 0), (0, .ref h0), (1, .int x0)]) hx hb dX7_countOf_1 rfl hl (by decide) rfl (fun ls hl => ?_)
  refine lv_iconst (v := 0) hx hb dX7_countOf_2 (by decide) ?_
  refine lv_istore_n (lv' := [(3, .int 0), (2, .int 0), (0, .ref h0), (1, .int x0)]) hx hb dX7_countOf_3 rfl hl (by decide) rfl (fun ls hl => ?_)
  refine lv_iload_n hx hb dX7_countOf_4 rfl (lv_at hl 0 rfl) ?_
  refine lv_iconst (v := 4) hx hb dX7_countOf_5 (by decide) ?_
  refine lv_icmp_ge (tgt := 27) hx hb dX7_countOf_6 (by decide) (fun c4066 => ?_) (fun c4066 => ?_)
  · exact absurd c4066 (by decide)
  · refine lv_aload_n hx hb dX7_countOf_9 rfl (lv_at hl 2 rfl) ?_
    refine lv_iload_n hx hb dX7_countOf_10 rfl (lv_at hl 0 rfl) ?_
    refine lv_iload_n hx hb dX7_countOf_11 rfl (lv_at hl 3 rfl) ?_
    have hPc := hP.sub (ws' := [(h0, .inr (7, [.ref h1, .ref h2])), (h1, .inl (cI, 4, .inl (fun _ => -1)))]) [0, 1] rfl
    refine lz_sv (As := [.int 0, .int x0]) (rest := []) ⟨hx, hb, hml, hown, hts⟩ (c_X7_holdsThing_0 l D cI cS h0 h1 h2 x0) hKK hPc (ci := 7) rfl rfl (cwV 2 hts gX7_countOf_X7_holdsThing rfl rfl rfl (by decide +kernel) ⟨Nat.le_of_ble_eq_true rfl, Nat.le_of_ble_eq_true rfl⟩) rfl hl.1 rfl (Nat.le_of_ble_eq_true rfl) dX7_countOf_12 ⟨Nat.le_of_ble_eq_true rfl, Nat.le_of_ble_eq_true rfl⟩ (fun r4067 hw => ?_)
    subst hw
    refine lv_if_eq (tgt := 21) hx hb dX7_countOf_15 (by decide) (fun c4068 => ?_) (fun c4068 => ?_)
    · refine lv_iinc (v := 1) (lv' := [(3, .int 1), (2, .int 0), (0, .ref h0), (1, .int x0)]) hx hb dX7_countOf_21 hl (k := 0) rfl (by decide) (by decide) rfl (fun ls hl => ?_)
      refine lv_goto (tgt := 4) hx hb dX7_countOf_24 (by decide) ?_
      refine lv_iload_n hx hb dX7_countOf_4 rfl (lv_at hl 0 rfl) ?_
      refine lv_iconst (v := 4) hx hb dX7_countOf_5 (by decide) ?_
      refine lv_icmp_ge (tgt := 27) hx hb dX7_countOf_6 (by decide) (fun c4069 => ?_) (fun c4069 => ?_)
      · exact absurd c4069 (by decide)
      · refine lv_aload_n hx hb dX7_countOf_9 rfl (lv_at hl 2 rfl) ?_
        refine lv_iload_n hx hb dX7_countOf_10 rfl (lv_at hl 0 rfl) ?_
        refine lv_iload_n hx hb dX7_countOf_11 rfl (lv_at hl 3 rfl) ?_
        have hPc := hP.sub (ws' := [(h0, .inr (7, [.ref h1, .ref h2])), (h1, .inl (cI, 4, .inl (fun _ => -1)))]) [0, 1] rfl
        refine lz_sv (As := [.int 1, .int x0]) (rest := []) ⟨hx, hb, hml, hown, hts⟩ (c_X7_holdsThing_1 l D cI cS h0 h1 h2 x0) hKK hPc (ci := 7) rfl rfl (cwV 2 hts gX7_countOf_X7_holdsThing rfl rfl rfl (by decide +kernel) ⟨Nat.le_of_ble_eq_true rfl, Nat.le_of_ble_eq_true rfl⟩) rfl hl.1 rfl (Nat.le_of_ble_eq_true rfl) dX7_countOf_12 ⟨Nat.le_of_ble_eq_true rfl, Nat.le_of_ble_eq_true rfl⟩ (fun r4070 hw => ?_)
        subst hw
        refine lv_if_eq (tgt := 21) hx hb dX7_countOf_15 (by decide) (fun c4071 => ?_) (fun c4071 => ?_)
        · refine lv_iinc (v := 2) (lv' := [(3, .int 2), (2, .int 0), (0, .ref h0), (1, .int x0)]) hx hb dX7_countOf_21 hl (k := 0) rfl (by decide) (by decide) rfl (fun ls hl => ?_)
          refine lv_goto (tgt := 4) hx hb dX7_countOf_24 (by decide) ?_
          refine lv_iload_n hx hb dX7_countOf_4 rfl (lv_at hl 0 rfl) ?_
          refine lv_iconst (v := 4) hx hb dX7_countOf_5 (by decide) ?_
          refine lv_icmp_ge (tgt := 27) hx hb dX7_countOf_6 (by decide) (fun c4072 => ?_) (fun c4072 => ?_)
          · exact absurd c4072 (by decide)
          · refine lv_aload_n hx hb dX7_countOf_9 rfl (lv_at hl 2 rfl) ?_
            refine lv_iload_n hx hb dX7_countOf_10 rfl (lv_at hl 0 rfl) ?_
            refine lv_iload_n hx hb dX7_countOf_11 rfl (lv_at hl 3 rfl) ?_
            have hPc := hP.sub (ws' := [(h0, .inr (7, [.ref h1, .ref h2])), (h1, .inl (cI, 4, .inl (fun _ => -1)))]) [0, 1] rfl
            refine lz_sv (As := [.int 2, .int x0]) (rest := []) ⟨hx, hb, hml, hown, hts⟩ (c_X7_holdsThing_2 l D cI cS h0 h1 h2 x0) hKK hPc (ci := 7) rfl rfl (cwV 2 hts gX7_countOf_X7_holdsThing rfl rfl rfl (by decide +kernel) ⟨Nat.le_of_ble_eq_true rfl, Nat.le_of_ble_eq_true rfl⟩) rfl hl.1 rfl (Nat.le_of_ble_eq_true rfl) dX7_countOf_12 ⟨Nat.le_of_ble_eq_true rfl, Nat.le_of_ble_eq_true rfl⟩ (fun r4073 hw => ?_)
            subst hw
            refine lv_if_eq (tgt := 21) hx hb dX7_countOf_15 (by decide) (fun c4074 => ?_) (fun c4074 => ?_)
            · refine lv_iinc (v := 3) (lv' := [(3, .int 3), (2, .int 0), (0, .ref h0), (1, .int x0)]) hx hb dX7_countOf_21 hl (k := 0) rfl (by decide) (by decide) rfl (fun ls hl => ?_)
              refine lv_goto (tgt := 4) hx hb dX7_countOf_24 (by decide) ?_
              refine lv_iload_n hx hb dX7_countOf_4 rfl (lv_at hl 0 rfl) ?_
              refine lv_iconst (v := 4) hx hb dX7_countOf_5 (by decide) ?_
              refine lv_icmp_ge (tgt := 27) hx hb dX7_countOf_6 (by decide) (fun c4075 => ?_) (fun c4075 => ?_)
              · exact absurd c4075 (by decide)
              · refine lv_aload_n hx hb dX7_countOf_9 rfl (lv_at hl 2 rfl) ?_
                refine lv_iload_n hx hb dX7_countOf_10 rfl (lv_at hl 0 rfl) ?_
                refine lv_iload_n hx hb dX7_countOf_11 rfl (lv_at hl 3 rfl) ?_
                have hPc := hP.sub (ws' := [(h0, .inr (7, [.ref h1, .ref h2])), (h1, .inl (cI, 4, .inl (fun _ => -1)))]) [0, 1] rfl
                refine lz_sv (As := [.int 3, .int x0]) (rest := []) ⟨hx, hb, hml, hown, hts⟩ (c_X7_holdsThing_3 l D cI cS h0 h1 h2 x0) hKK hPc (ci := 7) rfl rfl (cwV 2 hts gX7_countOf_X7_holdsThing rfl rfl rfl (by decide +kernel) ⟨Nat.le_of_ble_eq_true rfl, Nat.le_of_ble_eq_true rfl⟩) rfl hl.1 rfl (Nat.le_of_ble_eq_true rfl) dX7_countOf_12 ⟨Nat.le_of_ble_eq_true rfl, Nat.le_of_ble_eq_true rfl⟩ (fun r4076 hw => ?_)
                subst hw
                refine lv_if_eq (tgt := 21) hx hb dX7_countOf_15 (by decide) (fun c4077 => ?_) (fun c4077 => ?_)
                · refine lv_iinc (v := 4) (lv' := [(3, .int 4), (2, .int 0), (0, .ref h0), (1, .int x0)]) hx hb dX7_countOf_21 hl (k := 0) rfl (by decide) (by decide) rfl (fun ls hl => ?_)
                  refine lv_goto (tgt := 4) hx hb dX7_countOf_24 (by decide) ?_
                  refine lv_iload_n hx hb dX7_countOf_4 rfl (lv_at hl 0 rfl) ?_
                  refine lv_iconst (v := 4) hx hb dX7_countOf_5 (by decide) ?_
                  refine lv_icmp_ge (tgt := 27) hx hb dX7_countOf_6 (by decide) (fun c4078 => ?_) (fun c4078 => ?_)
                  · refine lv_iload_n hx hb dX7_countOf_27 rfl (lv_at hl 1 rfl) ?_
                    exact W.iret (v := 0) hx hb hr (fun t ht hW => ⟨_, rfl, rfl, ht⟩) (fun q hq => absurd hq List.not_mem_nil) dX7_countOf_28
                  · exact absurd c4078 (by decide)
                · exact absurd c4077 (by decide)
            · exact absurd c4074 (by decide)
        · exact absurd c4071 (by decide)
    · exact absurd c4068 (by decide)
set_option maxHeartbeats 4000000 in
set_option maxRecDepth 100000 in
theorem c_X11_held_0 (l : Launch) (D : va_G) (cI cS : ClassId) (h0 h1 h2 h3 h4 h5 h6 h7 h8 h9 h10 h11 h12 h13 h14 h35 h36 : Nat) (x0 x1 : Int32) : Met l yX11_held wsX11_held ({ frames := 3, cells := 0, slots := 0, locals := 120 }) (PS D cI cS [(h0, .inr (11, [.ref h1, .ref h2, .ref h3, .ref h4, .ref h5, .ref h6, .ref h7, .int 0, .int 0, .ref h8, .ref h9, .ref h10, .ref h11, .ref h12, .ref h13, .ref h14])), (h14, .inr (7, [.ref h35, .ref h36])), (h35, .inl (cI, 4, .inl (fun _ => -1)))] [.ref h0, .int x0, .int x1]) (vp_Si (fun r => r = if x0 < 0 then ((-2) : Int32) else (if (6 : Int32) ≤ x0 then ((-2) : Int32) else (if x1 < 0 then ((-2) : Int32) else (if x1 ≤ 2 then (if x1 = 0 then (0 : Int32) else (if x1 = 1 then (0 : Int32) else ((-1) : Int32))) else ((-2) : Int32)))))) 0 0 (fun _ => False) := by
  refine Met.ofW (cc := cX11_held) (maxL := 3) (ret := (some .int)) (by decide) rfl ?_
  intro p e s m args below meth c s₁ B hml hv
  obtain ⟨rfl, hP, hKK⟩ := hv
  have hx := B.exec
  have hb := B.bytes
  have hr := B.returns
  have hts := atoms_spec (ws := wsX11_held) B.pre
  have hown : s.vm.findClass RX11 = some m.cls := findClass_of_methodNamed B.named
  have hlocks := B.notSynchronized
  have hK := hKK.1
  have hN := hKK.2
  have hin11 : ∀ w ∈ wsX110, w ∈ wsX11_held := by decide +kernel
  have hl := lv_entry ([.ref h0, .int x0, .int x1]) (n := 3) (Nat.le_of_ble_eq_true rfl)
  rw [lg_entry_eq]
  generalize (lg_sl ([.ref h0, .int x0, .int x1]) ++ List.replicate (3 - (lg_sl ([.ref h0, .int x0, .int x1])).length) Slot.unset).toArray = ls at hl ⊢
  have hl : lv_has ls 3 [(0, .ref h0), (1, .int x0), (2, .int x1)] := hl
  refine lv_iload_n hx hb dX11_held_0 rfl (lv_at hl 1 rfl) ?_
  have hPc := hP.sub (ws' := []) [] rfl
  refine lz_ss (As := [.int x0]) (rest := []) ⟨hx, hb, hml, hown, hts⟩ (c_X11_isKind_0 l D cI cS x0) hKK hPc (va_cwS 1 hts gX11_held_X11_isKind rfl rfl rfl (by decide +kernel) ⟨Nat.le_of_ble_eq_true rfl, Nat.le_of_ble_eq_true rfl⟩) rfl hl.1 rfl (Nat.le_of_ble_eq_true rfl) dX11_held_1 ⟨Nat.le_of_ble_eq_true rfl, Nat.le_of_ble_eq_true rfl⟩ (fun r4080 hw => ?_)
  by_cases k4081 : x0 < 0
  · rw [if_pos k4081] at hw
    subst hw
    refine lv_if_eq (tgt := 16) hx hb dX11_held_4 (by decide) (fun c4082 => ?_) (fun c4082 => ?_)
    · refine lv_bipush (v := (-2)) hx hb dX11_held_16 (by decide) ?_
      exact W.iret (v := (-2)) hx hb hr (fun t ht hW => ⟨_, rfl, by rw [if_pos k4081], ht⟩) (fun q hq => absurd hq List.not_mem_nil) dX11_held_18
    · exact absurd c4082 (by decide)
  · rw [if_neg k4081] at hw
    by_cases k4083 : (6 : Int32) ≤ x0
    · rw [if_pos k4083] at hw
      subst hw
      refine lv_if_eq (tgt := 16) hx hb dX11_held_4 (by decide) (fun c4084 => ?_) (fun c4084 => ?_)
      · refine lv_bipush (v := (-2)) hx hb dX11_held_16 (by decide) ?_
        exact W.iret (v := (-2)) hx hb hr (fun t ht hW => ⟨_, rfl, by rw [if_neg k4081, if_pos k4083], ht⟩) (fun q hq => absurd hq List.not_mem_nil) dX11_held_18
      · exact absurd c4084 (by decide)
    · rw [if_neg k4083] at hw
      subst hw
      refine lv_if_eq (tgt := 16) hx hb dX11_held_4 (by decide) (fun c4085 => ?_) (fun c4085 => ?_)
      · exact absurd c4085 (by decide)
      · refine lv_iload_n hx hb dX11_held_7 rfl (lv_at hl 2 rfl) ?_
        refine lv_if_lt (tgt := 16) hx hb dX11_held_8 (by decide) (fun c4086 => ?_) (fun c4086 => ?_)
        · refine lv_bipush (v := (-2)) hx hb dX11_held_16 (by decide) ?_
          exact W.iret (v := (-2)) hx hb hr (fun t ht hW => ⟨_, rfl, by rw [if_neg k4081, if_neg k4083, if_pos c4086], ht⟩) (fun q hq => absurd hq List.not_mem_nil) dX11_held_18
        · refine lv_iload_n hx hb dX11_held_11 rfl (lv_at hl 2 rfl) ?_
          refine lv_iconst (v := 2) hx hb dX11_held_12 (by decide) ?_
          refine lv_icmp_le (tgt := 19) hx hb dX11_held_13 (by decide) (fun c4087 => ?_) (fun c4087 => ?_)
          · refine lv_iload_n hx hb dX11_held_19 rfl (lv_at hl 2 rfl) ?_
            refine lv_if_ne (tgt := 32) hx hb dX11_held_20 (by decide) (fun c4088 => ?_) (fun c4088 => ?_)
            · refine lv_iload_n hx hb dX11_held_32 rfl (lv_at hl 2 rfl) ?_
              refine lv_iconst (v := 1) hx hb dX11_held_33 (by decide) ?_
              refine lv_icmp_ne (tgt := 48) hx hb dX11_held_34 (by decide) (fun c4089 => ?_) (fun c4089 => ?_)
              · refine lv_aload_n hx hb dX11_held_48 rfl (lv_at hl 0 rfl) ?_
                refine va_get (D := D) (ci := 11) (v := .ref h14) (C := RX11) (T := TX11) (N := 16) hx hb hts hin11 hown hK hP 0 rfl rfl 15 (by decide) (hts (.fieldLink RX11 92 "MissedPoints" "shelves" "LMissedPoints$Shelves;") (by decide +kernel)) (fun _ h9 => h9) rfl dX11_held_49 ?_
                refine lv_iload_n hx hb dX11_held_52 rfl (lv_at hl 1 rfl) ?_
                have hPc := hP.sub (ws' := [(h14, .inr (7, [.ref h35, .ref h36])), (h35, .inl (cI, 4, .inl (fun _ => -1)))]) [1, 2] rfl
                refine lz_sv (As := [.int x0]) (rest := []) ⟨hx, hb, hml, hown, hts⟩ (c_X7_fullestOf_0 l D cI cS h14 h35 h36 x0) hKK hPc (ci := 7) rfl rfl (cwV 1 hts gX11_held_X7_fullestOf rfl rfl rfl (by decide +kernel) ⟨Nat.le_of_ble_eq_true rfl, Nat.le_of_ble_eq_true rfl⟩) rfl hl.1 rfl (Nat.le_of_ble_eq_true rfl) dX11_held_53 ⟨Nat.le_of_ble_eq_true rfl, Nat.le_of_ble_eq_true rfl⟩ (fun r4090 hw => ?_)
                subst hw
                exact W.iret (v := (-1)) hx hb hr (fun t ht hW => ⟨_, rfl, by rw [if_neg k4081, if_neg k4083, if_neg c4086, if_pos c4087, if_neg c4088, if_neg c4089], ht⟩) (fun q hq => absurd hq List.not_mem_nil) dX11_held_56
              · subst c4089
                refine lv_aload_n hx hb dX11_held_37 rfl (lv_at hl 0 rfl) ?_
                refine va_get (D := D) (ci := 11) (v := .ref h14) (C := RX11) (T := TX11) (N := 16) hx hb hts hin11 hown hK hP 0 rfl rfl 15 (by decide) (hts (.fieldLink RX11 92 "MissedPoints" "shelves" "LMissedPoints$Shelves;") (by decide +kernel)) (fun _ h9 => h9) rfl dX11_held_38 ?_
                refine lv_iload_n hx hb dX11_held_41 rfl (lv_at hl 1 rfl) ?_
                have hPc := hP.sub (ws' := [(h14, .inr (7, [.ref h35, .ref h36])), (h35, .inl (cI, 4, .inl (fun _ => -1)))]) [1, 2] rfl
                refine lz_sv (As := [.int x0]) (rest := []) ⟨hx, hb, hml, hown, hts⟩ (c_X7_pointsOf_0 l D cI cS h14 h35 h36 x0) hKK hPc (ci := 7) rfl rfl (cwV 1 hts gX11_held_X7_pointsOf rfl rfl rfl (by decide +kernel) ⟨Nat.le_of_ble_eq_true rfl, Nat.le_of_ble_eq_true rfl⟩) rfl hl.1 rfl (Nat.le_of_ble_eq_true rfl) dX11_held_42 ⟨Nat.le_of_ble_eq_true rfl, Nat.le_of_ble_eq_true rfl⟩ (fun r4091 hw => ?_)
                subst hw
                refine lv_goto (tgt := 56) hx hb dX11_held_45 (by decide) ?_
                exact W.iret (v := 0) hx hb hr (fun t ht hW => ⟨_, rfl, by rw [if_neg k4081, if_neg k4083, if_neg c4086, if_pos c4087, if_neg c4088, if_pos rfl], ht⟩) (fun q hq => absurd hq List.not_mem_nil) dX11_held_56
            · subst c4088
              refine lv_aload_n hx hb dX11_held_23 rfl (lv_at hl 0 rfl) ?_
              refine va_get (D := D) (ci := 11) (v := .ref h14) (C := RX11) (T := TX11) (N := 16) hx hb hts hin11 hown hK hP 0 rfl rfl 15 (by decide) (hts (.fieldLink RX11 92 "MissedPoints" "shelves" "LMissedPoints$Shelves;") (by decide +kernel)) (fun _ h9 => h9) rfl dX11_held_24 ?_
              refine lv_iload_n hx hb dX11_held_27 rfl (lv_at hl 1 rfl) ?_
              have hPc := hP.sub (ws' := [(h14, .inr (7, [.ref h35, .ref h36])), (h35, .inl (cI, 4, .inl (fun _ => -1)))]) [1, 2] rfl
              refine lz_sv (As := [.int x0]) (rest := []) ⟨hx, hb, hml, hown, hts⟩ (c_X7_countOf_0 l D cI cS h14 h35 h36 x0) hKK hPc (ci := 7) rfl rfl (cwV 1 hts gX11_held_X7_countOf rfl rfl rfl (by decide +kernel) ⟨Nat.le_of_ble_eq_true rfl, Nat.le_of_ble_eq_true rfl⟩) rfl hl.1 rfl (Nat.le_of_ble_eq_true rfl) dX11_held_28 ⟨Nat.le_of_ble_eq_true rfl, Nat.le_of_ble_eq_true rfl⟩ (fun r4092 hw => ?_)
              subst hw
              exact W.iret (v := 0) hx hb hr (fun t ht hW => ⟨_, rfl, by rw [if_neg k4081, if_neg k4083, if_neg c4086, if_pos c4087, if_pos rfl], ht⟩) (fun q hq => absurd hq List.not_mem_nil) dX11_held_31
          · refine lv_bipush (v := (-2)) hx hb dX11_held_16 (by decide) ?_
            exact W.iret (v := (-2)) hx hb hr (fun t ht hW => ⟨_, rfl, by rw [if_neg k4081, if_neg k4083, if_neg c4086, if_neg c4087], ht⟩) (fun q hq => absurd hq List.not_mem_nil) dX11_held_18
