set_option maxRecDepth 20000 in
theorem ggX12_shelf_X12_in : GoodIn wsX12_shelf wsX12_in := goodIn_r _ [12] (by decide +kernel) (by decide +kernel)
set_option maxRecDepth 20000 in
theorem gX12_shelf_X12_in : GoodIn wsX12_shelf (va_wsS RX12 66 yX12_in wsX12_in) := goodIn_app (goodIn_of _ (by decide +kernel)) ggX12_shelf_X12_in
set_option maxRecDepth 20000 in
theorem ggX12_shelf_X12_isPoint : GoodIn wsX12_shelf wsX12_isPoint := goodIn_r _ [16, 17, 10, 11, 8, 12, 66, 67, 68, 69, 70, 71, 72, 73, 74, 75, 76, 77, 78, 79, 80, 81, 82, 83, 84, 85, 86, 87, 88, 89] (by decide +kernel) (by decide +kernel)
set_option maxRecDepth 20000 in
theorem gX12_shelf_X12_isPoint : GoodIn wsX12_shelf (wsV RX12 74 RX12 yX12_isPoint wsX12_isPoint) := goodIn_app (goodIn_of _ (by decide +kernel)) ggX12_shelf_X12_isPoint
set_option maxRecDepth 20000 in
theorem ggX12_shelf_X12_isSet : GoodIn wsX12_shelf wsX12_isSet := goodIn_r _ [21, 22, 23, 24, 8, 25, 17, 66, 67, 68, 69, 70, 71, 72, 73, 74, 75, 76, 77, 78, 79, 80, 81, 82, 83, 84, 85, 86, 87, 88, 89] (by decide +kernel) (by decide +kernel)
set_option maxRecDepth 20000 in
theorem gX12_shelf_X12_isSet : GoodIn wsX12_shelf (wsV RX12 110 RX12 yX12_isSet wsX12_isSet) := goodIn_app (goodIn_of _ (by decide +kernel)) ggX12_shelf_X12_isSet
set_option maxRecDepth 20000 in
theorem ggX12_shelf_X12_isSheet : GoodIn wsX12_shelf wsX12_isSheet := goodIn_r _ [28, 10, 11, 8, 12] (by decide +kernel) (by decide +kernel)
set_option maxRecDepth 20000 in
theorem gX12_shelf_X12_isSheet : GoodIn wsX12_shelf (va_wsS RX12 157 yX12_isSheet wsX12_isSheet) := goodIn_app (goodIn_of _ (by decide +kernel)) ggX12_shelf_X12_isSheet
set_option maxRecDepth 20000 in
theorem ggX12_shelf_X12_isShelf : GoodIn wsX12_shelf wsX12_isShelf := goodIn_r _ [9, 10, 11, 8, 12] (by decide +kernel) (by decide +kernel)
set_option maxRecDepth 20000 in
theorem gX12_shelf_X12_isShelf : GoodIn wsX12_shelf (va_wsS RX12 222 yX12_isShelf wsX12_isShelf) := goodIn_app (goodIn_of _ (by decide +kernel)) ggX12_shelf_X12_isShelf
set_option maxRecDepth 20000 in
theorem ggX12_shelf_X12_pieceAt : GoodIn wsX12_shelf wsX12_pieceAt := goodIn_r _ [32, 33, 34, 35, 8, 36, 37, 38, 39, 40, 41, 42, 17, 43, 22, 23, 24, 25, 44, 45, 46, 47, 48, 49, 50, 51, 52, 53, 54, 55, 56, 57, 58, 59, 60, 61, 66, 67, 68, 69, 70, 71, 72, 73, 74, 75, 76, 77, 78, 79, 80, 81, 82, 83, 84, 85, 86, 87, 88, 89] (by decide +kernel) (by decide +kernel)
set_option maxRecDepth 20000 in
theorem gX12_shelf_X12_pieceAt : GoodIn wsX12_shelf (wsV RX12 135 RX12 yX12_pieceAt wsX12_pieceAt) := goodIn_app (goodIn_of _ (by decide +kernel)) ggX12_shelf_X12_pieceAt
theorem dX12_shelf_0 : decode cX12_shelf 0 = .ok (.iload_n 1, 1) := by decide +kernel
theorem dX12_shelf_1 : decode cX12_shelf 1 = .ok (.invokestatic 222, 3) := by decide +kernel
theorem dX12_shelf_10 : decode cX12_shelf 10 = .ok (.invokestatic 66, 3) := by decide +kernel
theorem dX12_shelf_102 : decode cX12_shelf 102 = .ok (.bipush (-11), 2) := by decide +kernel
theorem dX12_shelf_104 : decode cX12_shelf 104 = .ok (.ireturn, 1) := by decide +kernel
theorem dX12_shelf_105 : decode cX12_shelf 105 = .ok (.iload_n 2, 1) := by decide +kernel
theorem dX12_shelf_106 : decode cX12_shelf 106 = .ok (.ifCond .ne 20, 3) := by decide +kernel
theorem dX12_shelf_126 : decode cX12_shelf 126 = .ok (.iload_n 2, 1) := by decide +kernel
theorem dX12_shelf_127 : decode cX12_shelf 127 = .ok (.iconst 1, 1) := by decide +kernel
theorem dX12_shelf_128 : decode cX12_shelf 128 = .ok (.if_icmp .ne 7, 3) := by decide +kernel
theorem dX12_shelf_13 : decode cX12_shelf 13 = .ok (.ifCond .eq 40, 3) := by decide +kernel
theorem dX12_shelf_135 : decode cX12_shelf 135 = .ok (.iload_n 2, 1) := by decide +kernel
theorem dX12_shelf_136 : decode cX12_shelf 136 = .ok (.iconst 2, 1) := by decide +kernel
theorem dX12_shelf_137 : decode cX12_shelf 137 = .ok (.if_icmp .ne 7, 3) := by decide +kernel
theorem dX12_shelf_144 : decode cX12_shelf 144 = .ok (.iload_n 2, 1) := by decide +kernel
theorem dX12_shelf_145 : decode cX12_shelf 145 = .ok (.iconst 3, 1) := by decide +kernel
theorem dX12_shelf_146 : decode cX12_shelf 146 = .ok (.if_icmp .ne 7, 3) := by decide +kernel
theorem dX12_shelf_149 : decode cX12_shelf 149 = .ok (.iconst 2, 1) := by decide +kernel
theorem dX12_shelf_150 : decode cX12_shelf 150 = .ok (.goto 14, 3) := by decide +kernel
theorem dX12_shelf_153 : decode cX12_shelf 153 = .ok (.iload_n 2, 1) := by decide +kernel
theorem dX12_shelf_154 : decode cX12_shelf 154 = .ok (.iconst 4, 1) := by decide +kernel
theorem dX12_shelf_155 : decode cX12_shelf 155 = .ok (.if_icmp .ne 8, 3) := by decide +kernel
theorem dX12_shelf_16 : decode cX12_shelf 16 = .ok (.iload_n 2, 1) := by decide +kernel
theorem dX12_shelf_163 : decode cX12_shelf 163 = .ok (.iconst (-1), 1) := by decide +kernel
theorem dX12_shelf_164 : decode cX12_shelf 164 = .ok (.istore 5, 2) := by decide +kernel
theorem dX12_shelf_166 : decode cX12_shelf 166 = .ok (.aload_n 0, 1) := by decide +kernel
theorem dX12_shelf_167 : decode cX12_shelf 167 = .ok (.getfield 47, 3) := by decide +kernel
theorem dX12_shelf_17 : decode cX12_shelf 17 = .ok (.ifCond .ne 11, 3) := by decide +kernel
theorem dX12_shelf_170 : decode cX12_shelf 170 = .ok (.iload_n 1, 1) := by decide +kernel
theorem dX12_shelf_171 : decode cX12_shelf 171 = .ok (.iload 5, 2) := by decide +kernel
theorem dX12_shelf_173 : decode cX12_shelf 173 = .ok (.iastore, 1) := by decide +kernel
theorem dX12_shelf_174 : decode cX12_shelf 174 = .ok (.aload_n 0, 1) := by decide +kernel
theorem dX12_shelf_175 : decode cX12_shelf 175 = .ok (.getfield 50, 3) := by decide +kernel
theorem dX12_shelf_178 : decode cX12_shelf 178 = .ok (.iload_n 1, 1) := by decide +kernel
theorem dX12_shelf_179 : decode cX12_shelf 179 = .ok (.iload_n 2, 1) := by decide +kernel
theorem dX12_shelf_180 : decode cX12_shelf 180 = .ok (.ifCond .ne 9, 3) := by decide +kernel
theorem dX12_shelf_189 : decode cX12_shelf 189 = .ok (.iload_n 2, 1) := by decide +kernel
theorem dX12_shelf_190 : decode cX12_shelf 190 = .ok (.iconst 3, 1) := by decide +kernel
theorem dX12_shelf_191 : decode cX12_shelf 191 = .ok (.if_icmp .ge 8, 3) := by decide +kernel
theorem dX12_shelf_199 : decode cX12_shelf 199 = .ok (.iload_n 2, 1) := by decide +kernel
theorem dX12_shelf_20 : decode cX12_shelf 20 = .ok (.aload_n 0, 1) := by decide +kernel
theorem dX12_shelf_200 : decode cX12_shelf 200 = .ok (.iconst 3, 1) := by decide +kernel
theorem dX12_shelf_201 : decode cX12_shelf 201 = .ok (.if_icmp .ne 7, 3) := by decide +kernel
theorem dX12_shelf_204 : decode cX12_shelf 204 = .ok (.iload_n 3, 1) := by decide +kernel
theorem dX12_shelf_205 : decode cX12_shelf 205 = .ok (.goto 18, 3) := by decide +kernel
theorem dX12_shelf_208 : decode cX12_shelf 208 = .ok (.iload_n 2, 1) := by decide +kernel
theorem dX12_shelf_209 : decode cX12_shelf 209 = .ok (.iconst 4, 1) := by decide +kernel
theorem dX12_shelf_21 : decode cX12_shelf 21 = .ok (.iload_n 3, 1) := by decide +kernel
theorem dX12_shelf_210 : decode cX12_shelf 210 = .ok (.if_icmp .ne 12, 3) := by decide +kernel
theorem dX12_shelf_22 : decode cX12_shelf 22 = .ok (.invokevirtual 74, 3) := by decide +kernel
theorem dX12_shelf_222 : decode cX12_shelf 222 = .ok (.iconst 0, 1) := by decide +kernel
theorem dX12_shelf_223 : decode cX12_shelf 223 = .ok (.iastore, 1) := by decide +kernel
theorem dX12_shelf_224 : decode cX12_shelf 224 = .ok (.aload_n 0, 1) := by decide +kernel
theorem dX12_shelf_225 : decode cX12_shelf 225 = .ok (.getfield 53, 3) := by decide +kernel
theorem dX12_shelf_228 : decode cX12_shelf 228 = .ok (.iload_n 1, 1) := by decide +kernel
theorem dX12_shelf_229 : decode cX12_shelf 229 = .ok (.iload_n 2, 1) := by decide +kernel
theorem dX12_shelf_230 : decode cX12_shelf 230 = .ok (.iconst 4, 1) := by decide +kernel
theorem dX12_shelf_231 : decode cX12_shelf 231 = .ok (.if_icmp .ne 12, 3) := by decide +kernel
theorem dX12_shelf_243 : decode cX12_shelf 243 = .ok (.iconst 0, 1) := by decide +kernel
theorem dX12_shelf_244 : decode cX12_shelf 244 = .ok (.iastore, 1) := by decide +kernel
theorem dX12_shelf_245 : decode cX12_shelf 245 = .ok (.iconst 1, 1) := by decide +kernel
theorem dX12_shelf_246 : decode cX12_shelf 246 = .ok (.ireturn, 1) := by decide +kernel
theorem dX12_shelf_25 : decode cX12_shelf 25 = .ok (.ifCond .eq 28, 3) := by decide +kernel
theorem dX12_shelf_28 : decode cX12_shelf 28 = .ok (.iload_n 2, 1) := by decide +kernel
theorem dX12_shelf_29 : decode cX12_shelf 29 = .ok (.iconst 3, 1) := by decide +kernel
theorem dX12_shelf_30 : decode cX12_shelf 30 = .ok (.if_icmp .ne 11, 3) := by decide +kernel
theorem dX12_shelf_33 : decode cX12_shelf 33 = .ok (.aload_n 0, 1) := by decide +kernel
theorem dX12_shelf_34 : decode cX12_shelf 34 = .ok (.iload_n 3, 1) := by decide +kernel
theorem dX12_shelf_35 : decode cX12_shelf 35 = .ok (.invokevirtual 110, 3) := by decide +kernel
theorem dX12_shelf_38 : decode cX12_shelf 38 = .ok (.ifCond .eq 15, 3) := by decide +kernel
theorem dX12_shelf_4 : decode cX12_shelf 4 = .ok (.ifCond .eq 49, 3) := by decide +kernel
theorem dX12_shelf_41 : decode cX12_shelf 41 = .ok (.iload_n 2, 1) := by decide +kernel
theorem dX12_shelf_42 : decode cX12_shelf 42 = .ok (.iconst 4, 1) := by decide +kernel
theorem dX12_shelf_43 : decode cX12_shelf 43 = .ok (.if_icmp .ne 13, 3) := by decide +kernel
theorem dX12_shelf_46 : decode cX12_shelf 46 = .ok (.iload_n 3, 1) := by decide +kernel
theorem dX12_shelf_47 : decode cX12_shelf 47 = .ok (.invokestatic 157, 3) := by decide +kernel
theorem dX12_shelf_50 : decode cX12_shelf 50 = .ok (.ifCond .ne 6, 3) := by decide +kernel
theorem dX12_shelf_53 : decode cX12_shelf 53 = .ok (.bipush (-2), 2) := by decide +kernel
theorem dX12_shelf_55 : decode cX12_shelf 55 = .ok (.ireturn, 1) := by decide +kernel
theorem dX12_shelf_56 : decode cX12_shelf 56 = .ok (.iload_n 2, 1) := by decide +kernel
theorem dX12_shelf_57 : decode cX12_shelf 57 = .ok (.iconst 1, 1) := by decide +kernel
theorem dX12_shelf_58 : decode cX12_shelf 58 = .ok (.iconst 2, 1) := by decide +kernel
theorem dX12_shelf_59 : decode cX12_shelf 59 = .ok (.invokestatic 66, 3) := by decide +kernel
theorem dX12_shelf_62 : decode cX12_shelf 62 = .ok (.ifCond .eq 14, 3) := by decide +kernel
theorem dX12_shelf_65 : decode cX12_shelf 65 = .ok (.aload_n 0, 1) := by decide +kernel
theorem dX12_shelf_66 : decode cX12_shelf 66 = .ok (.iload_n 2, 1) := by decide +kernel
theorem dX12_shelf_67 : decode cX12_shelf 67 = .ok (.iconst 1, 1) := by decide +kernel
theorem dX12_shelf_68 : decode cX12_shelf 68 = .ok (.isub, 1) := by decide +kernel
theorem dX12_shelf_69 : decode cX12_shelf 69 = .ok (.iload_n 3, 1) := by decide +kernel
theorem dX12_shelf_7 : decode cX12_shelf 7 = .ok (.iload_n 2, 1) := by decide +kernel
theorem dX12_shelf_70 : decode cX12_shelf 70 = .ok (.invokevirtual 135, 3) := by decide +kernel
theorem dX12_shelf_73 : decode cX12_shelf 73 = .ok (.goto 4, 3) := by decide +kernel
theorem dX12_shelf_76 : decode cX12_shelf 76 = .ok (.iconst 1, 1) := by decide +kernel
theorem dX12_shelf_77 : decode cX12_shelf 77 = .ok (.istore 4, 2) := by decide +kernel
theorem dX12_shelf_79 : decode cX12_shelf 79 = .ok (.iload 4, 2) := by decide +kernel
theorem dX12_shelf_8 : decode cX12_shelf 8 = .ok (.iconst 0, 1) := by decide +kernel
theorem dX12_shelf_81 : decode cX12_shelf 81 = .ok (.ifCond .ne 6, 3) := by decide +kernel
theorem dX12_shelf_84 : decode cX12_shelf 84 = .ok (.bipush (-2), 2) := by decide +kernel
theorem dX12_shelf_86 : decode cX12_shelf 86 = .ok (.ireturn, 1) := by decide +kernel
theorem dX12_shelf_87 : decode cX12_shelf 87 = .ok (.iload_n 2, 1) := by decide +kernel
theorem dX12_shelf_88 : decode cX12_shelf 88 = .ok (.iconst 4, 1) := by decide +kernel
theorem dX12_shelf_89 : decode cX12_shelf 89 = .ok (.if_icmp .ne 16, 3) := by decide +kernel
theorem dX12_shelf_9 : decode cX12_shelf 9 = .ok (.iconst 5, 1) := by decide +kernel
theorem dX12_shelf_92 : decode cX12_shelf 92 = .ok (.aload_n 0, 1) := by decide +kernel
theorem dX12_shelf_93 : decode cX12_shelf 93 = .ok (.getfield 38, 3) := by decide +kernel
theorem dX12_shelf_96 : decode cX12_shelf 96 = .ok (.iload_n 3, 1) := by decide +kernel
theorem dX12_shelf_97 : decode cX12_shelf 97 = .ok (.iaload, 1) := by decide +kernel
theorem dX12_shelf_98 : decode cX12_shelf 98 = .ok (.iconst (-1), 1) := by decide +kernel
theorem dX12_shelf_99 : decode cX12_shelf 99 = .ok (.if_icmp .ne 6, 3) := by decide +kernel
set_option maxRecDepth 20000 in
theorem ggX12_taken_X12_in : GoodIn wsX12_taken wsX12_in := goodIn_r _ [10] (by decide +kernel) (by decide +kernel)
set_option maxRecDepth 20000 in
theorem gX12_taken_X12_in : GoodIn wsX12_taken (va_wsS RX12 66 yX12_in wsX12_in) := goodIn_app (goodIn_of _ (by decide +kernel)) ggX12_taken_X12_in
set_option maxRecDepth 20000 in
theorem ggX12_taken_X12_isShelf : GoodIn wsX12_taken wsX12_isShelf := goodIn_r _ [7, 8, 9, 6, 10] (by decide +kernel) (by decide +kernel)
set_option maxRecDepth 20000 in
theorem gX12_taken_X12_isShelf : GoodIn wsX12_taken (va_wsS RX12 222 yX12_isShelf wsX12_isShelf) := goodIn_app (goodIn_of _ (by decide +kernel)) ggX12_taken_X12_isShelf
theorem dX12_taken_0 : decode cX12_taken 0 = .ok (.iload_n 1, 1) := by decide +kernel
theorem dX12_taken_1 : decode cX12_taken 1 = .ok (.invokestatic 222, 3) := by decide +kernel
theorem dX12_taken_10 : decode cX12_taken 10 = .ok (.invokestatic 66, 3) := by decide +kernel
theorem dX12_taken_13 : decode cX12_taken 13 = .ok (.ifCond .ne 17, 3) := by decide +kernel
theorem dX12_taken_16 : decode cX12_taken 16 = .ok (.iload_n 2, 1) := by decide +kernel
theorem dX12_taken_17 : decode cX12_taken 17 = .ok (.bipush 10, 2) := by decide +kernel
theorem dX12_taken_19 : decode cX12_taken 19 = .ok (.bipush 11, 2) := by decide +kernel
theorem dX12_taken_21 : decode cX12_taken 21 = .ok (.invokestatic 66, 3) := by decide +kernel
theorem dX12_taken_24 : decode cX12_taken 24 = .ok (.ifCond .ne 6, 3) := by decide +kernel
theorem dX12_taken_27 : decode cX12_taken 27 = .ok (.bipush (-2), 2) := by decide +kernel
theorem dX12_taken_29 : decode cX12_taken 29 = .ok (.ireturn, 1) := by decide +kernel
theorem dX12_taken_30 : decode cX12_taken 30 = .ok (.aload_n 0, 1) := by decide +kernel
theorem dX12_taken_31 : decode cX12_taken 31 = .ok (.getfield 47, 3) := by decide +kernel
theorem dX12_taken_34 : decode cX12_taken 34 = .ok (.iload_n 1, 1) := by decide +kernel
theorem dX12_taken_35 : decode cX12_taken 35 = .ok (.iaload, 1) := by decide +kernel
theorem dX12_taken_36 : decode cX12_taken 36 = .ok (.iconst (-1), 1) := by decide +kernel
theorem dX12_taken_37 : decode cX12_taken 37 = .ok (.if_icmp .ne 6, 3) := by decide +kernel
theorem dX12_taken_4 : decode cX12_taken 4 = .ok (.ifCond .eq 23, 3) := by decide +kernel
theorem dX12_taken_40 : decode cX12_taken 40 = .ok (.bipush (-11), 2) := by decide +kernel
theorem dX12_taken_42 : decode cX12_taken 42 = .ok (.ireturn, 1) := by decide +kernel
theorem dX12_taken_7 : decode cX12_taken 7 = .ok (.iload_n 2, 1) := by decide +kernel
theorem dX12_taken_8 : decode cX12_taken 8 = .ok (.iconst 0, 1) := by decide +kernel
theorem dX12_taken_9 : decode cX12_taken 9 = .ok (.iconst 5, 1) := by decide +kernel
set_option maxRecDepth 20000 in
theorem ggX12_held_X12_in : GoodIn wsX12_held wsX12_in := goodIn_r _ [6] (by decide +kernel) (by decide +kernel)
set_option maxRecDepth 20000 in
theorem gX12_held_X12_in : GoodIn wsX12_held (va_wsS RX12 66 yX12_in wsX12_in) := goodIn_app (goodIn_of _ (by decide +kernel)) ggX12_held_X12_in
theorem dX12_held_0 : decode cX12_held 0 = .ok (.iload_n 1, 1) := by decide +kernel
theorem dX12_held_1 : decode cX12_held 1 = .ok (.iconst 0, 1) := by decide +kernel
theorem dX12_held_10 : decode cX12_held 10 = .ok (.iconst 0, 1) := by decide +kernel
theorem dX12_held_11 : decode cX12_held 11 = .ok (.iconst 2, 1) := by decide +kernel
theorem dX12_held_12 : decode cX12_held 12 = .ok (.invokestatic 66, 3) := by decide +kernel
theorem dX12_held_123 : decode cX12_held 123 = .ok (.iinc 6 1, 3) := by decide +kernel
theorem dX12_held_126 : decode cX12_held 126 = .ok (.goto (-94), 3) := by decide +kernel
theorem dX12_held_129 : decode cX12_held 129 = .ok (.iload_n 2, 1) := by decide +kernel
theorem dX12_held_130 : decode cX12_held 130 = .ok (.ifCond .ne 7, 3) := by decide +kernel
theorem dX12_held_133 : decode cX12_held 133 = .ok (.iload_n 3, 1) := by decide +kernel
theorem dX12_held_134 : decode cX12_held 134 = .ok (.goto 15, 3) := by decide +kernel
theorem dX12_held_137 : decode cX12_held 137 = .ok (.iload_n 2, 1) := by decide +kernel
theorem dX12_held_138 : decode cX12_held 138 = .ok (.iconst 1, 1) := by decide +kernel
theorem dX12_held_139 : decode cX12_held 139 = .ok (.if_icmp .ne 8, 3) := by decide +kernel
theorem dX12_held_142 : decode cX12_held 142 = .ok (.iload 4, 2) := by decide +kernel
theorem dX12_held_144 : decode cX12_held 144 = .ok (.goto 5, 3) := by decide +kernel
theorem dX12_held_147 : decode cX12_held 147 = .ok (.iload 5, 2) := by decide +kernel
theorem dX12_held_149 : decode cX12_held 149 = .ok (.ireturn, 1) := by decide +kernel
theorem dX12_held_15 : decode cX12_held 15 = .ok (.ifCond .ne 6, 3) := by decide +kernel
theorem dX12_held_18 : decode cX12_held 18 = .ok (.bipush (-2), 2) := by decide +kernel
theorem dX12_held_2 : decode cX12_held 2 = .ok (.iconst 5, 1) := by decide +kernel
theorem dX12_held_20 : decode cX12_held 20 = .ok (.ireturn, 1) := by decide +kernel
theorem dX12_held_21 : decode cX12_held 21 = .ok (.iconst 0, 1) := by decide +kernel
theorem dX12_held_22 : decode cX12_held 22 = .ok (.istore_n 3, 1) := by decide +kernel
theorem dX12_held_23 : decode cX12_held 23 = .ok (.iconst 0, 1) := by decide +kernel
theorem dX12_held_24 : decode cX12_held 24 = .ok (.istore 4, 2) := by decide +kernel
theorem dX12_held_26 : decode cX12_held 26 = .ok (.iconst (-1), 1) := by decide +kernel
theorem dX12_held_27 : decode cX12_held 27 = .ok (.istore 5, 2) := by decide +kernel
theorem dX12_held_29 : decode cX12_held 29 = .ok (.iconst 0, 1) := by decide +kernel
theorem dX12_held_3 : decode cX12_held 3 = .ok (.invokestatic 66, 3) := by decide +kernel
theorem dX12_held_30 : decode cX12_held 30 = .ok (.istore 6, 2) := by decide +kernel
theorem dX12_held_32 : decode cX12_held 32 = .ok (.iload 6, 2) := by decide +kernel
theorem dX12_held_34 : decode cX12_held 34 = .ok (.iconst 4, 1) := by decide +kernel
theorem dX12_held_35 : decode cX12_held 35 = .ok (.if_icmp .ge 94, 3) := by decide +kernel
theorem dX12_held_38 : decode cX12_held 38 = .ok (.aload_n 0, 1) := by decide +kernel
theorem dX12_held_39 : decode cX12_held 39 = .ok (.getfield 47, 3) := by decide +kernel
theorem dX12_held_42 : decode cX12_held 42 = .ok (.iload 6, 2) := by decide +kernel
theorem dX12_held_44 : decode cX12_held 44 = .ok (.iaload, 1) := by decide +kernel
theorem dX12_held_45 : decode cX12_held 45 = .ok (.iconst 0, 1) := by decide +kernel
theorem dX12_held_46 : decode cX12_held 46 = .ok (.iconst 5, 1) := by decide +kernel
theorem dX12_held_47 : decode cX12_held 47 = .ok (.invokestatic 66, 3) := by decide +kernel
theorem dX12_held_50 : decode cX12_held 50 = .ok (.ifCond .eq 73, 3) := by decide +kernel
theorem dX12_held_6 : decode cX12_held 6 = .ok (.ifCond .eq 12, 3) := by decide +kernel
theorem dX12_held_9 : decode cX12_held 9 = .ok (.iload_n 2, 1) := by decide +kernel
set_option maxHeartbeats 4000000 in
set_option maxRecDepth 100000 in
theorem c_X12_shelf_0 (l : Launch) (D : va_G) (cI cS : ClassId) (sz : Nat) (h0 h1 h2 h3 h4 h5 h6 h7 h8 h9 h10 h11 h12 h13 h14 h15 : Nat) (x0 x1 x2 : Int32) : Met l yX12_shelf wsX12_shelf ({ frames := 4, cells := 0, slots := 0, locals := 160 }) (PQ D cI cS [(h0, .inr (12, [.int 0, .int 1, .ref h1, .ref h2, .ref h3, .ref h4, .ref h5, .ref h6, .ref h7, .ref h8, .int 0, .int 0, .int 0, .int 0, .int 0, .int 0, .ref h9, .ref h10, .ref h11, .ref h12, .ref h13, .ref h14, .ref h15, .int 0])), (h3, .inl (cI, 4096, .inl (fun _ => 0))), (h9, .inl (cI, 4, .inl (fun _ => -1))), (h12, .inl (cI, 4, .inl (fun _ => -1))), (h13, .inl (cI, 4, .inl (fun _ => 0))), (h14, .inl (cI, 4, .inl (fun _ => 0)))] sz [.ref h0, .int x0, .int x1, .int x2]) (QI D [(h0, .inr (12, [.int 0, .int 1, .ref h1, .ref h2, .ref h3, .ref h4, .ref h5, .ref h6, .ref h7, .ref h8, .int 0, .int 0, .int 0, .int 0, .int 0, .int 0, .ref h9, .ref h10, .ref h11, .ref h12, .ref h13, .ref h14, .ref h15, .int 0])), (h3, .inl (cI, 4096, .inl (fun _ => 0))), (h9, .inl (cI, 4, .inl (fun _ => -1))), (h12, .inl (cI, 4, .inl (fun _ => -1))), (h13, .inl (cI, 4, .inl (fun _ => 0))), (h14, .inl (cI, 4, .inl (fun _ => 0)))] [] sz (fun r => r = if x0 < 0 then ((-2) : Int32) else (if (3 : Int32) < x0 then ((-2) : Int32) else (if x1 < 0 then ((-2) : Int32) else (if (5 : Int32) < x1 then ((-2) : Int32) else (if x1 = 0 then ((-2) : Int32) else (if x1 = 3 then (if x2 = 0 then (1 : Int32) else ((-2) : Int32)) else (if x1 = 4 then (if x2 < 0 then ((-2) : Int32) else (if (3 : Int32) < x2 then ((-2) : Int32) else ((-11) : Int32))) else (if (2 : Int32) < x1 then (1 : Int32) else ((-2) : Int32)))))))))) 0 0 (va_A [(h0, .inr (12, [.int 0, .int 1, .ref h1, .ref h2, .ref h3, .ref h4, .ref h5, .ref h6, .ref h7, .ref h8, .int 0, .int 0, .int 0, .int 0, .int 0, .int 0, .ref h9, .ref h10, .ref h11, .ref h12, .ref h13, .ref h14, .ref h15, .int 0])), (h3, .inl (cI, 4096, .inl (fun _ => 0))), (h9, .inl (cI, 4, .inl (fun _ => -1))), (h12, .inl (cI, 4, .inl (fun _ => -1))), (h13, .inl (cI, 4, .inl (fun _ => 0))), (h14, .inl (cI, 4, .inl (fun _ => 0)))] sz) := by
  refine Met.ofW (cc := cX12_shelf) (maxL := 6) (ret := (some .int)) (by decide) rfl ?_
  intro p e s m args below meth c s₁ B hml hv
  obtain ⟨rfl, hsz, hP, hKK, hD0⟩ := hv
  have hx := B.exec
  have hb := B.bytes
  have hr := B.returns
  have hts := atoms_spec (ws := wsX12_shelf) B.pre
  have hown : s.vm.findClass RX12 = some m.cls := findClass_of_methodNamed B.named
  have hlocks := B.notSynchronized
  have hK := hKK.1
  have hN := hKK.2
  have hin12 : ∀ w ∈ wsX120, w ∈ wsX12_shelf := by decide +kernel
  subst hsz
  have hD := hD0.self (sz := s.heap.size)
  obtain ⟨A, hAe⟩ : ∃ A, A = va_A [(h0, .inr (12, [.int 0, .int 1, .ref h1, .ref h2, .ref h3, .ref h4, .ref h5, .ref h6, .ref h7, .ref h8, .int 0, .int 0, .int 0, .int 0, .int 0, .int 0, .ref h9, .ref h10, .ref h11, .ref h12, .ref h13, .ref h14, .ref h15, .int 0])), (h3, .inl (cI, 4096, .inl (fun _ => 0))), (h9, .inl (cI, 4, .inl (fun _ => -1))), (h12, .inl (cI, 4, .inl (fun _ => -1))), (h13, .inl (cI, 4, .inl (fun _ => 0))), (h14, .inl (cI, 4, .inl (fun _ => 0)))] s.heap.size := ⟨_, rfl⟩
  rw [← hAe] at hD
  have hA : ∀ q : Nat, s.heap.size ≤ q → A q := fun q h => by rw [hAe]; exact Or.inr h
  have hS : va_S A s.heap s.heap [] := va_S.rf
  have hl := lv_entry ([.ref h0, .int x0, .int x1, .int x2]) (n := 6) (Nat.le_of_ble_eq_true rfl)
  rw [lg_entry_eq]
  generalize (lg_sl ([.ref h0, .int x0, .int x1, .int x2]) ++ List.replicate (6 - (lg_sl ([.ref h0, .int x0, .int x1, .int x2])).length) Slot.unset).toArray = ls at hl ⊢
  have hl : lv_has ls 6 [(0, .ref h0), (1, .int x0), (2, .int x1), (3, .int x2)] := hl
  refine lv_iload_n hx hb dX12_shelf_0 rfl (lv_at hl 1 rfl) ?_
  have hPc := hP.sub (ws' := []) [] rfl
  refine lz_ss (As := [.int x0]) (rest := []) ⟨hx, hb, hml, hown, hts⟩ (c_X12_isShelf_0 l D cI cS x0) hKK hPc (va_cwS 1 hts gX12_shelf_X12_isShelf rfl rfl rfl (by decide +kernel) ⟨Nat.le_of_ble_eq_true rfl, Nat.le_of_ble_eq_true rfl⟩) rfl hl.1 rfl (Nat.le_of_ble_eq_true rfl) dX12_shelf_1 ⟨Nat.le_of_ble_eq_true rfl, Nat.le_of_ble_eq_true rfl⟩ (fun r1549 hw => ?_)
  by_cases k1550 : x0 < 0
  · rw [if_pos k1550] at hw
    subst hw
    refine lv_if_eq (tgt := 53) hx hb dX12_shelf_4 (by decide) (fun c1551 => ?_) (fun c1551 => ?_)
    · refine lv_bipush (v := (-2)) hx hb dX12_shelf_53 (by decide) ?_
      have hP9 := hP.sub (ws' := []) [] rfl
      have hD9 := hD.sub (ws' := []) [] (by decide) rfl
      subst hAe
      exact W.iret (v := (-2)) hx hb hr (fun t ht hW => ⟨⟨_, (), rfl, by rw [if_pos k1550], by rw [ht]; exact hP9, hD9⟩, hS.F ht⟩) hS.2.2 dX12_shelf_55
    · exact absurd c1551 (by decide)
  · rw [if_neg k1550] at hw
    by_cases k1552 : (3 : Int32) < x0
    · rw [if_pos k1552] at hw
      subst hw
      refine lv_if_eq (tgt := 53) hx hb dX12_shelf_4 (by decide) (fun c1553 => ?_) (fun c1553 => ?_)
      · refine lv_bipush (v := (-2)) hx hb dX12_shelf_53 (by decide) ?_
        have hP9 := hP.sub (ws' := []) [] rfl
        have hD9 := hD.sub (ws' := []) [] (by decide) rfl
        subst hAe
        exact W.iret (v := (-2)) hx hb hr (fun t ht hW => ⟨⟨_, (), rfl, by rw [if_neg k1550, if_pos k1552], by rw [ht]; exact hP9, hD9⟩, hS.F ht⟩) hS.2.2 dX12_shelf_55
      · exact absurd c1553 (by decide)
    · rw [if_neg k1552] at hw
      subst hw
      refine lv_if_eq (tgt := 53) hx hb dX12_shelf_4 (by decide) (fun c1554 => ?_) (fun c1554 => ?_)
      · exact absurd c1554 (by decide)
      · refine lv_iload_n hx hb dX12_shelf_7 rfl (lv_at hl 2 rfl) ?_
        refine lv_iconst (v := 0) hx hb dX12_shelf_8 (by decide) ?_
        refine lv_iconst (v := 5) hx hb dX12_shelf_9 (by decide) ?_
        have hPc := hP.sub (ws' := []) [] rfl
        refine lz_ss (As := [.int x1, .int 0, .int 5]) (rest := []) ⟨hx, hb, hml, hown, hts⟩ (c_X12_in_7 l D cI cS x1) hKK hPc (va_cwS 3 hts gX12_shelf_X12_in rfl rfl rfl (by decide +kernel) ⟨Nat.le_of_ble_eq_true rfl, Nat.le_of_ble_eq_true rfl⟩) rfl hl.1 rfl (Nat.le_of_ble_eq_true rfl) dX12_shelf_10 ⟨Nat.le_of_ble_eq_true rfl, Nat.le_of_ble_eq_true rfl⟩ (fun r1555 hw => ?_)
        by_cases k1556 : x1 < 0
        · rw [if_pos k1556] at hw
          subst hw
          refine lv_if_eq (tgt := 53) hx hb dX12_shelf_13 (by decide) (fun c1557 => ?_) (fun c1557 => ?_)
          · refine lv_bipush (v := (-2)) hx hb dX12_shelf_53 (by decide) ?_
            have hP9 := hP.sub (ws' := []) [] rfl
            have hD9 := hD.sub (ws' := []) [] (by decide) rfl
            subst hAe
            exact W.iret (v := (-2)) hx hb hr (fun t ht hW => ⟨⟨_, (), rfl, by rw [if_neg k1550, if_neg k1552, if_pos k1556], by rw [ht]; exact hP9, hD9⟩, hS.F ht⟩) hS.2.2 dX12_shelf_55
          · exact absurd c1557 (by decide)
        · rw [if_neg k1556] at hw
          by_cases k1558 : (5 : Int32) < x1
          · rw [if_pos k1558] at hw
            subst hw
            refine lv_if_eq (tgt := 53) hx hb dX12_shelf_13 (by decide) (fun c1559 => ?_) (fun c1559 => ?_)
            · refine lv_bipush (v := (-2)) hx hb dX12_shelf_53 (by decide) ?_
              have hP9 := hP.sub (ws' := []) [] rfl
              have hD9 := hD.sub (ws' := []) [] (by decide) rfl
              subst hAe
              exact W.iret (v := (-2)) hx hb hr (fun t ht hW => ⟨⟨_, (), rfl, by rw [if_neg k1550, if_neg k1552, if_neg k1556, if_pos k1558], by rw [ht]; exact hP9, hD9⟩, hS.F ht⟩) hS.2.2 dX12_shelf_55
            · exact absurd c1559 (by decide)
          · rw [if_neg k1558] at hw
            subst hw
            refine lv_if_eq (tgt := 53) hx hb dX12_shelf_13 (by decide) (fun c1560 => ?_) (fun c1560 => ?_)
            · exact absurd c1560 (by decide)
            · refine lv_iload_n hx hb dX12_shelf_16 rfl (lv_at hl 2 rfl) ?_
              refine lv_if_ne (tgt := 28) hx hb dX12_shelf_17 (by decide) (fun c1561 => ?_) (fun c1561 => ?_)
              · refine lv_iload_n hx hb dX12_shelf_28 rfl (lv_at hl 2 rfl) ?_
                refine lv_iconst (v := 3) hx hb dX12_shelf_29 (by decide) ?_
                refine lv_icmp_ne (tgt := 41) hx hb dX12_shelf_30 (by decide) (fun c1562 => ?_) (fun c1562 => ?_)
                · refine lv_iload_n hx hb dX12_shelf_41 rfl (lv_at hl 2 rfl) ?_
                  refine lv_iconst (v := 4) hx hb dX12_shelf_42 (by decide) ?_
                  refine lv_icmp_ne (tgt := 56) hx hb dX12_shelf_43 (by decide) (fun c1563 => ?_) (fun c1563 => ?_)
                  · refine lv_iload_n hx hb dX12_shelf_56 rfl (lv_at hl 2 rfl) ?_
                    refine lv_iconst (v := 1) hx hb dX12_shelf_57 (by decide) ?_
                    refine lv_iconst (v := 2) hx hb dX12_shelf_58 (by decide) ?_
                    have hPc := hP.sub (ws' := []) [] rfl
                    refine lz_ss (As := [.int x1, .int 1, .int 2]) (rest := []) ⟨hx, hb, hml, hown, hts⟩ (c_X12_in_8 l D cI cS x1) hKK hPc (va_cwS 3 hts gX12_shelf_X12_in rfl rfl rfl (by decide +kernel) ⟨Nat.le_of_ble_eq_true rfl, Nat.le_of_ble_eq_true rfl⟩) rfl hl.1 rfl (Nat.le_of_ble_eq_true rfl) dX12_shelf_59 ⟨Nat.le_of_ble_eq_true rfl, Nat.le_of_ble_eq_true rfl⟩ (fun r1564 hw => ?_)
                    rw [if_neg (show ¬ (x1 < 1) from by have zf1 := mt (lz_lt x0 (0 : Int32)).mpr k1550; have zf2 := mt (lz_lt (3 : Int32) x0).mpr k1552; have zf3 := mt (lz_lt x1 (0 : Int32)).mpr k1556; have zf4 := mt (lz_lt (5 : Int32) x1).mpr k1558; have zf5 := mt (lz_eq x1 (0 : Int32)).mpr c1561; have zf6 := mt (lz_eq x1 (3 : Int32)).mpr c1562; have zf7 := mt (lz_eq x1 (4 : Int32)).mpr c1563; have zn0 : (0 : Int32).toInt = 0 := (by decide); have zn1 : (1 : Int32).toInt = 1 := (by decide); have zn2 : (3 : Int32).toInt = 3 := (by decide); have zn3 : (4 : Int32).toInt = 4 := (by decide); have zn4 : (5 : Int32).toInt = 5 := (by decide); rw [lz_lt]; omega)] at hw
                    by_cases k1565 : (2 : Int32) < x1
                    · rw [if_pos k1565] at hw
                      subst hw
                      refine lv_if_eq (tgt := 76) hx hb dX12_shelf_62 (by decide) (fun c1566 => ?_) (fun c1566 => ?_)
                      · refine lv_iconst (v := 1) hx hb dX12_shelf_76 (by decide) ?_
                        refine lv_istore (lv' := [(4, .int 1), (0, .ref h0), (1, .int x0), (2, .int x1), (3, .int x2)]) hx hb dX12_shelf_77 hl (by decide) rfl (fun ls hl => ?_)
                        refine lv_iload hx hb dX12_shelf_79 (lv_at hl 0 rfl) ?_
                        refine lv_if_ne (tgt := 87) hx hb dX12_shelf_81 (by decide) (fun c1567 => ?_) (fun c1567 => ?_)
                        · refine lv_iload_n hx hb dX12_shelf_87 rfl (lv_at hl 3 rfl) ?_
                          refine lv_iconst (v := 4) hx hb dX12_shelf_88 (by decide) ?_
                          refine lv_icmp_ne (tgt := 105) hx hb dX12_shelf_89 (by decide) (fun c1568 => ?_) (fun c1568 => ?_)
                          · refine lv_iload_n hx hb dX12_shelf_105 rfl (lv_at hl 3 rfl) ?_
                            refine lv_if_ne (tgt := 126) hx hb dX12_shelf_106 (by decide) (fun c1569 => ?_) (fun c1569 => ?_)
                            · refine lv_iload_n hx hb dX12_shelf_126 rfl (lv_at hl 3 rfl) ?_
                              refine lv_iconst (v := 1) hx hb dX12_shelf_127 (by decide) ?_
                              refine lv_icmp_ne (tgt := 135) hx hb dX12_shelf_128 (by decide) (fun c1570 => ?_) (fun c1570 => ?_)
                              · refine lv_iload_n hx hb dX12_shelf_135 rfl (lv_at hl 3 rfl) ?_
                                refine lv_iconst (v := 2) hx hb dX12_shelf_136 (by decide) ?_
                                refine lv_icmp_ne (tgt := 144) hx hb dX12_shelf_137 (by decide) (fun c1571 => ?_) (fun c1571 => ?_)
                                · refine lv_iload_n hx hb dX12_shelf_144 rfl (lv_at hl 3 rfl) ?_
                                  refine lv_iconst (v := 3) hx hb dX12_shelf_145 (by decide) ?_
                                  refine lv_icmp_ne (tgt := 153) hx hb dX12_shelf_146 (by decide) (fun c1572 => ?_) (fun c1572 => ?_)
                                  · refine lv_iload_n hx hb dX12_shelf_153 rfl (lv_at hl 3 rfl) ?_
                                    refine lv_iconst (v := 4) hx hb dX12_shelf_154 (by decide) ?_
                                    refine lv_icmp_ne (tgt := 163) hx hb dX12_shelf_155 (by decide) (fun c1573 => ?_) (fun c1573 => ?_)
                                    · refine lv_iconst (v := (-1)) hx hb dX12_shelf_163 (by decide) ?_
                                      refine lv_istore (lv' := [(5, .int (-1)), (4, .int 1), (0, .ref h0), (1, .int x0), (2, .int x1), (3, .int x2)]) hx hb dX12_shelf_164 hl (by decide) rfl (fun ls hl => ?_)
                                      refine lv_aload_n hx hb dX12_shelf_166 rfl (lv_at hl 2 rfl) ?_
                                      refine va_get (D := D) (ci := 12) (v := .ref h12) (C := RX12) (T := TX12) (N := 24) hx hb hts hin12 hown hK hP 0 rfl rfl 19 (by decide) (hts (.fieldLink RX12 47 "MissedPointsModel" "heldKind" "[I") (by decide +kernel)) (fun _ h9 => h9) rfl dX12_shelf_167 ?_
                                      refine lv_iload_n hx hb dX12_shelf_170 rfl (lv_at hl 3 rfl) ?_
                                      refine lv_iload hx hb dX12_shelf_171 (lv_at hl 0 rfl) ?_
                                      refine lz_astc hx hb hK hP hD hS 3 0 rfl rfl (lz_vp (x := x0) (n := 4) (by have zf1 := mt (lz_lt x0 (0 : Int32)).mpr k1550; have zf2 := mt (lz_lt (3 : Int32) x0).mpr k1552; have zf3 := mt (lz_lt x1 (0 : Int32)).mpr k1556; have zf4 := mt (lz_lt (5 : Int32) x1).mpr k1558; have zf5 := mt (lz_eq x1 (0 : Int32)).mpr c1561; have zf6 := mt (lz_eq x1 (3 : Int32)).mpr c1562; have zf7 := mt (lz_eq x1 (4 : Int32)).mpr c1563; have zf8 := (lz_lt (2 : Int32) x1).mp k1565; have zn0 : (0 : Int32).toInt = 0 := (by decide); have zn1 : (2 : Int32).toInt = 2 := (by decide); have zn2 : (3 : Int32).toInt = 3 := (by decide); have zn3 : (4 : Int32).toInt = 4 := (by decide); have zn4 : (5 : Int32).toInt = 5 := (by decide); omega) (by have zf1 := mt (lz_lt x0 (0 : Int32)).mpr k1550; have zf2 := mt (lz_lt (3 : Int32) x0).mpr k1552; have zf3 := mt (lz_lt x1 (0 : Int32)).mpr k1556; have zf4 := mt (lz_lt (5 : Int32) x1).mpr k1558; have zf5 := mt (lz_eq x1 (0 : Int32)).mpr c1561; have zf6 := mt (lz_eq x1 (3 : Int32)).mpr c1562; have zf7 := mt (lz_eq x1 (4 : Int32)).mpr c1563; have zf8 := (lz_lt (2 : Int32) x1).mp k1565; have zn0 : (0 : Int32).toInt = 0 := (by decide); have zn1 : (2 : Int32).toInt = 2 := (by decide); have zn2 : (3 : Int32).toInt = 3 := (by decide); have zn3 : (4 : Int32).toInt = 4 := (by decide); have zn4 : (5 : Int32).toInt = 5 := (by decide); omega)) dX12_shelf_173 (fun H locs hP hD hS => ?_)
                                      refine lv_aload_n hx hb dX12_shelf_174 rfl (lv_at hl 2 rfl) ?_
                                      refine va_get (D := D) (ci := 12) (v := .ref h13) (C := RX12) (T := TX12) (N := 24) hx hb hts hin12 hown hK hP 0 rfl rfl 20 (by decide) (hts (.fieldLink RX12 50 "MissedPointsModel" "heldSet" "[I") (by decide +kernel)) (fun _ h9 => h9) rfl dX12_shelf_175 ?_
                                      refine lv_iload_n hx hb dX12_shelf_178 rfl (lv_at hl 3 rfl) ?_
                                      refine lv_iload_n hx hb dX12_shelf_179 rfl (lv_at hl 4 rfl) ?_
                                      refine lv_if_ne (tgt := 189) hx hb dX12_shelf_180 (by decide) (fun c1574 => ?_) (fun c1574 => ?_)
                                      · refine lv_iload_n hx hb dX12_shelf_189 rfl (lv_at hl 4 rfl) ?_
                                        refine lv_iconst (v := 3) hx hb dX12_shelf_190 (by decide) ?_
                                        refine lv_icmp_ge (tgt := 199) hx hb dX12_shelf_191 (by decide) (fun c1575 => ?_) (fun c1575 => ?_)
                                        · refine lv_iload_n hx hb dX12_shelf_199 rfl (lv_at hl 4 rfl) ?_
                                          refine lv_iconst (v := 3) hx hb dX12_shelf_200 (by decide) ?_
                                          refine lv_icmp_ne (tgt := 208) hx hb dX12_shelf_201 (by decide) (fun c1576 => ?_) (fun c1576 => ?_)
                                          · refine lv_iload_n hx hb dX12_shelf_208 rfl (lv_at hl 4 rfl) ?_
                                            refine lv_iconst (v := 4) hx hb dX12_shelf_209 (by decide) ?_
                                            refine lv_icmp_ne (tgt := 222) hx hb dX12_shelf_210 (by decide) (fun c1577 => ?_) (fun c1577 => ?_)
                                            · refine lv_iconst (v := 0) hx hb dX12_shelf_222 (by decide) ?_
                                              refine lz_astc hx hb hK hP hD hS 4 0 rfl rfl (lz_vp (x := x0) (n := 4) (by have zf1 := mt (lz_lt x0 (0 : Int32)).mpr k1550; have zf2 := mt (lz_lt (3 : Int32) x0).mpr k1552; have zf3 := mt (lz_lt x1 (0 : Int32)).mpr k1556; have zf4 := mt (lz_lt (5 : Int32) x1).mpr k1558; have zf5 := mt (lz_eq x1 (0 : Int32)).mpr c1561; have zf6 := mt (lz_eq x1 (3 : Int32)).mpr c1562; have zf7 := mt (lz_eq x1 (4 : Int32)).mpr c1563; have zf8 := (lz_lt (2 : Int32) x1).mp k1565; have zn0 : (0 : Int32).toInt = 0 := (by decide); have zn1 : (2 : Int32).toInt = 2 := (by decide); have zn2 : (3 : Int32).toInt = 3 := (by decide); have zn3 : (4 : Int32).toInt = 4 := (by decide); have zn4 : (5 : Int32).toInt = 5 := (by decide); omega) (by have zf1 := mt (lz_lt x0 (0 : Int32)).mpr k1550; have zf2 := mt (lz_lt (3 : Int32) x0).mpr k1552; have zf3 := mt (lz_lt x1 (0 : Int32)).mpr k1556; have zf4 := mt (lz_lt (5 : Int32) x1).mpr k1558; have zf5 := mt (lz_eq x1 (0 : Int32)).mpr c1561; have zf6 := mt (lz_eq x1 (3 : Int32)).mpr c1562; have zf7 := mt (lz_eq x1 (4 : Int32)).mpr c1563; have zf8 := (lz_lt (2 : Int32) x1).mp k1565; have zn0 : (0 : Int32).toInt = 0 := (by decide); have zn1 : (2 : Int32).toInt = 2 := (by decide); have zn2 : (3 : Int32).toInt = 3 := (by decide); have zn3 : (4 : Int32).toInt = 4 := (by decide); have zn4 : (5 : Int32).toInt = 5 := (by decide); omega)) dX12_shelf_223 (fun H locs hP hD hS => ?_)
                                              refine lv_aload_n hx hb dX12_shelf_224 rfl (lv_at hl 2 rfl) ?_
                                              refine va_get (D := D) (ci := 12) (v := .ref h14) (C := RX12) (T := TX12) (N := 24) hx hb hts hin12 hown hK hP 0 rfl rfl 21 (by decide) (hts (.fieldLink RX12 53 "MissedPointsModel" "heldSort" "[I") (by decide +kernel)) (fun _ h9 => h9) rfl dX12_shelf_225 ?_
                                              refine lv_iload_n hx hb dX12_shelf_228 rfl (lv_at hl 3 rfl) ?_
                                              refine lv_iload_n hx hb dX12_shelf_229 rfl (lv_at hl 4 rfl) ?_
                                              refine lv_iconst (v := 4) hx hb dX12_shelf_230 (by decide) ?_
                                              refine lv_icmp_ne (tgt := 243) hx hb dX12_shelf_231 (by decide) (fun c1578 => ?_) (fun c1578 => ?_)
                                              · refine lv_iconst (v := 0) hx hb dX12_shelf_243 (by decide) ?_
                                                refine lz_astc hx hb hK hP hD hS 5 0 rfl rfl (lz_vp (x := x0) (n := 4) (by have zf1 := mt (lz_lt x0 (0 : Int32)).mpr k1550; have zf2 := mt (lz_lt (3 : Int32) x0).mpr k1552; have zf3 := mt (lz_lt x1 (0 : Int32)).mpr k1556; have zf4 := mt (lz_lt (5 : Int32) x1).mpr k1558; have zf5 := mt (lz_eq x1 (0 : Int32)).mpr c1561; have zf6 := mt (lz_eq x1 (3 : Int32)).mpr c1562; have zf7 := mt (lz_eq x1 (4 : Int32)).mpr c1563; have zf8 := (lz_lt (2 : Int32) x1).mp k1565; have zn0 : (0 : Int32).toInt = 0 := (by decide); have zn1 : (2 : Int32).toInt = 2 := (by decide); have zn2 : (3 : Int32).toInt = 3 := (by decide); have zn3 : (4 : Int32).toInt = 4 := (by decide); have zn4 : (5 : Int32).toInt = 5 := (by decide); omega) (by have zf1 := mt (lz_lt x0 (0 : Int32)).mpr k1550; have zf2 := mt (lz_lt (3 : Int32) x0).mpr k1552; have zf3 := mt (lz_lt x1 (0 : Int32)).mpr k1556; have zf4 := mt (lz_lt (5 : Int32) x1).mpr k1558; have zf5 := mt (lz_eq x1 (0 : Int32)).mpr c1561; have zf6 := mt (lz_eq x1 (3 : Int32)).mpr c1562; have zf7 := mt (lz_eq x1 (4 : Int32)).mpr c1563; have zf8 := (lz_lt (2 : Int32) x1).mp k1565; have zn0 : (0 : Int32).toInt = 0 := (by decide); have zn1 : (2 : Int32).toInt = 2 := (by decide); have zn2 : (3 : Int32).toInt = 3 := (by decide); have zn3 : (4 : Int32).toInt = 4 := (by decide); have zn4 : (5 : Int32).toInt = 5 := (by decide); omega)) dX12_shelf_244 (fun H locs hP hD hS => ?_)
                                                refine lv_iconst (v := 1) hx hb dX12_shelf_245 (by decide) ?_
                                                have hP9 := hP.sub (ws' := []) [] rfl
                                                have hD9 := hD.sub (ws' := []) [] (by decide) rfl
                                                subst hAe
                                                exact W.iret (v := 1) hx hb hr (fun t ht hW => ⟨⟨_, (), rfl, by rw [if_neg k1550, if_neg k1552, if_neg k1556, if_neg k1558, if_neg c1561, if_neg c1562, if_neg c1563, if_pos k1565], by rw [ht]; exact hP9, hD9⟩, hS.F ht⟩) hS.2.2 dX12_shelf_246
                                              · exact absurd c1578 c1563
                                            · exact absurd c1577 c1563
                                          · exact absurd c1576 c1562
                                        · exact absurd (show (3 : Int32) ≤ x1 from by have zf1 := mt (lz_lt x0 (0 : Int32)).mpr k1550; have zf2 := mt (lz_lt (3 : Int32) x0).mpr k1552; have zf3 := mt (lz_lt x1 (0 : Int32)).mpr k1556; have zf4 := mt (lz_lt (5 : Int32) x1).mpr k1558; have zf5 := mt (lz_eq x1 (0 : Int32)).mpr c1561; have zf6 := mt (lz_eq x1 (3 : Int32)).mpr c1562; have zf7 := mt (lz_eq x1 (4 : Int32)).mpr c1563; have zf8 := (lz_lt (2 : Int32) x1).mp k1565; have zn0 : (0 : Int32).toInt = 0 := (by decide); have zn1 : (2 : Int32).toInt = 2 := (by decide); have zn2 : (3 : Int32).toInt = 3 := (by decide); have zn3 : (4 : Int32).toInt = 4 := (by decide); have zn4 : (5 : Int32).toInt = 5 := (by decide); rw [lz_le]; omega) c1575
                                      · exact absurd c1574 c1561
                                    · exact absurd c1573 c1563
                                  · exact absurd c1572 c1562
                                · exact absurd c1571 (show ¬ (x1 = 2) from by have zf1 := mt (lz_lt x0 (0 : Int32)).mpr k1550; have zf2 := mt (lz_lt (3 : Int32) x0).mpr k1552; have zf3 := mt (lz_lt x1 (0 : Int32)).mpr k1556; have zf4 := mt (lz_lt (5 : Int32) x1).mpr k1558; have zf5 := mt (lz_eq x1 (0 : Int32)).mpr c1561; have zf6 := mt (lz_eq x1 (3 : Int32)).mpr c1562; have zf7 := mt (lz_eq x1 (4 : Int32)).mpr c1563; have zf8 := (lz_lt (2 : Int32) x1).mp k1565; have zn0 : (0 : Int32).toInt = 0 := (by decide); have zn1 : (2 : Int32).toInt = 2 := (by decide); have zn2 : (3 : Int32).toInt = 3 := (by decide); have zn3 : (4 : Int32).toInt = 4 := (by decide); have zn4 : (5 : Int32).toInt = 5 := (by decide); rw [lz_eq]; omega)
                              · exact absurd c1570 (show ¬ (x1 = 1) from by have zf1 := mt (lz_lt x0 (0 : Int32)).mpr k1550; have zf2 := mt (lz_lt (3 : Int32) x0).mpr k1552; have zf3 := mt (lz_lt x1 (0 : Int32)).mpr k1556; have zf4 := mt (lz_lt (5 : Int32) x1).mpr k1558; have zf5 := mt (lz_eq x1 (0 : Int32)).mpr c1561; have zf6 := mt (lz_eq x1 (3 : Int32)).mpr c1562; have zf7 := mt (lz_eq x1 (4 : Int32)).mpr c1563; have zf8 := (lz_lt (2 : Int32) x1).mp k1565; have zn0 : (0 : Int32).toInt = 0 := (by decide); have zn1 : (1 : Int32).toInt = 1 := (by decide); have zn2 : (2 : Int32).toInt = 2 := (by decide); have zn3 : (3 : Int32).toInt = 3 := (by decide); have zn4 : (4 : Int32).toInt = 4 := (by decide); have zn5 : (5 : Int32).toInt = 5 := (by decide); rw [lz_eq]; omega)
                            · exact absurd c1569 c1561
                          · exact absurd c1568 c1563
                        · exact absurd c1567 (by decide)
                      · exact absurd c1566 (by decide)
                    · rw [if_neg k1565] at hw
                      subst hw
                      refine lv_if_eq (tgt := 76) hx hb dX12_shelf_62 (by decide) (fun c1579 => ?_) (fun c1579 => ?_)
                      · exact absurd c1579 (by decide)
                      · refine lv_aload_n hx hb dX12_shelf_65 rfl (lv_at hl 0 rfl) ?_
                        refine lv_iload_n hx hb dX12_shelf_66 rfl (lv_at hl 2 rfl) ?_
                        refine lv_iconst (v := 1) hx hb dX12_shelf_67 (by decide) ?_
                        refine lv_isub hx hb dX12_shelf_68 ?_
                        refine lv_iload_n hx hb dX12_shelf_69 rfl (lv_at hl 3 rfl) ?_
                        have hPc := hP.sub (ws' := [(h0, .inr (12, [.int 0, .int 1, .ref h1, .ref h2, .ref h3, .ref h4, .ref h5, .ref h6, .ref h7, .ref h8, .int 0, .int 0, .int 0, .int 0, .int 0, .int 0, .ref h9, .ref h10, .ref h11, .ref h12, .ref h13, .ref h14, .ref h15, .int 0])), (h3, .inl (cI, 4096, .inl (fun _ => 0)))]) [0, 1] rfl
                        have hDc := hD.sub (ws' := [(h0, .inr (12, [.int 0, .int 1, .ref h1, .ref h2, .ref h3, .ref h4, .ref h5, .ref h6, .ref h7, .ref h8, .int 0, .int 0, .int 0, .int 0, .int 0, .int 0, .ref h9, .ref h10, .ref h11, .ref h12, .ref h13, .ref h14, .ref h15, .int 0])), (h3, .inl (cI, 4096, .inl (fun _ => 0)))]) [0, 1] (by decide) rfl
                        refine lz_qi (wr := [(h9, .inl (cI, 4, .inl (fun _ => -1))), (h12, .inl (cI, 4, .inl (fun _ => -1))), (h13, .inl (cI, 4, .inl (fun _ => 0))), (h14, .inl (cI, 4, .inl (fun _ => 0)))]) (w1 := [(h0, .inr (12, [.int 0, .int 1, .ref h1, .ref h2, .ref h3, .ref h4, .ref h5, .ref h6, .ref h7, .ref h8, .int 0, .int 0, .int 0, .int 0, .int 0, .int 0, .ref h9, .ref h10, .ref h11, .ref h12, .ref h13, .ref h14, .ref h15, .int 0])), (h3, .inl (cI, 4096, .inl (upd (fun _ => 0) 0 1)))]) (As := [.int (x1 - (1 : Int32)), .int x2]) (rest := []) ⟨hx, hb, hml, hown, hts⟩ (c_X12_pieceAt_0 l D cI cS _ h0 h1 h2 h3 h4 h5 h6 h7 h8 h9 h10 h11 h12 h13 h14 h15 (x1 - (1 : Int32)) x2) hKK hP hD hS hA [0, 1] [2, 3, 4, 5] (by decide) rfl rfl (by decide) (by decide) hPc hDc (ci := 12) rfl rfl (cwV 2 hts gX12_shelf_X12_pieceAt rfl rfl rfl (by decide +kernel) ⟨Nat.le_of_ble_eq_true rfl, Nat.le_of_ble_eq_true rfl⟩) rfl hl.1 rfl (Nat.le_of_ble_eq_true rfl) dX12_shelf_70 ⟨Nat.le_of_ble_eq_true rfl, Nat.le_of_ble_eq_true rfl⟩ (fun r1580 H locs hw hP hD hS => ?_)
                        have hP : va_P D cls [(h9, .inl (cI, 4, .inl (fun _ => -1))), (h12, .inl (cI, 4, .inl (fun _ => -1))), (h13, .inl (cI, 4, .inl (fun _ => 0))), (h14, .inl (cI, 4, .inl (fun _ => 0))), (h0, .inr (12, [.int 0, .int 1, .ref h1, .ref h2, .ref h3, .ref h4, .ref h5, .ref h6, .ref h7, .ref h8, .int 0, .int 0, .int 0, .int 0, .int 0, .int 0, .ref h9, .ref h10, .ref h11, .ref h12, .ref h13, .ref h14, .ref h15, .int 0])), (h3, .inl (cI, 4096, .inl (upd (fun _ => 0) 0 1)))] H := hP
                        have hD : va_D A [(h9, .inl (cI, 4, .inl (fun _ => -1))), (h12, .inl (cI, 4, .inl (fun _ => -1))), (h13, .inl (cI, 4, .inl (fun _ => 0))), (h14, .inl (cI, 4, .inl (fun _ => 0))), (h0, .inr (12, [.int 0, .int 1, .ref h1, .ref h2, .ref h3, .ref h4, .ref h5, .ref h6, .ref h7, .ref h8, .int 0, .int 0, .int 0, .int 0, .int 0, .int 0, .ref h9, .ref h10, .ref h11, .ref h12, .ref h13, .ref h14, .ref h15, .int 0])), (h3, .inl (cI, 4096, .inl (upd (fun _ => 0) 0 1)))] := hD
                        subst hw
                        refine lv_goto (tgt := 77) hx hb dX12_shelf_73 (by decide) ?_
                        refine lv_istore (lv' := [(4, .int 0), (0, .ref h0), (1, .int x0), (2, .int x1), (3, .int x2)]) hx hb dX12_shelf_77 hl (by decide) rfl (fun ls hl => ?_)
                        refine lv_iload hx hb dX12_shelf_79 (lv_at hl 0 rfl) ?_
                        refine lv_if_ne (tgt := 87) hx hb dX12_shelf_81 (by decide) (fun c1581 => ?_) (fun c1581 => ?_)
                        · exact absurd c1581 (by decide)
                        · refine lv_bipush (v := (-2)) hx hb dX12_shelf_84 (by decide) ?_
                          have hP9 := hP.sub (ws' := []) [] rfl
                          have hD9 := hD.sub (ws' := []) [] (by decide) rfl
                          subst hAe
                          exact W.iret (v := (-2)) hx hb hr (fun t ht hW => ⟨⟨_, (), rfl, by rw [if_neg k1550, if_neg k1552, if_neg k1556, if_neg k1558, if_neg c1561, if_neg c1562, if_neg c1563, if_neg k1565], by rw [ht]; exact hP9, hD9⟩, hS.F ht⟩) hS.2.2 dX12_shelf_86
                  · subst c1563
                    refine lv_iload_n hx hb dX12_shelf_46 rfl (lv_at hl 3 rfl) ?_
                    have hPc := hP.sub (ws' := []) [] rfl
                    refine lz_ss (As := [.int x2]) (rest := []) ⟨hx, hb, hml, hown, hts⟩ (c_X12_isSheet_0 l D cI cS x2) hKK hPc (va_cwS 1 hts gX12_shelf_X12_isSheet rfl rfl rfl (by decide +kernel) ⟨Nat.le_of_ble_eq_true rfl, Nat.le_of_ble_eq_true rfl⟩) rfl hl.1 rfl (Nat.le_of_ble_eq_true rfl) dX12_shelf_47 ⟨Nat.le_of_ble_eq_true rfl, Nat.le_of_ble_eq_true rfl⟩ (fun r1582 hw => ?_)
                    by_cases k1583 : x2 < 0
                    · rw [if_pos k1583] at hw
                      subst hw
                      refine lv_if_ne (tgt := 56) hx hb dX12_shelf_50 (by decide) (fun c1584 => ?_) (fun c1584 => ?_)
                      · exact absurd c1584 (by decide)
                      · refine lv_bipush (v := (-2)) hx hb dX12_shelf_53 (by decide) ?_
                        have hP9 := hP.sub (ws' := []) [] rfl
                        have hD9 := hD.sub (ws' := []) [] (by decide) rfl
                        subst hAe
                        exact W.iret (v := (-2)) hx hb hr (fun t ht hW => ⟨⟨_, (), rfl, by rw [if_neg k1550, if_neg k1552, if_neg k1556, if_neg k1558, if_neg c1561, if_neg c1562, if_pos rfl, if_pos k1583], by rw [ht]; exact hP9, hD9⟩, hS.F ht⟩) hS.2.2 dX12_shelf_55
                    · rw [if_neg k1583] at hw
                      by_cases k1585 : (3 : Int32) < x2
                      · rw [if_pos k1585] at hw
                        subst hw
                        refine lv_if_ne (tgt := 56) hx hb dX12_shelf_50 (by decide) (fun c1586 => ?_) (fun c1586 => ?_)
                        · exact absurd c1586 (by decide)
                        · refine lv_bipush (v := (-2)) hx hb dX12_shelf_53 (by decide) ?_
                          have hP9 := hP.sub (ws' := []) [] rfl
                          have hD9 := hD.sub (ws' := []) [] (by decide) rfl
                          subst hAe
                          exact W.iret (v := (-2)) hx hb hr (fun t ht hW => ⟨⟨_, (), rfl, by rw [if_neg k1550, if_neg k1552, if_neg k1556, if_neg k1558, if_neg c1561, if_neg c1562, if_pos rfl, if_neg k1583, if_pos k1585], by rw [ht]; exact hP9, hD9⟩, hS.F ht⟩) hS.2.2 dX12_shelf_55
                      · rw [if_neg k1585] at hw
                        subst hw
                        refine lv_if_ne (tgt := 56) hx hb dX12_shelf_50 (by decide) (fun c1587 => ?_) (fun c1587 => ?_)
                        · refine lv_iload_n hx hb dX12_shelf_56 rfl (lv_at hl 2 rfl) ?_
                          refine lv_iconst (v := 1) hx hb dX12_shelf_57 (by decide) ?_
                          refine lv_iconst (v := 2) hx hb dX12_shelf_58 (by decide) ?_
                          have hPc := hP.sub (ws' := []) [] rfl
                          refine lz_ss (As := [.int 4, .int 1, .int 2]) (rest := []) ⟨hx, hb, hml, hown, hts⟩ (c_X12_in_9 l D cI cS) hKK hPc (va_cwS 3 hts gX12_shelf_X12_in rfl rfl rfl (by decide +kernel) ⟨Nat.le_of_ble_eq_true rfl, Nat.le_of_ble_eq_true rfl⟩) rfl hl.1 rfl (Nat.le_of_ble_eq_true rfl) dX12_shelf_59 ⟨Nat.le_of_ble_eq_true rfl, Nat.le_of_ble_eq_true rfl⟩ (fun r1588 hw => ?_)
                          subst hw
                          refine lv_if_eq (tgt := 76) hx hb dX12_shelf_62 (by decide) (fun c1589 => ?_) (fun c1589 => ?_)
                          · refine lv_iconst (v := 1) hx hb dX12_shelf_76 (by decide) ?_
                            refine lv_istore (lv' := [(4, .int 1), (0, .ref h0), (1, .int x0), (2, .int 4), (3, .int x2)]) hx hb dX12_shelf_77 hl (by decide) rfl (fun ls hl => ?_)
                            refine lv_iload hx hb dX12_shelf_79 (lv_at hl 0 rfl) ?_
                            refine lv_if_ne (tgt := 87) hx hb dX12_shelf_81 (by decide) (fun c1590 => ?_) (fun c1590 => ?_)
                            · refine lv_iload_n hx hb dX12_shelf_87 rfl (lv_at hl 3 rfl) ?_
                              refine lv_iconst (v := 4) hx hb dX12_shelf_88 (by decide) ?_
                              refine lv_icmp_ne (tgt := 105) hx hb dX12_shelf_89 (by decide) (fun c1591 => ?_) (fun c1591 => ?_)
                              · exact absurd c1591 (by decide)
                              · refine lv_aload_n hx hb dX12_shelf_92 rfl (lv_at hl 1 rfl) ?_
                                refine va_get (D := D) (ci := 12) (v := .ref h9) (C := RX12) (T := TX12) (N := 24) hx hb hts hin12 hown hK hP 0 rfl rfl 16 (by decide) (hts (.fieldLink RX12 38 "MissedPointsModel" "sort" "[I") (by decide +kernel)) (fun _ h9 => h9) rfl dX12_shelf_93 ?_
                                refine lv_iload_n hx hb dX12_shelf_96 rfl (lv_at hl 4 rfl) ?_
                                refine va_iald hx hb hK hP 2 0 rfl rfl (lz_vp (x := x2) (n := 4) (by have zf1 := mt (lz_lt x0 (0 : Int32)).mpr k1550; have zf2 := mt (lz_lt (3 : Int32) x0).mpr k1552; have zf3 := mt (lz_lt (4 : Int32) (0 : Int32)).mpr k1556; have zf4 := mt (lz_lt (5 : Int32) (4 : Int32)).mpr k1558; have zf5 := mt (lz_eq (4 : Int32) (0 : Int32)).mpr c1561; have zf6 := mt (lz_eq (4 : Int32) (3 : Int32)).mpr c1562; have zf7 := mt (lz_lt x2 (0 : Int32)).mpr k1583; have zf8 := mt (lz_lt (3 : Int32) x2).mpr k1585; have zn0 : (0 : Int32).toInt = 0 := (by decide); have zn1 : (3 : Int32).toInt = 3 := (by decide); have zn2 : (4 : Int32).toInt = 4 := (by decide); have zn3 : (5 : Int32).toInt = 5 := (by decide); omega) (by have zf1 := mt (lz_lt x0 (0 : Int32)).mpr k1550; have zf2 := mt (lz_lt (3 : Int32) x0).mpr k1552; have zf3 := mt (lz_lt (4 : Int32) (0 : Int32)).mpr k1556; have zf4 := mt (lz_lt (5 : Int32) (4 : Int32)).mpr k1558; have zf5 := mt (lz_eq (4 : Int32) (0 : Int32)).mpr c1561; have zf6 := mt (lz_eq (4 : Int32) (3 : Int32)).mpr c1562; have zf7 := mt (lz_lt x2 (0 : Int32)).mpr k1583; have zf8 := mt (lz_lt (3 : Int32) x2).mpr k1585; have zn0 : (0 : Int32).toInt = 0 := (by decide); have zn1 : (3 : Int32).toInt = 3 := (by decide); have zn2 : (4 : Int32).toInt = 4 := (by decide); have zn3 : (5 : Int32).toInt = 5 := (by decide); omega)) dX12_shelf_97 ?_
                                refine lz_top (y := (-1)) rfl ?_
                                refine lv_iconst (v := (-1)) hx hb dX12_shelf_98 (by decide) ?_
                                refine lv_icmp_ne (tgt := 105) hx hb dX12_shelf_99 (by decide) (fun c1592 => ?_) (fun c1592 => ?_)
                                · exact absurd c1592 (by decide)
                                · refine lv_bipush (v := (-11)) hx hb dX12_shelf_102 (by decide) ?_
                                  have hP9 := hP.sub (ws' := []) [] rfl
                                  have hD9 := hD.sub (ws' := []) [] (by decide) rfl
                                  subst hAe
                                  exact W.iret (v := (-11)) hx hb hr (fun t ht hW => ⟨⟨_, (), rfl, by rw [if_neg k1550, if_neg k1552, if_neg k1556, if_neg k1558, if_neg c1561, if_neg c1562, if_pos rfl, if_neg k1583, if_neg k1585], by rw [ht]; exact hP9, hD9⟩, hS.F ht⟩) hS.2.2 dX12_shelf_104
                            · exact absurd c1590 (by decide)
                          · exact absurd c1589 (by decide)
                        · exact absurd c1587 (by decide)
                · subst c1562
                  refine lv_aload_n hx hb dX12_shelf_33 rfl (lv_at hl 0 rfl) ?_
                  refine lv_iload_n hx hb dX12_shelf_34 rfl (lv_at hl 3 rfl) ?_
                  have hPc := hP.sub (ws' := [(h0, .inr (12, [.int 0, .int 1, .ref h1, .ref h2, .ref h3, .ref h4, .ref h5, .ref h6, .ref h7, .ref h8, .int 0, .int 0, .int 0, .int 0, .int 0, .int 0, .ref h9, .ref h10, .ref h11, .ref h12, .ref h13, .ref h14, .ref h15, .int 0]))]) [0] rfl
                  refine lz_sv (As := [.int x2]) (rest := []) ⟨hx, hb, hml, hown, hts⟩ (c_X12_isSet_0 l D cI cS h0 h1 h2 h3 h4 h5 h6 h7 h8 h9 h10 h11 h12 h13 h14 h15 x2) hKK hPc (ci := 12) rfl rfl (cwV 1 hts gX12_shelf_X12_isSet rfl rfl rfl (by decide +kernel) ⟨Nat.le_of_ble_eq_true rfl, Nat.le_of_ble_eq_true rfl⟩) rfl hl.1 rfl (Nat.le_of_ble_eq_true rfl) dX12_shelf_35 ⟨Nat.le_of_ble_eq_true rfl, Nat.le_of_ble_eq_true rfl⟩ (fun r1593 hw => ?_)
                  by_cases k1594 : x2 = 0
                  · rw [if_pos k1594] at hw
                    subst k1594
                    subst hw
                    refine lv_if_eq (tgt := 53) hx hb dX12_shelf_38 (by decide) (fun c1595 => ?_) (fun c1595 => ?_)
                    · exact absurd c1595 (by decide)
                    · refine lv_iload_n hx hb dX12_shelf_41 rfl (lv_at hl 2 rfl) ?_
                      refine lv_iconst (v := 4) hx hb dX12_shelf_42 (by decide) ?_
                      refine lv_icmp_ne (tgt := 56) hx hb dX12_shelf_43 (by decide) (fun c1596 => ?_) (fun c1596 => ?_)
                      · refine lv_iload_n hx hb dX12_shelf_56 rfl (lv_at hl 2 rfl) ?_
                        refine lv_iconst (v := 1) hx hb dX12_shelf_57 (by decide) ?_
                        refine lv_iconst (v := 2) hx hb dX12_shelf_58 (by decide) ?_
                        have hPc := hP.sub (ws' := []) [] rfl
                        refine lz_ss (As := [.int 3, .int 1, .int 2]) (rest := []) ⟨hx, hb, hml, hown, hts⟩ (c_X12_in_10 l D cI cS) hKK hPc (va_cwS 3 hts gX12_shelf_X12_in rfl rfl rfl (by decide +kernel) ⟨Nat.le_of_ble_eq_true rfl, Nat.le_of_ble_eq_true rfl⟩) rfl hl.1 rfl (Nat.le_of_ble_eq_true rfl) dX12_shelf_59 ⟨Nat.le_of_ble_eq_true rfl, Nat.le_of_ble_eq_true rfl⟩ (fun r1597 hw => ?_)
                        subst hw
                        refine lv_if_eq (tgt := 76) hx hb dX12_shelf_62 (by decide) (fun c1598 => ?_) (fun c1598 => ?_)
                        · refine lv_iconst (v := 1) hx hb dX12_shelf_76 (by decide) ?_
                          refine lv_istore (lv' := [(4, .int 1), (0, .ref h0), (1, .int x0), (2, .int 3), (3, .int 0)]) hx hb dX12_shelf_77 hl (by decide) rfl (fun ls hl => ?_)
                          refine lv_iload hx hb dX12_shelf_79 (lv_at hl 0 rfl) ?_
                          refine lv_if_ne (tgt := 87) hx hb dX12_shelf_81 (by decide) (fun c1599 => ?_) (fun c1599 => ?_)
                          · refine lv_iload_n hx hb dX12_shelf_87 rfl (lv_at hl 3 rfl) ?_
                            refine lv_iconst (v := 4) hx hb dX12_shelf_88 (by decide) ?_
                            refine lv_icmp_ne (tgt := 105) hx hb dX12_shelf_89 (by decide) (fun c1600 => ?_) (fun c1600 => ?_)
                            · refine lv_iload_n hx hb dX12_shelf_105 rfl (lv_at hl 3 rfl) ?_
                              refine lv_if_ne (tgt := 126) hx hb dX12_shelf_106 (by decide) (fun c1601 => ?_) (fun c1601 => ?_)
                              · refine lv_iload_n hx hb dX12_shelf_126 rfl (lv_at hl 3 rfl) ?_
                                refine lv_iconst (v := 1) hx hb dX12_shelf_127 (by decide) ?_
                                refine lv_icmp_ne (tgt := 135) hx hb dX12_shelf_128 (by decide) (fun c1602 => ?_) (fun c1602 => ?_)
                                · refine lv_iload_n hx hb dX12_shelf_135 rfl (lv_at hl 3 rfl) ?_
                                  refine lv_iconst (v := 2) hx hb dX12_shelf_136 (by decide) ?_
                                  refine lv_icmp_ne (tgt := 144) hx hb dX12_shelf_137 (by decide) (fun c1603 => ?_) (fun c1603 => ?_)
                                  · refine lv_iload_n hx hb dX12_shelf_144 rfl (lv_at hl 3 rfl) ?_
                                    refine lv_iconst (v := 3) hx hb dX12_shelf_145 (by decide) ?_
                                    refine lv_icmp_ne (tgt := 153) hx hb dX12_shelf_146 (by decide) (fun c1604 => ?_) (fun c1604 => ?_)
                                    · exact absurd c1604 (by decide)
                                    · refine lv_iconst (v := 2) hx hb dX12_shelf_149 (by decide) ?_
                                      refine lv_goto (tgt := 164) hx hb dX12_shelf_150 (by decide) ?_
                                      refine lv_istore (lv' := [(5, .int 2), (4, .int 1), (0, .ref h0), (1, .int x0), (2, .int 3), (3, .int 0)]) hx hb dX12_shelf_164 hl (by decide) rfl (fun ls hl => ?_)
                                      refine lv_aload_n hx hb dX12_shelf_166 rfl (lv_at hl 2 rfl) ?_
                                      refine va_get (D := D) (ci := 12) (v := .ref h12) (C := RX12) (T := TX12) (N := 24) hx hb hts hin12 hown hK hP 0 rfl rfl 19 (by decide) (hts (.fieldLink RX12 47 "MissedPointsModel" "heldKind" "[I") (by decide +kernel)) (fun _ h9 => h9) rfl dX12_shelf_167 ?_
                                      refine lv_iload_n hx hb dX12_shelf_170 rfl (lv_at hl 3 rfl) ?_
                                      refine lv_iload hx hb dX12_shelf_171 (lv_at hl 0 rfl) ?_
                                      by_cases k1605 : x0 = 0
                                      · subst k1605
                                        refine va_iast hx hb hK hP hD hS 3 0 rfl rfl (lz_vp (x := 0) (n := 4) (by decide) (by decide)) dX12_shelf_173 (fun H locs hP hD hS => ?_)
                                        have hP : va_P D cls [(h0, .inr (12, [.int 0, .int 1, .ref h1, .ref h2, .ref h3, .ref h4, .ref h5, .ref h6, .ref h7, .ref h8, .int 0, .int 0, .int 0, .int 0, .int 0, .int 0, .ref h9, .ref h10, .ref h11, .ref h12, .ref h13, .ref h14, .ref h15, .int 0])), (h3, .inl (cI, 4096, .inl (fun _ => 0))), (h9, .inl (cI, 4, .inl (fun _ => -1))), (h12, .inl (cI, 4, .inl (upd (fun _ => -1) 0 2))), (h13, .inl (cI, 4, .inl (fun _ => 0))), (h14, .inl (cI, 4, .inl (fun _ => 0)))] H := hP
                                        have hD : va_D A [(h0, .inr (12, [.int 0, .int 1, .ref h1, .ref h2, .ref h3, .ref h4, .ref h5, .ref h6, .ref h7, .ref h8, .int 0, .int 0, .int 0, .int 0, .int 0, .int 0, .ref h9, .ref h10, .ref h11, .ref h12, .ref h13, .ref h14, .ref h15, .int 0])), (h3, .inl (cI, 4096, .inl (fun _ => 0))), (h9, .inl (cI, 4, .inl (fun _ => -1))), (h12, .inl (cI, 4, .inl (upd (fun _ => -1) 0 2))), (h13, .inl (cI, 4, .inl (fun _ => 0))), (h14, .inl (cI, 4, .inl (fun _ => 0)))] := hD
                                        refine lv_aload_n hx hb dX12_shelf_174 rfl (lv_at hl 2 rfl) ?_
                                        refine va_get (D := D) (ci := 12) (v := .ref h13) (C := RX12) (T := TX12) (N := 24) hx hb hts hin12 hown hK hP 0 rfl rfl 20 (by decide) (hts (.fieldLink RX12 50 "MissedPointsModel" "heldSet" "[I") (by decide +kernel)) (fun _ h9 => h9) rfl dX12_shelf_175 ?_
                                        refine lv_iload_n hx hb dX12_shelf_178 rfl (lv_at hl 3 rfl) ?_
                                        refine lv_iload_n hx hb dX12_shelf_179 rfl (lv_at hl 4 rfl) ?_
                                        refine lv_if_ne (tgt := 189) hx hb dX12_shelf_180 (by decide) (fun c1606 => ?_) (fun c1606 => ?_)
                                        · refine lv_iload_n hx hb dX12_shelf_189 rfl (lv_at hl 4 rfl) ?_
                                          refine lv_iconst (v := 3) hx hb dX12_shelf_190 (by decide) ?_
                                          refine lv_icmp_ge (tgt := 199) hx hb dX12_shelf_191 (by decide) (fun c1607 => ?_) (fun c1607 => ?_)
                                          · refine lv_iload_n hx hb dX12_shelf_199 rfl (lv_at hl 4 rfl) ?_
                                            refine lv_iconst (v := 3) hx hb dX12_shelf_200 (by decide) ?_
                                            refine lv_icmp_ne (tgt := 208) hx hb dX12_shelf_201 (by decide) (fun c1608 => ?_) (fun c1608 => ?_)
                                            · exact absurd c1608 (by decide)
                                            · refine lv_iload_n hx hb dX12_shelf_204 rfl (lv_at hl 5 rfl) ?_
                                              refine lv_goto (tgt := 223) hx hb dX12_shelf_205 (by decide) ?_
                                              refine lz_astc hx hb hK hP hD hS 4 0 rfl rfl (lz_vp (x := 0) (n := 4) (by decide) (by decide)) dX12_shelf_223 (fun H locs hP hD hS => ?_)
                                              refine lv_aload_n hx hb dX12_shelf_224 rfl (lv_at hl 2 rfl) ?_
                                              refine va_get (D := D) (ci := 12) (v := .ref h14) (C := RX12) (T := TX12) (N := 24) hx hb hts hin12 hown hK hP 0 rfl rfl 21 (by decide) (hts (.fieldLink RX12 53 "MissedPointsModel" "heldSort" "[I") (by decide +kernel)) (fun _ h9 => h9) rfl dX12_shelf_225 ?_
                                              refine lv_iload_n hx hb dX12_shelf_228 rfl (lv_at hl 3 rfl) ?_
                                              refine lv_iload_n hx hb dX12_shelf_229 rfl (lv_at hl 4 rfl) ?_
                                              refine lv_iconst (v := 4) hx hb dX12_shelf_230 (by decide) ?_
                                              refine lv_icmp_ne (tgt := 243) hx hb dX12_shelf_231 (by decide) (fun c1609 => ?_) (fun c1609 => ?_)
                                              · refine lv_iconst (v := 0) hx hb dX12_shelf_243 (by decide) ?_
                                                refine lz_astc hx hb hK hP hD hS 5 0 rfl rfl (lz_vp (x := 0) (n := 4) (by decide) (by decide)) dX12_shelf_244 (fun H locs hP hD hS => ?_)
                                                refine lv_iconst (v := 1) hx hb dX12_shelf_245 (by decide) ?_
                                                have hP9 := hP.sub (ws' := []) [] rfl
                                                have hD9 := hD.sub (ws' := []) [] (by decide) rfl
                                                subst hAe
                                                exact W.iret (v := 1) hx hb hr (fun t ht hW => ⟨⟨_, (), rfl, by rw [if_neg k1550, if_neg k1552, if_neg k1556, if_neg k1558, if_neg c1561, if_pos rfl, if_pos rfl], by rw [ht]; exact hP9, hD9⟩, hS.F ht⟩) hS.2.2 dX12_shelf_246
                                              · exact absurd c1609 (by decide)
                                          · exact absurd c1607 (by decide)
                                        · exact absurd c1606 (by decide)
                                      · by_cases k1610 : x0 = 1
                                        · subst k1610
                                          refine va_iast hx hb hK hP hD hS 3 0 rfl rfl (lz_vp (x := 1) (n := 4) (by decide) (by decide)) dX12_shelf_173 (fun H locs hP hD hS => ?_)
                                          have hP : va_P D cls [(h0, .inr (12, [.int 0, .int 1, .ref h1, .ref h2, .ref h3, .ref h4, .ref h5, .ref h6, .ref h7, .ref h8, .int 0, .int 0, .int 0, .int 0, .int 0, .int 0, .ref h9, .ref h10, .ref h11, .ref h12, .ref h13, .ref h14, .ref h15, .int 0])), (h3, .inl (cI, 4096, .inl (fun _ => 0))), (h9, .inl (cI, 4, .inl (fun _ => -1))), (h12, .inl (cI, 4, .inl (upd (fun _ => -1) 1 2))), (h13, .inl (cI, 4, .inl (fun _ => 0))), (h14, .inl (cI, 4, .inl (fun _ => 0)))] H := hP
                                          have hD : va_D A [(h0, .inr (12, [.int 0, .int 1, .ref h1, .ref h2, .ref h3, .ref h4, .ref h5, .ref h6, .ref h7, .ref h8, .int 0, .int 0, .int 0, .int 0, .int 0, .int 0, .ref h9, .ref h10, .ref h11, .ref h12, .ref h13, .ref h14, .ref h15, .int 0])), (h3, .inl (cI, 4096, .inl (fun _ => 0))), (h9, .inl (cI, 4, .inl (fun _ => -1))), (h12, .inl (cI, 4, .inl (upd (fun _ => -1) 1 2))), (h13, .inl (cI, 4, .inl (fun _ => 0))), (h14, .inl (cI, 4, .inl (fun _ => 0)))] := hD
                                          refine lv_aload_n hx hb dX12_shelf_174 rfl (lv_at hl 2 rfl) ?_
                                          refine va_get (D := D) (ci := 12) (v := .ref h13) (C := RX12) (T := TX12) (N := 24) hx hb hts hin12 hown hK hP 0 rfl rfl 20 (by decide) (hts (.fieldLink RX12 50 "MissedPointsModel" "heldSet" "[I") (by decide +kernel)) (fun _ h9 => h9) rfl dX12_shelf_175 ?_
                                          refine lv_iload_n hx hb dX12_shelf_178 rfl (lv_at hl 3 rfl) ?_
                                          refine lv_iload_n hx hb dX12_shelf_179 rfl (lv_at hl 4 rfl) ?_
                                          refine lv_if_ne (tgt := 189) hx hb dX12_shelf_180 (by decide) (fun c1611 => ?_) (fun c1611 => ?_)
                                          · refine lv_iload_n hx hb dX12_shelf_189 rfl (lv_at hl 4 rfl) ?_
                                            refine lv_iconst (v := 3) hx hb dX12_shelf_190 (by decide) ?_
                                            refine lv_icmp_ge (tgt := 199) hx hb dX12_shelf_191 (by decide) (fun c1612 => ?_) (fun c1612 => ?_)
                                            · refine lv_iload_n hx hb dX12_shelf_199 rfl (lv_at hl 4 rfl) ?_
                                              refine lv_iconst (v := 3) hx hb dX12_shelf_200 (by decide) ?_
                                              refine lv_icmp_ne (tgt := 208) hx hb dX12_shelf_201 (by decide) (fun c1613 => ?_) (fun c1613 => ?_)
                                              · exact absurd c1613 (by decide)
                                              · refine lv_iload_n hx hb dX12_shelf_204 rfl (lv_at hl 5 rfl) ?_
                                                refine lv_goto (tgt := 223) hx hb dX12_shelf_205 (by decide) ?_
                                                refine lz_astc hx hb hK hP hD hS 4 0 rfl rfl (lz_vp (x := 1) (n := 4) (by decide) (by decide)) dX12_shelf_223 (fun H locs hP hD hS => ?_)
                                                refine lv_aload_n hx hb dX12_shelf_224 rfl (lv_at hl 2 rfl) ?_
                                                refine va_get (D := D) (ci := 12) (v := .ref h14) (C := RX12) (T := TX12) (N := 24) hx hb hts hin12 hown hK hP 0 rfl rfl 21 (by decide) (hts (.fieldLink RX12 53 "MissedPointsModel" "heldSort" "[I") (by decide +kernel)) (fun _ h9 => h9) rfl dX12_shelf_225 ?_
                                                refine lv_iload_n hx hb dX12_shelf_228 rfl (lv_at hl 3 rfl) ?_
                                                refine lv_iload_n hx hb dX12_shelf_229 rfl (lv_at hl 4 rfl) ?_
                                                refine lv_iconst (v := 4) hx hb dX12_shelf_230 (by decide) ?_
                                                refine lv_icmp_ne (tgt := 243) hx hb dX12_shelf_231 (by decide) (fun c1614 => ?_) (fun c1614 => ?_)
                                                · refine lv_iconst (v := 0) hx hb dX12_shelf_243 (by decide) ?_
                                                  refine lz_astc hx hb hK hP hD hS 5 0 rfl rfl (lz_vp (x := 1) (n := 4) (by decide) (by decide)) dX12_shelf_244 (fun H locs hP hD hS => ?_)
                                                  refine lv_iconst (v := 1) hx hb dX12_shelf_245 (by decide) ?_
                                                  have hP9 := hP.sub (ws' := []) [] rfl
                                                  have hD9 := hD.sub (ws' := []) [] (by decide) rfl
                                                  subst hAe
                                                  exact W.iret (v := 1) hx hb hr (fun t ht hW => ⟨⟨_, (), rfl, by rw [if_neg k1550, if_neg k1552, if_neg k1556, if_neg k1558, if_neg c1561, if_pos rfl, if_pos rfl], by rw [ht]; exact hP9, hD9⟩, hS.F ht⟩) hS.2.2 dX12_shelf_246
                                                · exact absurd c1614 (by decide)
                                            · exact absurd c1612 (by decide)
                                          · exact absurd c1611 (by decide)
                                        · by_cases k1615 : x0 = 2
                                          · subst k1615
                                            refine va_iast hx hb hK hP hD hS 3 0 rfl rfl (lz_vp (x := 2) (n := 4) (by decide) (by decide)) dX12_shelf_173 (fun H locs hP hD hS => ?_)
                                            have hP : va_P D cls [(h0, .inr (12, [.int 0, .int 1, .ref h1, .ref h2, .ref h3, .ref h4, .ref h5, .ref h6, .ref h7, .ref h8, .int 0, .int 0, .int 0, .int 0, .int 0, .int 0, .ref h9, .ref h10, .ref h11, .ref h12, .ref h13, .ref h14, .ref h15, .int 0])), (h3, .inl (cI, 4096, .inl (fun _ => 0))), (h9, .inl (cI, 4, .inl (fun _ => -1))), (h12, .inl (cI, 4, .inl (upd (fun _ => -1) 2 2))), (h13, .inl (cI, 4, .inl (fun _ => 0))), (h14, .inl (cI, 4, .inl (fun _ => 0)))] H := hP
                                            have hD : va_D A [(h0, .inr (12, [.int 0, .int 1, .ref h1, .ref h2, .ref h3, .ref h4, .ref h5, .ref h6, .ref h7, .ref h8, .int 0, .int 0, .int 0, .int 0, .int 0, .int 0, .ref h9, .ref h10, .ref h11, .ref h12, .ref h13, .ref h14, .ref h15, .int 0])), (h3, .inl (cI, 4096, .inl (fun _ => 0))), (h9, .inl (cI, 4, .inl (fun _ => -1))), (h12, .inl (cI, 4, .inl (upd (fun _ => -1) 2 2))), (h13, .inl (cI, 4, .inl (fun _ => 0))), (h14, .inl (cI, 4, .inl (fun _ => 0)))] := hD
                                            refine lv_aload_n hx hb dX12_shelf_174 rfl (lv_at hl 2 rfl) ?_
                                            refine va_get (D := D) (ci := 12) (v := .ref h13) (C := RX12) (T := TX12) (N := 24) hx hb hts hin12 hown hK hP 0 rfl rfl 20 (by decide) (hts (.fieldLink RX12 50 "MissedPointsModel" "heldSet" "[I") (by decide +kernel)) (fun _ h9 => h9) rfl dX12_shelf_175 ?_
                                            refine lv_iload_n hx hb dX12_shelf_178 rfl (lv_at hl 3 rfl) ?_
                                            refine lv_iload_n hx hb dX12_shelf_179 rfl (lv_at hl 4 rfl) ?_
                                            refine lv_if_ne (tgt := 189) hx hb dX12_shelf_180 (by decide) (fun c1616 => ?_) (fun c1616 => ?_)
                                            · refine lv_iload_n hx hb dX12_shelf_189 rfl (lv_at hl 4 rfl) ?_
                                              refine lv_iconst (v := 3) hx hb dX12_shelf_190 (by decide) ?_
                                              refine lv_icmp_ge (tgt := 199) hx hb dX12_shelf_191 (by decide) (fun c1617 => ?_) (fun c1617 => ?_)
                                              · refine lv_iload_n hx hb dX12_shelf_199 rfl (lv_at hl 4 rfl) ?_
                                                refine lv_iconst (v := 3) hx hb dX12_shelf_200 (by decide) ?_
                                                refine lv_icmp_ne (tgt := 208) hx hb dX12_shelf_201 (by decide) (fun c1618 => ?_) (fun c1618 => ?_)
                                                · exact absurd c1618 (by decide)
                                                · refine lv_iload_n hx hb dX12_shelf_204 rfl (lv_at hl 5 rfl) ?_
                                                  refine lv_goto (tgt := 223) hx hb dX12_shelf_205 (by decide) ?_
                                                  refine lz_astc hx hb hK hP hD hS 4 0 rfl rfl (lz_vp (x := 2) (n := 4) (by decide) (by decide)) dX12_shelf_223 (fun H locs hP hD hS => ?_)
                                                  refine lv_aload_n hx hb dX12_shelf_224 rfl (lv_at hl 2 rfl) ?_
                                                  refine va_get (D := D) (ci := 12) (v := .ref h14) (C := RX12) (T := TX12) (N := 24) hx hb hts hin12 hown hK hP 0 rfl rfl 21 (by decide) (hts (.fieldLink RX12 53 "MissedPointsModel" "heldSort" "[I") (by decide +kernel)) (fun _ h9 => h9) rfl dX12_shelf_225 ?_
                                                  refine lv_iload_n hx hb dX12_shelf_228 rfl (lv_at hl 3 rfl) ?_
                                                  refine lv_iload_n hx hb dX12_shelf_229 rfl (lv_at hl 4 rfl) ?_
                                                  refine lv_iconst (v := 4) hx hb dX12_shelf_230 (by decide) ?_
                                                  refine lv_icmp_ne (tgt := 243) hx hb dX12_shelf_231 (by decide) (fun c1619 => ?_) (fun c1619 => ?_)
                                                  · refine lv_iconst (v := 0) hx hb dX12_shelf_243 (by decide) ?_
                                                    refine lz_astc hx hb hK hP hD hS 5 0 rfl rfl (lz_vp (x := 2) (n := 4) (by decide) (by decide)) dX12_shelf_244 (fun H locs hP hD hS => ?_)
                                                    refine lv_iconst (v := 1) hx hb dX12_shelf_245 (by decide) ?_
                                                    have hP9 := hP.sub (ws' := []) [] rfl
                                                    have hD9 := hD.sub (ws' := []) [] (by decide) rfl
                                                    subst hAe
                                                    exact W.iret (v := 1) hx hb hr (fun t ht hW => ⟨⟨_, (), rfl, by rw [if_neg k1550, if_neg k1552, if_neg k1556, if_neg k1558, if_neg c1561, if_pos rfl, if_pos rfl], by rw [ht]; exact hP9, hD9⟩, hS.F ht⟩) hS.2.2 dX12_shelf_246
                                                  · exact absurd c1619 (by decide)
                                              · exact absurd c1617 (by decide)
                                            · exact absurd c1616 (by decide)
                                          · obtain rfl : x0 = 3 := by have zf1 := mt (lz_lt x0 (0 : Int32)).mpr k1550; have zf2 := mt (lz_lt (3 : Int32) x0).mpr k1552; have zf3 := mt (lz_lt (3 : Int32) (0 : Int32)).mpr k1556; have zf4 := mt (lz_lt (5 : Int32) (3 : Int32)).mpr k1558; have zf5 := mt (lz_eq (3 : Int32) (0 : Int32)).mpr c1561; have zf6 := mt (lz_eq x0 (0 : Int32)).mpr k1605; have zf7 := mt (lz_eq x0 (1 : Int32)).mpr k1610; have zf8 := mt (lz_eq x0 (2 : Int32)).mpr k1615; have zn0 : (0 : Int32).toInt = 0 := (by decide); have zn1 : (1 : Int32).toInt = 1 := (by decide); have zn2 : (2 : Int32).toInt = 2 := (by decide); have zn3 : (3 : Int32).toInt = 3 := (by decide); have zn4 : (5 : Int32).toInt = 5 := (by decide); rw [lz_eq]; omega
                                            refine va_iast hx hb hK hP hD hS 3 0 rfl rfl (lz_vp (x := 3) (n := 4) (by decide) (by decide)) dX12_shelf_173 (fun H locs hP hD hS => ?_)
                                            have hP : va_P D cls [(h0, .inr (12, [.int 0, .int 1, .ref h1, .ref h2, .ref h3, .ref h4, .ref h5, .ref h6, .ref h7, .ref h8, .int 0, .int 0, .int 0, .int 0, .int 0, .int 0, .ref h9, .ref h10, .ref h11, .ref h12, .ref h13, .ref h14, .ref h15, .int 0])), (h3, .inl (cI, 4096, .inl (fun _ => 0))), (h9, .inl (cI, 4, .inl (fun _ => -1))), (h12, .inl (cI, 4, .inl (upd (fun _ => -1) 3 2))), (h13, .inl (cI, 4, .inl (fun _ => 0))), (h14, .inl (cI, 4, .inl (fun _ => 0)))] H := hP
                                            have hD : va_D A [(h0, .inr (12, [.int 0, .int 1, .ref h1, .ref h2, .ref h3, .ref h4, .ref h5, .ref h6, .ref h7, .ref h8, .int 0, .int 0, .int 0, .int 0, .int 0, .int 0, .ref h9, .ref h10, .ref h11, .ref h12, .ref h13, .ref h14, .ref h15, .int 0])), (h3, .inl (cI, 4096, .inl (fun _ => 0))), (h9, .inl (cI, 4, .inl (fun _ => -1))), (h12, .inl (cI, 4, .inl (upd (fun _ => -1) 3 2))), (h13, .inl (cI, 4, .inl (fun _ => 0))), (h14, .inl (cI, 4, .inl (fun _ => 0)))] := hD
                                            refine lv_aload_n hx hb dX12_shelf_174 rfl (lv_at hl 2 rfl) ?_
                                            refine va_get (D := D) (ci := 12) (v := .ref h13) (C := RX12) (T := TX12) (N := 24) hx hb hts hin12 hown hK hP 0 rfl rfl 20 (by decide) (hts (.fieldLink RX12 50 "MissedPointsModel" "heldSet" "[I") (by decide +kernel)) (fun _ h9 => h9) rfl dX12_shelf_175 ?_
                                            refine lv_iload_n hx hb dX12_shelf_178 rfl (lv_at hl 3 rfl) ?_
                                            refine lv_iload_n hx hb dX12_shelf_179 rfl (lv_at hl 4 rfl) ?_
                                            refine lv_if_ne (tgt := 189) hx hb dX12_shelf_180 (by decide) (fun c1620 => ?_) (fun c1620 => ?_)
                                            · refine lv_iload_n hx hb dX12_shelf_189 rfl (lv_at hl 4 rfl) ?_
                                              refine lv_iconst (v := 3) hx hb dX12_shelf_190 (by decide) ?_
                                              refine lv_icmp_ge (tgt := 199) hx hb dX12_shelf_191 (by decide) (fun c1621 => ?_) (fun c1621 => ?_)
                                              · refine lv_iload_n hx hb dX12_shelf_199 rfl (lv_at hl 4 rfl) ?_
                                                refine lv_iconst (v := 3) hx hb dX12_shelf_200 (by decide) ?_
                                                refine lv_icmp_ne (tgt := 208) hx hb dX12_shelf_201 (by decide) (fun c1622 => ?_) (fun c1622 => ?_)
                                                · exact absurd c1622 (by decide)
                                                · refine lv_iload_n hx hb dX12_shelf_204 rfl (lv_at hl 5 rfl) ?_
                                                  refine lv_goto (tgt := 223) hx hb dX12_shelf_205 (by decide) ?_
                                                  refine lz_astc hx hb hK hP hD hS 4 0 rfl rfl (lz_vp (x := 3) (n := 4) (by decide) (by decide)) dX12_shelf_223 (fun H locs hP hD hS => ?_)
                                                  refine lv_aload_n hx hb dX12_shelf_224 rfl (lv_at hl 2 rfl) ?_
                                                  refine va_get (D := D) (ci := 12) (v := .ref h14) (C := RX12) (T := TX12) (N := 24) hx hb hts hin12 hown hK hP 0 rfl rfl 21 (by decide) (hts (.fieldLink RX12 53 "MissedPointsModel" "heldSort" "[I") (by decide +kernel)) (fun _ h9 => h9) rfl dX12_shelf_225 ?_
                                                  refine lv_iload_n hx hb dX12_shelf_228 rfl (lv_at hl 3 rfl) ?_
                                                  refine lv_iload_n hx hb dX12_shelf_229 rfl (lv_at hl 4 rfl) ?_
                                                  refine lv_iconst (v := 4) hx hb dX12_shelf_230 (by decide) ?_
                                                  refine lv_icmp_ne (tgt := 243) hx hb dX12_shelf_231 (by decide) (fun c1623 => ?_) (fun c1623 => ?_)
                                                  · refine lv_iconst (v := 0) hx hb dX12_shelf_243 (by decide) ?_
                                                    refine lz_astc hx hb hK hP hD hS 5 0 rfl rfl (lz_vp (x := 3) (n := 4) (by decide) (by decide)) dX12_shelf_244 (fun H locs hP hD hS => ?_)
                                                    refine lv_iconst (v := 1) hx hb dX12_shelf_245 (by decide) ?_
                                                    have hP9 := hP.sub (ws' := []) [] rfl
                                                    have hD9 := hD.sub (ws' := []) [] (by decide) rfl
                                                    subst hAe
                                                    exact W.iret (v := 1) hx hb hr (fun t ht hW => ⟨⟨_, (), rfl, by rw [if_neg k1550, if_neg k1552, if_neg k1556, if_neg k1558, if_neg c1561, if_pos rfl, if_pos rfl], by rw [ht]; exact hP9, hD9⟩, hS.F ht⟩) hS.2.2 dX12_shelf_246
                                                  · exact absurd c1623 (by decide)
                                              · exact absurd c1621 (by decide)
                                            · exact absurd c1620 (by decide)
                                  · exact absurd c1603 (by decide)
                                · exact absurd c1602 (by decide)
                              · exact absurd c1601 (by decide)
                            · exact absurd c1600 (by decide)
                          · exact absurd c1599 (by decide)
                        · exact absurd c1598 (by decide)
                      · exact absurd c1596 (by decide)
                  · rw [if_neg k1594] at hw
                    subst hw
                    refine lv_if_eq (tgt := 53) hx hb dX12_shelf_38 (by decide) (fun c1624 => ?_) (fun c1624 => ?_)
                    · refine lv_bipush (v := (-2)) hx hb dX12_shelf_53 (by decide) ?_
                      have hP9 := hP.sub (ws' := []) [] rfl
                      have hD9 := hD.sub (ws' := []) [] (by decide) rfl
                      subst hAe
                      exact W.iret (v := (-2)) hx hb hr (fun t ht hW => ⟨⟨_, (), rfl, by rw [if_neg k1550, if_neg k1552, if_neg k1556, if_neg k1558, if_neg c1561, if_pos rfl, if_neg k1594], by rw [ht]; exact hP9, hD9⟩, hS.F ht⟩) hS.2.2 dX12_shelf_55
                    · exact absurd c1624 (by decide)
              · subst c1561
                refine lv_aload_n hx hb dX12_shelf_20 rfl (lv_at hl 0 rfl) ?_
                refine lv_iload_n hx hb dX12_shelf_21 rfl (lv_at hl 3 rfl) ?_
                have hPc := hP.sub (ws' := [(h0, .inr (12, [.int 0, .int 1, .ref h1, .ref h2, .ref h3, .ref h4, .ref h5, .ref h6, .ref h7, .ref h8, .int 0, .int 0, .int 0, .int 0, .int 0, .int 0, .ref h9, .ref h10, .ref h11, .ref h12, .ref h13, .ref h14, .ref h15, .int 0]))]) [0] rfl
                refine lz_sv (As := [.int x2]) (rest := []) ⟨hx, hb, hml, hown, hts⟩ (c_X12_isPoint_0 l D cI cS h0 h1 h2 h3 h4 h5 h6 h7 h8 h9 h10 h11 h12 h13 h14 h15 x2) hKK hPc (ci := 12) rfl rfl (cwV 1 hts gX12_shelf_X12_isPoint rfl rfl rfl (by decide +kernel) ⟨Nat.le_of_ble_eq_true rfl, Nat.le_of_ble_eq_true rfl⟩) rfl hl.1 rfl (Nat.le_of_ble_eq_true rfl) dX12_shelf_22 ⟨Nat.le_of_ble_eq_true rfl, Nat.le_of_ble_eq_true rfl⟩ (fun r1625 hw => ?_)
                subst hw
                refine lv_if_eq (tgt := 53) hx hb dX12_shelf_25 (by decide) (fun c1626 => ?_) (fun c1626 => ?_)
                · refine lv_bipush (v := (-2)) hx hb dX12_shelf_53 (by decide) ?_
                  have hP9 := hP.sub (ws' := []) [] rfl
                  have hD9 := hD.sub (ws' := []) [] (by decide) rfl
                  subst hAe
                  exact W.iret (v := (-2)) hx hb hr (fun t ht hW => ⟨⟨_, (), rfl, by rw [if_neg k1550, if_neg k1552, if_neg k1556, if_neg k1558, if_pos rfl], by rw [ht]; exact hP9, hD9⟩, hS.F ht⟩) hS.2.2 dX12_shelf_55
                · exact absurd c1626 (by decide)
set_option maxHeartbeats 4000000 in
set_option maxRecDepth 100000 in
theorem c_X12_in_11 (l : Launch) (D : va_G) (cI cS : ClassId) (x0 : Int32) : Met l yX12_in wsX12_in ({ frames := 0, cells := 0, slots := 0, locals := 0 }) (PS D cI cS [] [.int x0, .int 10, .int 11]) (vp_Si (fun r => r = if x0 < 10 then (0 : Int32) else (if (11 : Int32) < x0 then (0 : Int32) else (1 : Int32)))) 0 0 (fun _ => False) := by
  refine Met.ofW (cc := cX12_in) (maxL := 3) (ret := (some .boolean)) (by decide) rfl ?_
  intro p e s m args below meth c s₁ B hml hv
  obtain ⟨rfl, hP, hKK⟩ := hv
  have hx := B.exec
  have hb := B.bytes
  have hr := B.returns
  have hts := atoms_spec (ws := wsX12_in) B.pre
  have hown : s.vm.findClass RX12 = some m.cls := findClass_of_methodNamed B.named
  have hlocks := B.notSynchronized
  have hK := hKK.1
  have hN := hKK.2
  have hl := lv_entry ([.int x0, .int 10, .int 11]) (n := 3) (Nat.le_of_ble_eq_true rfl)
  rw [lg_entry_eq]
  generalize (lg_sl ([.int x0, .int 10, .int 11]) ++ List.replicate (3 - (lg_sl ([.int x0, .int 10, .int 11])).length) Slot.unset).toArray = ls at hl ⊢
  have hl : lv_has ls 3 [(0, .int x0), (1, .int 10), (2, .int 11)] := hl
  refine lv_iload_n hx hb dX12_in_0 rfl (lv_at hl 0 rfl) ?_
  refine lv_iload_n hx hb dX12_in_1 rfl (lv_at hl 1 rfl) ?_
  refine lv_icmp_lt (tgt := 14) hx hb dX12_in_2 (by decide) (fun c1638 => ?_) (fun c1638 => ?_)
  · refine lv_iconst (v := 0) hx hb dX12_in_14 (by decide) ?_
    exact W.zret (v := 0) hx hb hr (by decide) (fun t ht hW => ⟨_, rfl, by rw [if_pos c1638], ht⟩) (fun q hq => absurd hq List.not_mem_nil) dX12_in_15
  · refine lv_iload_n hx hb dX12_in_5 rfl (lv_at hl 0 rfl) ?_
    refine lv_iload_n hx hb dX12_in_6 rfl (lv_at hl 2 rfl) ?_
    refine lv_icmp_gt (tgt := 14) hx hb dX12_in_7 (by decide) (fun c1639 => ?_) (fun c1639 => ?_)
    · refine lv_iconst (v := 0) hx hb dX12_in_14 (by decide) ?_
      exact W.zret (v := 0) hx hb hr (by decide) (fun t ht hW => ⟨_, rfl, by rw [if_neg c1638, if_pos c1639], ht⟩) (fun q hq => absurd hq List.not_mem_nil) dX12_in_15
    · refine lv_iconst (v := 1) hx hb dX12_in_10 (by decide) ?_
      refine lv_goto (tgt := 15) hx hb dX12_in_11 (by decide) ?_
      exact W.zret (v := 1) hx hb hr (by decide) (fun t ht hW => ⟨_, rfl, by rw [if_neg c1638, if_neg c1639], ht⟩) (fun q hq => absurd hq List.not_mem_nil) dX12_in_15
set_option maxHeartbeats 4000000 in
set_option maxRecDepth 100000 in
theorem c_X12_taken_0 (l : Launch) (D : va_G) (cI cS : ClassId) (h0 h1 h2 h3 h4 h5 h6 h7 h8 h9 h10 h11 h12 h13 h14 h15 : Nat) (x0 x1 : Int32) : Met l yX12_taken wsX12_taken ({ frames := 2, cells := 0, slots := 0, locals := 80 }) (PS D cI cS [(h0, .inr (12, [.int 0, .int 1, .ref h1, .ref h2, .ref h3, .ref h4, .ref h5, .ref h6, .ref h7, .ref h8, .int 0, .int 0, .int 0, .int 0, .int 0, .int 0, .ref h9, .ref h10, .ref h11, .ref h12, .ref h13, .ref h14, .ref h15, .int 0])), (h12, .inl (cI, 4, .inl (fun _ => -1)))] [.ref h0, .int x0, .int x1]) (vp_Si (fun r => r = if x0 < 0 then ((-2) : Int32) else (if (3 : Int32) < x0 then ((-2) : Int32) else (if x1 < 0 then ((-2) : Int32) else (if (5 : Int32) < x1 then (if x1 < 10 then ((-2) : Int32) else (if (11 : Int32) < x1 then ((-2) : Int32) else ((-11) : Int32))) else ((-11) : Int32)))))) 0 0 (fun _ => False) := by
  refine Met.ofW (cc := cX12_taken) (maxL := 4) (ret := (some .int)) (by decide) rfl ?_
  intro p e s m args below meth c s₁ B hml hv
  obtain ⟨rfl, hP, hKK⟩ := hv
  have hx := B.exec
  have hb := B.bytes
  have hr := B.returns
  have hts := atoms_spec (ws := wsX12_taken) B.pre
  have hown : s.vm.findClass RX12 = some m.cls := findClass_of_methodNamed B.named
  have hlocks := B.notSynchronized
  have hK := hKK.1
  have hN := hKK.2
  have hin12 : ∀ w ∈ wsX120, w ∈ wsX12_taken := by decide +kernel
  have hl := lv_entry ([.ref h0, .int x0, .int x1]) (n := 4) (Nat.le_of_ble_eq_true rfl)
  rw [lg_entry_eq]
  generalize (lg_sl ([.ref h0, .int x0, .int x1]) ++ List.replicate (4 - (lg_sl ([.ref h0, .int x0, .int x1])).length) Slot.unset).toArray = ls at hl ⊢
  have hl : lv_has ls 4 [(0, .ref h0), (1, .int x0), (2, .int x1)] := hl
  refine lv_iload_n hx hb dX12_taken_0 rfl (lv_at hl 1 rfl) ?_
  have hPc := hP.sub (ws' := []) [] rfl
  refine lz_ss (As := [.int x0]) (rest := []) ⟨hx, hb, hml, hown, hts⟩ (c_X12_isShelf_0 l D cI cS x0) hKK hPc (va_cwS 1 hts gX12_taken_X12_isShelf rfl rfl rfl (by decide +kernel) ⟨Nat.le_of_ble_eq_true rfl, Nat.le_of_ble_eq_true rfl⟩) rfl hl.1 rfl (Nat.le_of_ble_eq_true rfl) dX12_taken_1 ⟨Nat.le_of_ble_eq_true rfl, Nat.le_of_ble_eq_true rfl⟩ (fun r1653 hw => ?_)
  by_cases k1654 : x0 < 0
  · rw [if_pos k1654] at hw
    subst hw
    refine lv_if_eq (tgt := 27) hx hb dX12_taken_4 (by decide) (fun c1655 => ?_) (fun c1655 => ?_)
    · refine lv_bipush (v := (-2)) hx hb dX12_taken_27 (by decide) ?_
      exact W.iret (v := (-2)) hx hb hr (fun t ht hW => ⟨_, rfl, by rw [if_pos k1654], ht⟩) (fun q hq => absurd hq List.not_mem_nil) dX12_taken_29
    · exact absurd c1655 (by decide)
  · rw [if_neg k1654] at hw
    by_cases k1656 : (3 : Int32) < x0
    · rw [if_pos k1656] at hw
      subst hw
      refine lv_if_eq (tgt := 27) hx hb dX12_taken_4 (by decide) (fun c1657 => ?_) (fun c1657 => ?_)
      · refine lv_bipush (v := (-2)) hx hb dX12_taken_27 (by decide) ?_
        exact W.iret (v := (-2)) hx hb hr (fun t ht hW => ⟨_, rfl, by rw [if_neg k1654, if_pos k1656], ht⟩) (fun q hq => absurd hq List.not_mem_nil) dX12_taken_29
      · exact absurd c1657 (by decide)
    · rw [if_neg k1656] at hw
      subst hw
      refine lv_if_eq (tgt := 27) hx hb dX12_taken_4 (by decide) (fun c1658 => ?_) (fun c1658 => ?_)
      · exact absurd c1658 (by decide)
      · refine lv_iload_n hx hb dX12_taken_7 rfl (lv_at hl 2 rfl) ?_
        refine lv_iconst (v := 0) hx hb dX12_taken_8 (by decide) ?_
        refine lv_iconst (v := 5) hx hb dX12_taken_9 (by decide) ?_
        have hPc := hP.sub (ws' := []) [] rfl
        refine lz_ss (As := [.int x1, .int 0, .int 5]) (rest := []) ⟨hx, hb, hml, hown, hts⟩ (c_X12_in_7 l D cI cS x1) hKK hPc (va_cwS 3 hts gX12_taken_X12_in rfl rfl rfl (by decide +kernel) ⟨Nat.le_of_ble_eq_true rfl, Nat.le_of_ble_eq_true rfl⟩) rfl hl.1 rfl (Nat.le_of_ble_eq_true rfl) dX12_taken_10 ⟨Nat.le_of_ble_eq_true rfl, Nat.le_of_ble_eq_true rfl⟩ (fun r1659 hw => ?_)
        by_cases k1660 : x1 < 0
        · rw [if_pos k1660] at hw
          subst hw
          refine lv_if_ne (tgt := 30) hx hb dX12_taken_13 (by decide) (fun c1661 => ?_) (fun c1661 => ?_)
          · exact absurd c1661 (by decide)
          · refine lv_iload_n hx hb dX12_taken_16 rfl (lv_at hl 2 rfl) ?_
            refine lv_bipush (v := 10) hx hb dX12_taken_17 (by decide) ?_
            refine lv_bipush (v := 11) hx hb dX12_taken_19 (by decide) ?_
            have hPc := hP.sub (ws' := []) [] rfl
            refine lz_ss (As := [.int x1, .int 10, .int 11]) (rest := []) ⟨hx, hb, hml, hown, hts⟩ (c_X12_in_11 l D cI cS x1) hKK hPc (va_cwS 3 hts gX12_taken_X12_in rfl rfl rfl (by decide +kernel) ⟨Nat.le_of_ble_eq_true rfl, Nat.le_of_ble_eq_true rfl⟩) rfl hl.1 rfl (Nat.le_of_ble_eq_true rfl) dX12_taken_21 ⟨Nat.le_of_ble_eq_true rfl, Nat.le_of_ble_eq_true rfl⟩ (fun r1662 hw => ?_)
            rw [if_pos (show x1 < 10 from by have zf1 := mt (lz_lt x0 (0 : Int32)).mpr k1654; have zf2 := mt (lz_lt (3 : Int32) x0).mpr k1656; have zf3 := (lz_lt x1 (0 : Int32)).mp k1660; have zn0 : (0 : Int32).toInt = 0 := (by decide); have zn1 : (3 : Int32).toInt = 3 := (by decide); have zn2 : (10 : Int32).toInt = 10 := (by decide); rw [lz_lt]; omega)] at hw
            subst hw
            refine lv_if_ne (tgt := 30) hx hb dX12_taken_24 (by decide) (fun c1663 => ?_) (fun c1663 => ?_)
            · exact absurd c1663 (by decide)
            · refine lv_bipush (v := (-2)) hx hb dX12_taken_27 (by decide) ?_
              exact W.iret (v := (-2)) hx hb hr (fun t ht hW => ⟨_, rfl, by rw [if_neg k1654, if_neg k1656, if_pos k1660], ht⟩) (fun q hq => absurd hq List.not_mem_nil) dX12_taken_29
        · rw [if_neg k1660] at hw
          by_cases k1664 : (5 : Int32) < x1
          · rw [if_pos k1664] at hw
            subst hw
            refine lv_if_ne (tgt := 30) hx hb dX12_taken_13 (by decide) (fun c1665 => ?_) (fun c1665 => ?_)
            · exact absurd c1665 (by decide)
            · refine lv_iload_n hx hb dX12_taken_16 rfl (lv_at hl 2 rfl) ?_
              refine lv_bipush (v := 10) hx hb dX12_taken_17 (by decide) ?_
              refine lv_bipush (v := 11) hx hb dX12_taken_19 (by decide) ?_
              have hPc := hP.sub (ws' := []) [] rfl
              refine lz_ss (As := [.int x1, .int 10, .int 11]) (rest := []) ⟨hx, hb, hml, hown, hts⟩ (c_X12_in_11 l D cI cS x1) hKK hPc (va_cwS 3 hts gX12_taken_X12_in rfl rfl rfl (by decide +kernel) ⟨Nat.le_of_ble_eq_true rfl, Nat.le_of_ble_eq_true rfl⟩) rfl hl.1 rfl (Nat.le_of_ble_eq_true rfl) dX12_taken_21 ⟨Nat.le_of_ble_eq_true rfl, Nat.le_of_ble_eq_true rfl⟩ (fun r1666 hw => ?_)
              by_cases k1667 : x1 < 10
              · rw [if_pos k1667] at hw
                subst hw
                refine lv_if_ne (tgt := 30) hx hb dX12_taken_24 (by decide) (fun c1668 => ?_) (fun c1668 => ?_)
                · exact absurd c1668 (by decide)
                · refine lv_bipush (v := (-2)) hx hb dX12_taken_27 (by decide) ?_
                  exact W.iret (v := (-2)) hx hb hr (fun t ht hW => ⟨_, rfl, by rw [if_neg k1654, if_neg k1656, if_neg k1660, if_pos k1664, if_pos k1667], ht⟩) (fun q hq => absurd hq List.not_mem_nil) dX12_taken_29
              · rw [if_neg k1667] at hw
                by_cases k1669 : (11 : Int32) < x1
                · rw [if_pos k1669] at hw
                  subst hw
                  refine lv_if_ne (tgt := 30) hx hb dX12_taken_24 (by decide) (fun c1670 => ?_) (fun c1670 => ?_)
                  · exact absurd c1670 (by decide)
                  · refine lv_bipush (v := (-2)) hx hb dX12_taken_27 (by decide) ?_
                    exact W.iret (v := (-2)) hx hb hr (fun t ht hW => ⟨_, rfl, by rw [if_neg k1654, if_neg k1656, if_neg k1660, if_pos k1664, if_neg k1667, if_pos k1669], ht⟩) (fun q hq => absurd hq List.not_mem_nil) dX12_taken_29
                · rw [if_neg k1669] at hw
                  subst hw
                  refine lv_if_ne (tgt := 30) hx hb dX12_taken_24 (by decide) (fun c1671 => ?_) (fun c1671 => ?_)
                  · refine lv_aload_n hx hb dX12_taken_30 rfl (lv_at hl 0 rfl) ?_
                    refine va_get (D := D) (ci := 12) (v := .ref h12) (C := RX12) (T := TX12) (N := 24) hx hb hts hin12 hown hK hP 0 rfl rfl 19 (by decide) (hts (.fieldLink RX12 47 "MissedPointsModel" "heldKind" "[I") (by decide +kernel)) (fun _ h9 => h9) rfl dX12_taken_31 ?_
                    refine lv_iload_n hx hb dX12_taken_34 rfl (lv_at hl 1 rfl) ?_
                    refine va_iald hx hb hK hP 1 0 rfl rfl (lz_vp (x := x0) (n := 4) (by have zf1 := mt (lz_lt x0 (0 : Int32)).mpr k1654; have zf2 := mt (lz_lt (3 : Int32) x0).mpr k1656; have zf3 := mt (lz_lt x1 (0 : Int32)).mpr k1660; have zf4 := (lz_lt (5 : Int32) x1).mp k1664; have zf5 := mt (lz_lt x1 (10 : Int32)).mpr k1667; have zf6 := mt (lz_lt (11 : Int32) x1).mpr k1669; have zn0 : (0 : Int32).toInt = 0 := (by decide); have zn1 : (3 : Int32).toInt = 3 := (by decide); have zn2 : (5 : Int32).toInt = 5 := (by decide); have zn3 : (10 : Int32).toInt = 10 := (by decide); have zn4 : (11 : Int32).toInt = 11 := (by decide); omega) (by have zf1 := mt (lz_lt x0 (0 : Int32)).mpr k1654; have zf2 := mt (lz_lt (3 : Int32) x0).mpr k1656; have zf3 := mt (lz_lt x1 (0 : Int32)).mpr k1660; have zf4 := (lz_lt (5 : Int32) x1).mp k1664; have zf5 := mt (lz_lt x1 (10 : Int32)).mpr k1667; have zf6 := mt (lz_lt (11 : Int32) x1).mpr k1669; have zn0 : (0 : Int32).toInt = 0 := (by decide); have zn1 : (3 : Int32).toInt = 3 := (by decide); have zn2 : (5 : Int32).toInt = 5 := (by decide); have zn3 : (10 : Int32).toInt = 10 := (by decide); have zn4 : (11 : Int32).toInt = 11 := (by decide); omega)) dX12_taken_35 ?_
                    refine lz_top (y := (-1)) rfl ?_
                    refine lv_iconst (v := (-1)) hx hb dX12_taken_36 (by decide) ?_
                    refine lv_icmp_ne (tgt := 43) hx hb dX12_taken_37 (by decide) (fun c1672 => ?_) (fun c1672 => ?_)
                    · exact absurd c1672 (by decide)
                    · refine lv_bipush (v := (-11)) hx hb dX12_taken_40 (by decide) ?_
                      exact W.iret (v := (-11)) hx hb hr (fun t ht hW => ⟨_, rfl, by rw [if_neg k1654, if_neg k1656, if_neg k1660, if_pos k1664, if_neg k1667, if_neg k1669], ht⟩) (fun q hq => absurd hq List.not_mem_nil) dX12_taken_42
                  · exact absurd c1671 (by decide)
          · rw [if_neg k1664] at hw
            subst hw
            refine lv_if_ne (tgt := 30) hx hb dX12_taken_13 (by decide) (fun c1673 => ?_) (fun c1673 => ?_)
            · refine lv_aload_n hx hb dX12_taken_30 rfl (lv_at hl 0 rfl) ?_
              refine va_get (D := D) (ci := 12) (v := .ref h12) (C := RX12) (T := TX12) (N := 24) hx hb hts hin12 hown hK hP 0 rfl rfl 19 (by decide) (hts (.fieldLink RX12 47 "MissedPointsModel" "heldKind" "[I") (by decide +kernel)) (fun _ h9 => h9) rfl dX12_taken_31 ?_
              refine lv_iload_n hx hb dX12_taken_34 rfl (lv_at hl 1 rfl) ?_
              refine va_iald hx hb hK hP 1 0 rfl rfl (lz_vp (x := x0) (n := 4) (by have zf1 := mt (lz_lt x0 (0 : Int32)).mpr k1654; have zf2 := mt (lz_lt (3 : Int32) x0).mpr k1656; have zf3 := mt (lz_lt x1 (0 : Int32)).mpr k1660; have zf4 := mt (lz_lt (5 : Int32) x1).mpr k1664; have zn0 : (0 : Int32).toInt = 0 := (by decide); have zn1 : (3 : Int32).toInt = 3 := (by decide); have zn2 : (5 : Int32).toInt = 5 := (by decide); omega) (by have zf1 := mt (lz_lt x0 (0 : Int32)).mpr k1654; have zf2 := mt (lz_lt (3 : Int32) x0).mpr k1656; have zf3 := mt (lz_lt x1 (0 : Int32)).mpr k1660; have zf4 := mt (lz_lt (5 : Int32) x1).mpr k1664; have zn0 : (0 : Int32).toInt = 0 := (by decide); have zn1 : (3 : Int32).toInt = 3 := (by decide); have zn2 : (5 : Int32).toInt = 5 := (by decide); omega)) dX12_taken_35 ?_
              refine lz_top (y := (-1)) rfl ?_
              refine lv_iconst (v := (-1)) hx hb dX12_taken_36 (by decide) ?_
              refine lv_icmp_ne (tgt := 43) hx hb dX12_taken_37 (by decide) (fun c1674 => ?_) (fun c1674 => ?_)
              · exact absurd c1674 (by decide)
              · refine lv_bipush (v := (-11)) hx hb dX12_taken_40 (by decide) ?_
                exact W.iret (v := (-11)) hx hb hr (fun t ht hW => ⟨_, rfl, by rw [if_neg k1654, if_neg k1656, if_neg k1660, if_neg k1664], ht⟩) (fun q hq => absurd hq List.not_mem_nil) dX12_taken_42
            · exact absurd c1673 (by decide)
set_option maxHeartbeats 4000000 in
set_option maxRecDepth 100000 in
theorem c_X12_in_12 (l : Launch) (D : va_G) (cI cS : ClassId) : Met l yX12_in wsX12_in ({ frames := 0, cells := 0, slots := 0, locals := 0 }) (PS D cI cS [] [.int (-1), .int 0, .int 5]) (vp_Si (fun r => r = (0 : Int32))) 0 0 (fun _ => False) := by
  refine Met.ofW (cc := cX12_in) (maxL := 3) (ret := (some .boolean)) (by decide) rfl ?_
  intro p e s m args below meth c s₁ B hml hv
  obtain ⟨rfl, hP, hKK⟩ := hv
  have hx := B.exec
  have hb := B.bytes
  have hr := B.returns
  have hts := atoms_spec (ws := wsX12_in) B.pre
  have hown : s.vm.findClass RX12 = some m.cls := findClass_of_methodNamed B.named
  have hlocks := B.notSynchronized
  have hK := hKK.1
  have hN := hKK.2
  have hl := lv_entry ([.int (-1), .int 0, .int 5]) (n := 3) (Nat.le_of_ble_eq_true rfl)
  rw [lg_entry_eq]
  generalize (lg_sl ([.int (-1), .int 0, .int 5]) ++ List.replicate (3 - (lg_sl ([.int (-1), .int 0, .int 5])).length) Slot.unset).toArray = ls at hl ⊢
  have hl : lv_has ls 3 [(0, .int (-1)), (1, .int 0), (2, .int 5)] := hl
  refine lv_iload_n hx hb dX12_in_0 rfl (lv_at hl 0 rfl) ?_
  refine lv_iload_n hx hb dX12_in_1 rfl (lv_at hl 1 rfl) ?_
  refine lv_icmp_lt (tgt := 14) hx hb dX12_in_2 (by decide) (fun c1689 => ?_) (fun c1689 => ?_)
  · refine lv_iconst (v := 0) hx hb dX12_in_14 (by decide) ?_
    exact W.zret (v := 0) hx hb hr (by decide) (fun t ht hW => ⟨_, rfl, rfl, ht⟩) (fun q hq => absurd hq List.not_mem_nil) dX12_in_15
  · exact absurd c1689 (by decide)
set_option maxHeartbeats 4000000 in
set_option maxRecDepth 100000 in
theorem c_X12_held_0 (l : Launch) (D : va_G) (cI cS : ClassId) (h0 h1 h2 h3 h4 h5 h6 h7 h8 h9 h10 h11 h12 h13 h14 h15 : Nat) (x0 x1 : Int32) : Met l yX12_held wsX12_held ({ frames := 1, cells := 0, slots := 0, locals := 40 }) (PS D cI cS [(h0, .inr (12, [.int 0, .int 1, .ref h1, .ref h2, .ref h3, .ref h4, .ref h5, .ref h6, .ref h7, .ref h8, .int 0, .int 0, .int 0, .int 0, .int 0, .int 0, .ref h9, .ref h10, .ref h11, .ref h12, .ref h13, .ref h14, .ref h15, .int 0])), (h12, .inl (cI, 4, .inl (fun _ => -1)))] [.ref h0, .int x0, .int x1]) (vp_Si (fun r => r = if x0 < 0 then ((-2) : Int32) else (if (5 : Int32) < x0 then ((-2) : Int32) else (if x1 < 0 then ((-2) : Int32) else (if (2 : Int32) < x1 then ((-2) : Int32) else (if x1 = 0 then (0 : Int32) else (if x1 = 1 then (0 : Int32) else ((-1) : Int32)))))))) 0 0 (fun _ => False) := by
  refine Met.ofW (cc := cX12_held) (maxL := 7) (ret := (some .int)) (by decide) rfl ?_
  intro p e s m args below meth c s₁ B hml hv
  obtain ⟨rfl, hP, hKK⟩ := hv
  have hx := B.exec
  have hb := B.bytes
  have hr := B.returns
  have hts := atoms_spec (ws := wsX12_held) B.pre
  have hown : s.vm.findClass RX12 = some m.cls := findClass_of_methodNamed B.named
  have hlocks := B.notSynchronized
  have hK := hKK.1
  have hN := hKK.2
  have hin12 : ∀ w ∈ wsX120, w ∈ wsX12_held := by decide +kernel
  have hl := lv_entry ([.ref h0, .int x0, .int x1]) (n := 7) (Nat.le_of_ble_eq_true rfl)
  rw [lg_entry_eq]
  generalize (lg_sl ([.ref h0, .int x0, .int x1]) ++ List.replicate (7 - (lg_sl ([.ref h0, .int x0, .int x1])).length) Slot.unset).toArray = ls at hl ⊢
  have hl : lv_has ls 7 [(0, .ref h0), (1, .int x0), (2, .int x1)] := hl
  refine lv_iload_n hx hb dX12_held_0 rfl (lv_at hl 1 rfl) ?_
  refine lv_iconst (v := 0) hx hb dX12_held_1 (by decide) ?_
  refine lv_iconst (v := 5) hx hb dX12_held_2 (by decide) ?_
  have hPc := hP.sub (ws' := []) [] rfl
  refine lz_ss (As := [.int x0, .int 0, .int 5]) (rest := []) ⟨hx, hb, hml, hown, hts⟩ (c_X12_in_7 l D cI cS x0) hKK hPc (va_cwS 3 hts gX12_held_X12_in rfl rfl rfl (by decide +kernel) ⟨Nat.le_of_ble_eq_true rfl, Nat.le_of_ble_eq_true rfl⟩) rfl hl.1 rfl (Nat.le_of_ble_eq_true rfl) dX12_held_3 ⟨Nat.le_of_ble_eq_true rfl, Nat.le_of_ble_eq_true rfl⟩ (fun r1704 hw => ?_)
  by_cases k1705 : x0 < 0
  · rw [if_pos k1705] at hw
    subst hw
    refine lv_if_eq (tgt := 18) hx hb dX12_held_6 (by decide) (fun c1706 => ?_) (fun c1706 => ?_)
    · refine lv_bipush (v := (-2)) hx hb dX12_held_18 (by decide) ?_
      exact W.iret (v := (-2)) hx hb hr (fun t ht hW => ⟨_, rfl, by rw [if_pos k1705], ht⟩) (fun q hq => absurd hq List.not_mem_nil) dX12_held_20
    · exact absurd c1706 (by decide)
  · rw [if_neg k1705] at hw
    by_cases k1707 : (5 : Int32) < x0
    · rw [if_pos k1707] at hw
      subst hw
      refine lv_if_eq (tgt := 18) hx hb dX12_held_6 (by decide) (fun c1708 => ?_) (fun c1708 => ?_)
      · refine lv_bipush (v := (-2)) hx hb dX12_held_18 (by decide) ?_
        exact W.iret (v := (-2)) hx hb hr (fun t ht hW => ⟨_, rfl, by rw [if_neg k1705, if_pos k1707], ht⟩) (fun q hq => absurd hq List.not_mem_nil) dX12_held_20
      · exact absurd c1708 (by decide)
    · rw [if_neg k1707] at hw
      subst hw
      refine lv_if_eq (tgt := 18) hx hb dX12_held_6 (by decide) (fun c1709 => ?_) (fun c1709 => ?_)
      · exact absurd c1709 (by decide)
      · refine lv_iload_n hx hb dX12_held_9 rfl (lv_at hl 2 rfl) ?_
        refine lv_iconst (v := 0) hx hb dX12_held_10 (by decide) ?_
        refine lv_iconst (v := 2) hx hb dX12_held_11 (by decide) ?_
        have hPc := hP.sub (ws' := []) [] rfl
        refine lz_ss (As := [.int x1, .int 0, .int 2]) (rest := []) ⟨hx, hb, hml, hown, hts⟩ (c_X12_in_3 l D cI cS x1) hKK hPc (va_cwS 3 hts gX12_held_X12_in rfl rfl rfl (by decide +kernel) ⟨Nat.le_of_ble_eq_true rfl, Nat.le_of_ble_eq_true rfl⟩) rfl hl.1 rfl (Nat.le_of_ble_eq_true rfl) dX12_held_12 ⟨Nat.le_of_ble_eq_true rfl, Nat.le_of_ble_eq_true rfl⟩ (fun r1710 hw => ?_)
        by_cases k1711 : x1 < 0
        · rw [if_pos k1711] at hw
          subst hw
          refine lv_if_ne (tgt := 21) hx hb dX12_held_15 (by decide) (fun c1712 => ?_) (fun c1712 => ?_)
          · exact absurd c1712 (by decide)
          · refine lv_bipush (v := (-2)) hx hb dX12_held_18 (by decide) ?_
            exact W.iret (v := (-2)) hx hb hr (fun t ht hW => ⟨_, rfl, by rw [if_neg k1705, if_neg k1707, if_pos k1711], ht⟩) (fun q hq => absurd hq List.not_mem_nil) dX12_held_20
        · rw [if_neg k1711] at hw
          by_cases k1713 : (2 : Int32) < x1
          · rw [if_pos k1713] at hw
            subst hw
            refine lv_if_ne (tgt := 21) hx hb dX12_held_15 (by decide) (fun c1714 => ?_) (fun c1714 => ?_)
            · exact absurd c1714 (by decide)
            · refine lv_bipush (v := (-2)) hx hb dX12_held_18 (by decide) ?_
              exact W.iret (v := (-2)) hx hb hr (fun t ht hW => ⟨_, rfl, by rw [if_neg k1705, if_neg k1707, if_neg k1711, if_pos k1713], ht⟩) (fun q hq => absurd hq List.not_mem_nil) dX12_held_20
          · rw [if_neg k1713] at hw
            subst hw
            refine lv_if_ne (tgt := 21) hx hb dX12_held_15 (by decide) (fun c1715 => ?_) (fun c1715 => ?_)
            · refine lv_iconst (v := 0) hx hb dX12_held_21 (by decide) ?_
              refine lv_istore_n (lv' := [(3, .int 0), (0, .ref h0), (1, .int x0), (2, .int x1)]) hx hb dX12_held_22 rfl hl (by decide) rfl (fun ls hl => ?_)
              refine lv_iconst (v := 0) hx hb dX12_held_23 (by decide) ?_
              refine lv_istore (lv' := [(4, .int 0), (3, .int 0), (0, .ref h0), (1, .int x0), (2, .int x1)]) hx hb dX12_held_24 hl (by decide) rfl (fun ls hl => ?_)
              refine lv_iconst (v := (-1)) hx hb dX12_held_26 (by decide) ?_
              refine lv_istore (lv' := [(5, .int (-1)), (4, .int 0), (3, .int 0), (0, .ref h0), (1, .int x0), (2, .int x1)]) hx hb dX12_held_27 hl (by decide) rfl (fun ls hl => ?_)
              refine lv_iconst (v := 0) hx hb dX12_held_29 (by decide) ?_
              refine lv_istore (lv' := [(6, .int 0), (5, .int (-1)), (4, .int 0), (3, .int 0), (0, .ref h0), (1, .int x0), (2, .int x1)]) hx hb dX12_held_30 hl (by decide) rfl (fun ls hl => ?_)
              refine lv_iload hx hb dX12_held_32 (lv_at hl 0 rfl) ?_
              refine lv_iconst (v := 4) hx hb dX12_held_34 (by decide) ?_
              refine lv_icmp_ge (tgt := 129) hx hb dX12_held_35 (by decide) (fun c1716 => ?_) (fun c1716 => ?_)
              · exact absurd c1716 (by decide)
              · refine lv_aload_n hx hb dX12_held_38 rfl (lv_at hl 4 rfl) ?_
                refine va_get (D := D) (ci := 12) (v := .ref h12) (C := RX12) (T := TX12) (N := 24) hx hb hts hin12 hown hK hP 0 rfl rfl 19 (by decide) (hts (.fieldLink RX12 47 "MissedPointsModel" "heldKind" "[I") (by decide +kernel)) (fun _ h9 => h9) rfl dX12_held_39 ?_
                refine lv_iload hx hb dX12_held_42 (lv_at hl 0 rfl) ?_
                refine va_iald hx hb hK hP 1 0 rfl rfl (lz_vp (x := 0) (n := 4) (by decide) (by decide)) dX12_held_44 ?_
                refine lz_top (y := (-1)) rfl ?_
                refine lv_iconst (v := 0) hx hb dX12_held_45 (by decide) ?_
                refine lv_iconst (v := 5) hx hb dX12_held_46 (by decide) ?_
                have hPc := hP.sub (ws' := []) [] rfl
                refine lz_ss (As := [.int (-1), .int 0, .int 5]) (rest := []) ⟨hx, hb, hml, hown, hts⟩ (c_X12_in_12 l D cI cS) hKK hPc (va_cwS 3 hts gX12_held_X12_in rfl rfl rfl (by decide +kernel) ⟨Nat.le_of_ble_eq_true rfl, Nat.le_of_ble_eq_true rfl⟩) rfl hl.1 rfl (Nat.le_of_ble_eq_true rfl) dX12_held_47 ⟨Nat.le_of_ble_eq_true rfl, Nat.le_of_ble_eq_true rfl⟩ (fun r1717 hw => ?_)
                subst hw
                refine lv_if_eq (tgt := 123) hx hb dX12_held_50 (by decide) (fun c1718 => ?_) (fun c1718 => ?_)
                · refine lv_iinc (v := 1) (lv' := [(6, .int 1), (5, .int (-1)), (4, .int 0), (3, .int 0), (0, .ref h0), (1, .int x0), (2, .int x1)]) hx hb dX12_held_123 hl (k := 0) rfl (by decide) (by decide) rfl (fun ls hl => ?_)
                  refine lv_goto (tgt := 32) hx hb dX12_held_126 (by decide) ?_
                  refine lv_iload hx hb dX12_held_32 (lv_at hl 0 rfl) ?_
                  refine lv_iconst (v := 4) hx hb dX12_held_34 (by decide) ?_
                  refine lv_icmp_ge (tgt := 129) hx hb dX12_held_35 (by decide) (fun c1719 => ?_) (fun c1719 => ?_)
                  · exact absurd c1719 (by decide)
                  · refine lv_aload_n hx hb dX12_held_38 rfl (lv_at hl 4 rfl) ?_
                    refine va_get (D := D) (ci := 12) (v := .ref h12) (C := RX12) (T := TX12) (N := 24) hx hb hts hin12 hown hK hP 0 rfl rfl 19 (by decide) (hts (.fieldLink RX12 47 "MissedPointsModel" "heldKind" "[I") (by decide +kernel)) (fun _ h9 => h9) rfl dX12_held_39 ?_
                    refine lv_iload hx hb dX12_held_42 (lv_at hl 0 rfl) ?_
                    refine va_iald hx hb hK hP 1 0 rfl rfl (lz_vp (x := 1) (n := 4) (by decide) (by decide)) dX12_held_44 ?_
                    refine lz_top (y := (-1)) rfl ?_
                    refine lv_iconst (v := 0) hx hb dX12_held_45 (by decide) ?_
                    refine lv_iconst (v := 5) hx hb dX12_held_46 (by decide) ?_
                    have hPc := hP.sub (ws' := []) [] rfl
                    refine lz_ss (As := [.int (-1), .int 0, .int 5]) (rest := []) ⟨hx, hb, hml, hown, hts⟩ (c_X12_in_12 l D cI cS) hKK hPc (va_cwS 3 hts gX12_held_X12_in rfl rfl rfl (by decide +kernel) ⟨Nat.le_of_ble_eq_true rfl, Nat.le_of_ble_eq_true rfl⟩) rfl hl.1 rfl (Nat.le_of_ble_eq_true rfl) dX12_held_47 ⟨Nat.le_of_ble_eq_true rfl, Nat.le_of_ble_eq_true rfl⟩ (fun r1720 hw => ?_)
                    subst hw
                    refine lv_if_eq (tgt := 123) hx hb dX12_held_50 (by decide) (fun c1721 => ?_) (fun c1721 => ?_)
                    · refine lv_iinc (v := 2) (lv' := [(6, .int 2), (5, .int (-1)), (4, .int 0), (3, .int 0), (0, .ref h0), (1, .int x0), (2, .int x1)]) hx hb dX12_held_123 hl (k := 0) rfl (by decide) (by decide) rfl (fun ls hl => ?_)
                      refine lv_goto (tgt := 32) hx hb dX12_held_126 (by decide) ?_
                      refine lv_iload hx hb dX12_held_32 (lv_at hl 0 rfl) ?_
                      refine lv_iconst (v := 4) hx hb dX12_held_34 (by decide) ?_
                      refine lv_icmp_ge (tgt := 129) hx hb dX12_held_35 (by decide) (fun c1722 => ?_) (fun c1722 => ?_)
                      · exact absurd c1722 (by decide)
                      · refine lv_aload_n hx hb dX12_held_38 rfl (lv_at hl 4 rfl) ?_
                        refine va_get (D := D) (ci := 12) (v := .ref h12) (C := RX12) (T := TX12) (N := 24) hx hb hts hin12 hown hK hP 0 rfl rfl 19 (by decide) (hts (.fieldLink RX12 47 "MissedPointsModel" "heldKind" "[I") (by decide +kernel)) (fun _ h9 => h9) rfl dX12_held_39 ?_
                        refine lv_iload hx hb dX12_held_42 (lv_at hl 0 rfl) ?_
                        refine va_iald hx hb hK hP 1 0 rfl rfl (lz_vp (x := 2) (n := 4) (by decide) (by decide)) dX12_held_44 ?_
                        refine lz_top (y := (-1)) rfl ?_
                        refine lv_iconst (v := 0) hx hb dX12_held_45 (by decide) ?_
                        refine lv_iconst (v := 5) hx hb dX12_held_46 (by decide) ?_
                        have hPc := hP.sub (ws' := []) [] rfl
                        refine lz_ss (As := [.int (-1), .int 0, .int 5]) (rest := []) ⟨hx, hb, hml, hown, hts⟩ (c_X12_in_12 l D cI cS) hKK hPc (va_cwS 3 hts gX12_held_X12_in rfl rfl rfl (by decide +kernel) ⟨Nat.le_of_ble_eq_true rfl, Nat.le_of_ble_eq_true rfl⟩) rfl hl.1 rfl (Nat.le_of_ble_eq_true rfl) dX12_held_47 ⟨Nat.le_of_ble_eq_true rfl, Nat.le_of_ble_eq_true rfl⟩ (fun r1723 hw => ?_)
                        subst hw
                        refine lv_if_eq (tgt := 123) hx hb dX12_held_50 (by decide) (fun c1724 => ?_) (fun c1724 => ?_)
                        · refine lv_iinc (v := 3) (lv' := [(6, .int 3), (5, .int (-1)), (4, .int 0), (3, .int 0), (0, .ref h0), (1, .int x0), (2, .int x1)]) hx hb dX12_held_123 hl (k := 0) rfl (by decide) (by decide) rfl (fun ls hl => ?_)
                          refine lv_goto (tgt := 32) hx hb dX12_held_126 (by decide) ?_
                          refine lv_iload hx hb dX12_held_32 (lv_at hl 0 rfl) ?_
                          refine lv_iconst (v := 4) hx hb dX12_held_34 (by decide) ?_
                          refine lv_icmp_ge (tgt := 129) hx hb dX12_held_35 (by decide) (fun c1725 => ?_) (fun c1725 => ?_)
                          · exact absurd c1725 (by decide)
                          · refine lv_aload_n hx hb dX12_held_38 rfl (lv_at hl 4 rfl) ?_
                            refine va_get (D := D) (ci := 12) (v := .ref h12) (C := RX12) (T := TX12) (N := 24) hx hb hts hin12 hown hK hP 0 rfl rfl 19 (by decide) (hts (.fieldLink RX12 47 "MissedPointsModel" "heldKind" "[I") (by decide +kernel)) (fun _ h9 => h9) rfl dX12_held_39 ?_
                            refine lv_iload hx hb dX12_held_42 (lv_at hl 0 rfl) ?_
                            refine va_iald hx hb hK hP 1 0 rfl rfl (lz_vp (x := 3) (n := 4) (by decide) (by decide)) dX12_held_44 ?_
                            refine lz_top (y := (-1)) rfl ?_
                            refine lv_iconst (v := 0) hx hb dX12_held_45 (by decide) ?_
                            refine lv_iconst (v := 5) hx hb dX12_held_46 (by decide) ?_
                            have hPc := hP.sub (ws' := []) [] rfl
                            refine lz_ss (As := [.int (-1), .int 0, .int 5]) (rest := []) ⟨hx, hb, hml, hown, hts⟩ (c_X12_in_12 l D cI cS) hKK hPc (va_cwS 3 hts gX12_held_X12_in rfl rfl rfl (by decide +kernel) ⟨Nat.le_of_ble_eq_true rfl, Nat.le_of_ble_eq_true rfl⟩) rfl hl.1 rfl (Nat.le_of_ble_eq_true rfl) dX12_held_47 ⟨Nat.le_of_ble_eq_true rfl, Nat.le_of_ble_eq_true rfl⟩ (fun r1726 hw => ?_)
                            subst hw
                            refine lv_if_eq (tgt := 123) hx hb dX12_held_50 (by decide) (fun c1727 => ?_) (fun c1727 => ?_)
                            · refine lv_iinc (v := 4) (lv' := [(6, .int 4), (5, .int (-1)), (4, .int 0), (3, .int 0), (0, .ref h0), (1, .int x0), (2, .int x1)]) hx hb dX12_held_123 hl (k := 0) rfl (by decide) (by decide) rfl (fun ls hl => ?_)
                              refine lv_goto (tgt := 32) hx hb dX12_held_126 (by decide) ?_
                              refine lv_iload hx hb dX12_held_32 (lv_at hl 0 rfl) ?_
                              refine lv_iconst (v := 4) hx hb dX12_held_34 (by decide) ?_
                              refine lv_icmp_ge (tgt := 129) hx hb dX12_held_35 (by decide) (fun c1728 => ?_) (fun c1728 => ?_)
                              · refine lv_iload_n hx hb dX12_held_129 rfl (lv_at hl 6 rfl) ?_
                                refine lv_if_ne (tgt := 137) hx hb dX12_held_130 (by decide) (fun c1729 => ?_) (fun c1729 => ?_)
                                · refine lv_iload_n hx hb dX12_held_137 rfl (lv_at hl 6 rfl) ?_
                                  refine lv_iconst (v := 1) hx hb dX12_held_138 (by decide) ?_
                                  refine lv_icmp_ne (tgt := 147) hx hb dX12_held_139 (by decide) (fun c1730 => ?_) (fun c1730 => ?_)
                                  · refine lv_iload hx hb dX12_held_147 (lv_at hl 1 rfl) ?_
                                    exact W.iret (v := (-1)) hx hb hr (fun t ht hW => ⟨_, rfl, by rw [if_neg k1705, if_neg k1707, if_neg k1711, if_neg k1713, if_neg c1729, if_neg c1730], ht⟩) (fun q hq => absurd hq List.not_mem_nil) dX12_held_149
                                  · subst c1730
                                    refine lv_iload hx hb dX12_held_142 (lv_at hl 2 rfl) ?_
                                    refine lv_goto (tgt := 149) hx hb dX12_held_144 (by decide) ?_
                                    exact W.iret (v := 0) hx hb hr (fun t ht hW => ⟨_, rfl, by rw [if_neg k1705, if_neg k1707, if_neg k1711, if_neg k1713, if_neg c1729, if_pos rfl], ht⟩) (fun q hq => absurd hq List.not_mem_nil) dX12_held_149
                                · subst c1729
                                  refine lv_iload_n hx hb dX12_held_133 rfl (lv_at hl 3 rfl) ?_
                                  refine lv_goto (tgt := 149) hx hb dX12_held_134 (by decide) ?_
                                  exact W.iret (v := 0) hx hb hr (fun t ht hW => ⟨_, rfl, by rw [if_neg k1705, if_neg k1707, if_neg k1711, if_neg k1713, if_pos rfl], ht⟩) (fun q hq => absurd hq List.not_mem_nil) dX12_held_149
                              · exact absurd c1728 (by decide)
                            · exact absurd c1727 (by decide)
                        · exact absurd c1724 (by decide)
                    · exact absurd c1721 (by decide)
                · exact absurd c1718 (by decide)
            · exact absurd c1715 (by decide)
set_option maxHeartbeats 4000000 in
set_option maxRecDepth 100000 in
theorem c_X12_in_13 (l : Launch) (D : va_G) (cI cS : ClassId) (x0 : Int32) : Met l yX12_in wsX12_in ({ frames := 0, cells := 0, slots := 0, locals := 0 }) (PS D cI cS [] [.int x0, .int (-1), .int 1]) (vp_Si (fun r => r = if x0 < (-1) then (0 : Int32) else (if (1 : Int32) < x0 then (0 : Int32) else (1 : Int32)))) 0 0 (fun _ => False) := by
  refine Met.ofW (cc := cX12_in) (maxL := 3) (ret := (some .boolean)) (by decide) rfl ?_
  intro p e s m args below meth c s₁ B hml hv
  obtain ⟨rfl, hP, hKK⟩ := hv
  have hx := B.exec
  have hb := B.bytes
  have hr := B.returns
  have hts := atoms_spec (ws := wsX12_in) B.pre
  have hown : s.vm.findClass RX12 = some m.cls := findClass_of_methodNamed B.named
  have hlocks := B.notSynchronized
  have hK := hKK.1
  have hN := hKK.2
  have hl := lv_entry ([.int x0, .int (-1), .int 1]) (n := 3) (Nat.le_of_ble_eq_true rfl)
  rw [lg_entry_eq]
  generalize (lg_sl ([.int x0, .int (-1), .int 1]) ++ List.replicate (3 - (lg_sl ([.int x0, .int (-1), .int 1])).length) Slot.unset).toArray = ls at hl ⊢
  have hl : lv_has ls 3 [(0, .int x0), (1, .int (-1)), (2, .int 1)] := hl
  refine lv_iload_n hx hb dX12_in_0 rfl (lv_at hl 0 rfl) ?_
  refine lv_iload_n hx hb dX12_in_1 rfl (lv_at hl 1 rfl) ?_
  refine lv_icmp_lt (tgt := 14) hx hb dX12_in_2 (by decide) (fun c1739 => ?_) (fun c1739 => ?_)
  · refine lv_iconst (v := 0) hx hb dX12_in_14 (by decide) ?_
    exact W.zret (v := 0) hx hb hr (by decide) (fun t ht hW => ⟨_, rfl, by rw [if_pos c1739], ht⟩) (fun q hq => absurd hq List.not_mem_nil) dX12_in_15
  · refine lv_iload_n hx hb dX12_in_5 rfl (lv_at hl 0 rfl) ?_
    refine lv_iload_n hx hb dX12_in_6 rfl (lv_at hl 2 rfl) ?_
    refine lv_icmp_gt (tgt := 14) hx hb dX12_in_7 (by decide) (fun c1740 => ?_) (fun c1740 => ?_)
    · refine lv_iconst (v := 0) hx hb dX12_in_14 (by decide) ?_
      exact W.zret (v := 0) hx hb hr (by decide) (fun t ht hW => ⟨_, rfl, by rw [if_neg c1739, if_pos c1740], ht⟩) (fun q hq => absurd hq List.not_mem_nil) dX12_in_15
    · refine lv_iconst (v := 1) hx hb dX12_in_10 (by decide) ?_
      refine lv_goto (tgt := 15) hx hb dX12_in_11 (by decide) ?_
      exact W.zret (v := 1) hx hb hr (by decide) (fun t ht hW => ⟨_, rfl, by rw [if_neg c1739, if_neg c1740], ht⟩) (fun q hq => absurd hq List.not_mem_nil) dX12_in_15
