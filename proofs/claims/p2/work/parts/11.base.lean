set_option maxRecDepth 20000 in
theorem ggX3_notice_X1_forget : GoodIn wsX3_notice wsX1_forget := goodIn_r _ [9, 10, 11, 19, 20] (by decide +kernel) (by decide +kernel)
set_option maxRecDepth 20000 in
theorem gX3_notice_X1_forget : GoodIn wsX3_notice (wsV RX3 36 RX1 yX1_forget wsX1_forget) := goodIn_app (goodIn_of _ (by decide +kernel)) ggX3_notice_X1_forget
theorem dX3_notice_14 : decode cX3_notice 14 = .ok (.aload_n 0, 1) := by decide +kernel
theorem dX3_notice_15 : decode cX3_notice 15 = .ok (.aload_n 0, 1) := by decide +kernel
theorem dX3_notice_16 : decode cX3_notice 16 = .ok (.getfield 23, 3) := by decide +kernel
theorem dX3_notice_19 : decode cX3_notice 19 = .ok (.getfield 31, 3) := by decide +kernel
theorem dX3_notice_22 : decode cX3_notice 22 = .ok (.putfield 27, 3) := by decide +kernel
theorem dX3_notice_25 : decode cX3_notice 25 = .ok (.aload_n 0, 1) := by decide +kernel
theorem dX3_notice_26 : decode cX3_notice 26 = .ok (.getfield 14, 3) := by decide +kernel
theorem dX3_notice_29 : decode cX3_notice 29 = .ok (.invokevirtual 36, 3) := by decide +kernel
theorem dX3_notice_32 : decode cX3_notice 32 = .ok (.aload_n 0, 1) := by decide +kernel
theorem dX3_notice_33 : decode cX3_notice 33 = .ok (.getfield 20, 3) := by decide +kernel
theorem dX3_notice_36 : decode cX3_notice 36 = .ok (.invokevirtual 36, 3) := by decide +kernel
