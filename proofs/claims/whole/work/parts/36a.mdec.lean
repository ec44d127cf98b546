set_option maxRecDepth 20000 in
theorem ggX9_meanLost_X6_totalOf : GoodIn wsX9_meanLost wsX6_totalOf := goodIn_r _ [8, 9, 10, 11, 12, 13, 14, 15, 16, 17, 18, 19, 20, 21, 22, 23, 24, 25, 26, 27, 28, 29, 30, 31, 42, 43, 44, 45, 46, 47, 48, 49, 50, 51, 52, 53, 54, 55, 56, 57, 58] rfl (by decide +kernel)
set_option maxRecDepth 20000 in
theorem gX9_meanLost_X6_totalOf : GoodIn wsX9_meanLost (wsV RX9 369 RX6 yX6_totalOf wsX6_totalOf) := goodIn_app (goodIn_of _ (by decide +kernel)) ggX9_meanLost_X6_totalOf
theorem dX9_meanLost_0 : decode cX9_meanLost 0 = .ok (.aload_n 0, 1) := by decide +kernel
theorem dX9_meanLost_1 : decode cX9_meanLost 1 = .ok (.getfield 10, 3) := by decide +kernel
theorem dX9_meanLost_4 : decode cX9_meanLost 4 = .ok (.getfield 263, 3) := by decide +kernel
theorem dX9_meanLost_7 : decode cX9_meanLost 7 = .ok (.ifCond .ne 14, 3) := by decide +kernel
theorem dX9_meanLost_10 : decode cX9_meanLost 10 = .ok (.new 364, 3) := by decide +kernel
theorem dX9_meanLost_13 : decode cX9_meanLost 13 = .ok (.dup, 1) := by decide +kernel
theorem dX9_meanLost_14 : decode cX9_meanLost 14 = .ok (.ldc_w 366, 3) := by decide +kernel
theorem dX9_meanLost_17 : decode cX9_meanLost 17 = .ok (.invokespecial 368, 3) := by decide +kernel
theorem dX9_meanLost_20 : decode cX9_meanLost 20 = .ok (.athrow, 1) := by decide +kernel
theorem dX9_meanLost_21 : decode cX9_meanLost 21 = .ok (.aload_n 0, 1) := by decide +kernel
theorem dX9_meanLost_22 : decode cX9_meanLost 22 = .ok (.getfield 10, 3) := by decide +kernel
theorem dX9_meanLost_25 : decode cX9_meanLost 25 = .ok (.iconst 4, 1) := by decide +kernel
theorem dX9_meanLost_26 : decode cX9_meanLost 26 = .ok (.invokevirtual 369, 3) := by decide +kernel
theorem dX9_meanLost_29 : decode cX9_meanLost 29 = .ok (.i2d, 1) := by decide +kernel
theorem dX9_meanLost_30 : decode cX9_meanLost 30 = .ok (.aload_n 0, 1) := by decide +kernel
theorem dX9_meanLost_31 : decode cX9_meanLost 31 = .ok (.getfield 10, 3) := by decide +kernel
theorem dX9_meanLost_34 : decode cX9_meanLost 34 = .ok (.getfield 263, 3) := by decide +kernel
theorem dX9_meanLost_37 : decode cX9_meanLost 37 = .ok (.i2d, 1) := by decide +kernel
theorem dX9_meanLost_38 : decode cX9_meanLost 38 = .ok (.ddiv, 1) := by decide +kernel
theorem dX9_meanLost_39 : decode cX9_meanLost 39 = .ok (.dreturn, 1) := by decide +kernel
set_option maxRecDepth 20000 in
theorem ggX9_gapShare_X4_gaps : GoodIn wsX9_gapShare wsX4_gaps := goodIn_ca (goodIn_r _ [7, 8, 9, 10, 6, 11, 12, 13, 14, 15, 16, 36] rfl (by decide +kernel)) (goodIn_sub (fun _ h => List.mem_cons_of_mem _ (List.mem_append_right _ h)) (by decide +kernel))
set_option maxRecDepth 20000 in
theorem gX9_gapShare_X4_gaps : GoodIn wsX9_gapShare (wsV RX9 372 RX4 yX4_gaps wsX4_gaps) := goodIn_app (goodIn_of _ (by decide +kernel)) ggX9_gapShare_X4_gaps
theorem dX9_gapShare_0 : decode cX9_gapShare 0 = .ok (.aload_n 0, 1) := by decide +kernel
theorem dX9_gapShare_1 : decode cX9_gapShare 1 = .ok (.getfield 10, 3) := by decide +kernel
theorem dX9_gapShare_4 : decode cX9_gapShare 4 = .ok (.getfield 42, 3) := by decide +kernel
theorem dX9_gapShare_7 : decode cX9_gapShare 7 = .ok (.invokevirtual 372, 3) := by decide +kernel
theorem dX9_gapShare_10 : decode cX9_gapShare 10 = .ok (.i2f, 1) := by decide +kernel
theorem dX9_gapShare_11 : decode cX9_gapShare 11 = .ok (.ldc_w 375, 3) := by decide +kernel
theorem dX9_gapShare_14 : decode cX9_gapShare 14 = .ok (.fdiv, 1) := by decide +kernel
theorem dX9_gapShare_15 : decode cX9_gapShare 15 = .ok (.freturn, 1) := by decide +kernel
set_option maxRecDepth 20000 in
theorem ggX10_meanLost_X10_throwing : GoodIn wsX10_meanLost wsX10_throwing := goodIn_r _ [7, 1, 19, 20, 21, 22, 23, 24, 25, 26, 27, 28, 29, 30, 31, 32, 33, 34, 35, 36, 37, 38, 39] rfl (by decide +kernel)
set_option maxRecDepth 20000 in
theorem gX10_meanLost_X10_throwing : GoodIn wsX10_meanLost (wsV RX10 50 RX10 yX10_throwing wsX10_throwing) := goodIn_app (goodIn_of _ (by decide +kernel)) ggX10_meanLost_X10_throwing
set_option maxRecDepth 20000 in
theorem ggX10_meanLost_X10_lostOf : GoodIn wsX10_meanLost wsX10_lostOf := goodIn_ca (goodIn_r _ [11, 2, 12, 13, 14, 15, 16, 17, 6, 18, 19, 20, 21, 22, 23, 24, 25, 26, 27, 28, 29, 30, 31, 32, 33, 34, 35, 36, 37, 38, 39] rfl (by decide +kernel)) (goodIn_sub (fun _ h => List.mem_cons_of_mem _ (List.mem_append_right _ h)) (by decide +kernel))
set_option maxRecDepth 20000 in
theorem gX10_meanLost_X10_lostOf : GoodIn wsX10_meanLost (wsV RX10 162 RX10 yX10_lostOf wsX10_lostOf) := goodIn_app (goodIn_of _ (by decide +kernel)) ggX10_meanLost_X10_lostOf
theorem dX10_meanLost_0 : decode cX10_meanLost 0 = .ok (.aload_n 0, 1) := by decide +kernel
theorem dX10_meanLost_1 : decode cX10_meanLost 1 = .ok (.iconst 0, 1) := by decide +kernel
theorem dX10_meanLost_2 : decode cX10_meanLost 2 = .ok (.putfield 38, 3) := by decide +kernel
theorem dX10_meanLost_5 : decode cX10_meanLost 5 = .ok (.aload_n 0, 1) := by decide +kernel
theorem dX10_meanLost_6 : decode cX10_meanLost 6 = .ok (.getfield 9, 3) := by decide +kernel
theorem dX10_meanLost_9 : decode cX10_meanLost 9 = .ok (.iconst 1, 1) := by decide +kernel
theorem dX10_meanLost_10 : decode cX10_meanLost 10 = .ok (.iaload, 1) := by decide +kernel
theorem dX10_meanLost_11 : decode cX10_meanLost 11 = .ok (.ifCond .ne 11, 3) := by decide +kernel
theorem dX10_meanLost_14 : decode cX10_meanLost 14 = .ok (.aload_n 0, 1) := by decide +kernel
theorem dX10_meanLost_15 : decode cX10_meanLost 15 = .ok (.iconst 1, 1) := by decide +kernel
theorem dX10_meanLost_16 : decode cX10_meanLost 16 = .ok (.invokevirtual 50, 3) := by decide +kernel
theorem dX10_meanLost_19 : decode cX10_meanLost 19 = .ok (.pop, 1) := by decide +kernel
theorem dX10_meanLost_20 : decode cX10_meanLost 20 = .ok (.dconst 0, 1) := by decide +kernel
theorem dX10_meanLost_21 : decode cX10_meanLost 21 = .ok (.dreturn, 1) := by decide +kernel
theorem dX10_meanLost_22 : decode cX10_meanLost 22 = .ok (.iconst 0, 1) := by decide +kernel
theorem dX10_meanLost_23 : decode cX10_meanLost 23 = .ok (.istore_n 1, 1) := by decide +kernel
theorem dX10_meanLost_24 : decode cX10_meanLost 24 = .ok (.iconst 0, 1) := by decide +kernel
theorem dX10_meanLost_25 : decode cX10_meanLost 25 = .ok (.istore_n 2, 1) := by decide +kernel
theorem dX10_meanLost_26 : decode cX10_meanLost 26 = .ok (.iload_n 2, 1) := by decide +kernel
theorem dX10_meanLost_27 : decode cX10_meanLost 27 = .ok (.aload_n 0, 1) := by decide +kernel
theorem dX10_meanLost_28 : decode cX10_meanLost 28 = .ok (.getfield 9, 3) := by decide +kernel
theorem dX10_meanLost_31 : decode cX10_meanLost 31 = .ok (.iconst 1, 1) := by decide +kernel
theorem dX10_meanLost_32 : decode cX10_meanLost 32 = .ok (.iaload, 1) := by decide +kernel
theorem dX10_meanLost_33 : decode cX10_meanLost 33 = .ok (.if_icmp .ge 17, 3) := by decide +kernel
theorem dX10_meanLost_36 : decode cX10_meanLost 36 = .ok (.iload_n 1, 1) := by decide +kernel
theorem dX10_meanLost_37 : decode cX10_meanLost 37 = .ok (.aload_n 0, 1) := by decide +kernel
theorem dX10_meanLost_38 : decode cX10_meanLost 38 = .ok (.iload_n 2, 1) := by decide +kernel
theorem dX10_meanLost_39 : decode cX10_meanLost 39 = .ok (.invokevirtual 162, 3) := by decide +kernel
theorem dX10_meanLost_42 : decode cX10_meanLost 42 = .ok (.iadd, 1) := by decide +kernel
theorem dX10_meanLost_43 : decode cX10_meanLost 43 = .ok (.istore_n 1, 1) := by decide +kernel
theorem dX10_meanLost_44 : decode cX10_meanLost 44 = .ok (.iinc 2 1, 3) := by decide +kernel
theorem dX10_meanLost_47 : decode cX10_meanLost 47 = .ok (.goto (-21), 3) := by decide +kernel
theorem dX10_meanLost_50 : decode cX10_meanLost 50 = .ok (.iload_n 1, 1) := by decide +kernel
theorem dX10_meanLost_51 : decode cX10_meanLost 51 = .ok (.i2d, 1) := by decide +kernel
theorem dX10_meanLost_52 : decode cX10_meanLost 52 = .ok (.aload_n 0, 1) := by decide +kernel
theorem dX10_meanLost_53 : decode cX10_meanLost 53 = .ok (.getfield 9, 3) := by decide +kernel
theorem dX10_meanLost_56 : decode cX10_meanLost 56 = .ok (.iconst 1, 1) := by decide +kernel
theorem dX10_meanLost_57 : decode cX10_meanLost 57 = .ok (.iaload, 1) := by decide +kernel
theorem dX10_meanLost_58 : decode cX10_meanLost 58 = .ok (.i2d, 1) := by decide +kernel
theorem dX10_meanLost_59 : decode cX10_meanLost 59 = .ok (.ddiv, 1) := by decide +kernel
theorem dX10_meanLost_60 : decode cX10_meanLost 60 = .ok (.dreturn, 1) := by decide +kernel
set_option maxRecDepth 20000 in
theorem ggX10_gapShare_X10_gaps : GoodIn wsX10_gapShare wsX10_gaps := goodIn_ca (goodIn_r _ [7, 8, 9, 10, 6, 11, 12, 13, 14, 15, 16, 17, 18, 19, 20, 21, 22, 23, 24, 25, 26, 27, 28, 29, 30, 31, 32, 33] rfl (by decide +kernel)) (goodIn_sub (fun _ h => List.mem_cons_of_mem _ (List.mem_append_right _ h)) (by decide +kernel))
set_option maxRecDepth 20000 in
theorem gX10_gapShare_X10_gaps : GoodIn wsX10_gapShare (wsV RX10 110 RX10 yX10_gaps wsX10_gaps) := goodIn_app (goodIn_of _ (by decide +kernel)) ggX10_gapShare_X10_gaps
theorem dX10_gapShare_0 : decode cX10_gapShare 0 = .ok (.aload_n 0, 1) := by decide +kernel
theorem dX10_gapShare_1 : decode cX10_gapShare 1 = .ok (.iconst 0, 1) := by decide +kernel
theorem dX10_gapShare_2 : decode cX10_gapShare 2 = .ok (.putfield 38, 3) := by decide +kernel
theorem dX10_gapShare_5 : decode cX10_gapShare 5 = .ok (.aload_n 0, 1) := by decide +kernel
theorem dX10_gapShare_6 : decode cX10_gapShare 6 = .ok (.invokevirtual 110, 3) := by decide +kernel
theorem dX10_gapShare_9 : decode cX10_gapShare 9 = .ok (.i2f, 1) := by decide +kernel
theorem dX10_gapShare_10 : decode cX10_gapShare 10 = .ok (.ldc 255, 2) := by decide +kernel
theorem dX10_gapShare_12 : decode cX10_gapShare 12 = .ok (.fdiv, 1) := by decide +kernel
theorem dX10_gapShare_13 : decode cX10_gapShare 13 = .ok (.freturn, 1) := by decide +kernel
