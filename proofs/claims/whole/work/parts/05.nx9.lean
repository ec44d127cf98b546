theorem dX9_init_0 : decode cX9_init 0 = .ok (.aload_n 0, 1) := by decide +kernel
theorem dX9_init_1 : decode cX9_init 1 = .ok (.invokespecial 1, 3) := by decide +kernel
theorem dX9_init_4 : decode cX9_init 4 = .ok (.aload_n 0, 1) := by decide +kernel
theorem dX9_init_5 : decode cX9_init 5 = .ok (.new 7, 3) := by decide +kernel
theorem dX9_init_8 : decode cX9_init 8 = .ok (.dup, 1) := by decide +kernel
theorem dX9_init_9 : decode cX9_init 9 = .ok (.invokespecial 9, 3) := by decide +kernel
theorem dX9_init_12 : decode cX9_init 12 = .ok (.putfield 10, 3) := by decide +kernel
theorem dX9_init_15 : decode cX9_init 15 = .ok (.aload_n 0, 1) := by decide +kernel
theorem dX9_init_16 : decode cX9_init 16 = .ok (.new 7, 3) := by decide +kernel
theorem dX9_init_19 : decode cX9_init 19 = .ok (.dup, 1) := by decide +kernel
theorem dX9_init_20 : decode cX9_init 20 = .ok (.invokespecial 9, 3) := by decide +kernel
theorem dX9_init_23 : decode cX9_init 23 = .ok (.putfield 16, 3) := by decide +kernel
theorem dX9_init_26 : decode cX9_init 26 = .ok (.aload_n 0, 1) := by decide +kernel
theorem dX9_init_27 : decode cX9_init 27 = .ok (.new 7, 3) := by decide +kernel
theorem dX9_init_30 : decode cX9_init 30 = .ok (.dup, 1) := by decide +kernel
theorem dX9_init_31 : decode cX9_init 31 = .ok (.invokespecial 9, 3) := by decide +kernel
theorem dX9_init_34 : decode cX9_init 34 = .ok (.putfield 19, 3) := by decide +kernel
theorem dX9_init_37 : decode cX9_init 37 = .ok (.aload_n 0, 1) := by decide +kernel
theorem dX9_init_38 : decode cX9_init 38 = .ok (.iconst 0, 1) := by decide +kernel
theorem dX9_init_39 : decode cX9_init 39 = .ok (.putfield 22, 3) := by decide +kernel
theorem dX9_init_42 : decode cX9_init 42 = .ok (.aload_n 0, 1) := by decide +kernel
theorem dX9_init_43 : decode cX9_init 43 = .ok (.new 26, 3) := by decide +kernel
theorem dX9_init_46 : decode cX9_init 46 = .ok (.dup, 1) := by decide +kernel
theorem dX9_init_47 : decode cX9_init 47 = .ok (.invokespecial 28, 3) := by decide +kernel
theorem dX9_init_50 : decode cX9_init 50 = .ok (.putfield 29, 3) := by decide +kernel
theorem dX9_init_53 : decode cX9_init 53 = .ok (.aload_n 0, 1) := by decide +kernel
theorem dX9_init_54 : decode cX9_init 54 = .ok (.new 33, 3) := by decide +kernel
theorem dX9_init_57 : decode cX9_init 57 = .ok (.dup, 1) := by decide +kernel
theorem dX9_init_58 : decode cX9_init 58 = .ok (.invokespecial 35, 3) := by decide +kernel
theorem dX9_init_61 : decode cX9_init 61 = .ok (.putfield 36, 3) := by decide +kernel
theorem dX9_init_64 : decode cX9_init 64 = .ok (.aload_n 0, 1) := by decide +kernel
theorem dX9_init_65 : decode cX9_init 65 = .ok (.new 40, 3) := by decide +kernel
theorem dX9_init_68 : decode cX9_init 68 = .ok (.dup, 1) := by decide +kernel
theorem dX9_init_69 : decode cX9_init 69 = .ok (.aload_n 0, 1) := by decide +kernel
theorem dX9_init_70 : decode cX9_init 70 = .ok (.getfield 10, 3) := by decide +kernel
theorem dX9_init_73 : decode cX9_init 73 = .ok (.getfield 42, 3) := by decide +kernel
theorem dX9_init_76 : decode cX9_init 76 = .ok (.invokespecial 46, 3) := by decide +kernel
theorem dX9_init_79 : decode cX9_init 79 = .ok (.putfield 49, 3) := by decide +kernel
theorem dX9_init_82 : decode cX9_init 82 = .ok (.aload_n 0, 1) := by decide +kernel
theorem dX9_init_83 : decode cX9_init 83 = .ok (.new 53, 3) := by decide +kernel
theorem dX9_init_86 : decode cX9_init 86 = .ok (.dup, 1) := by decide +kernel
theorem dX9_init_87 : decode cX9_init 87 = .ok (.aload_n 0, 1) := by decide +kernel
theorem dX9_init_88 : decode cX9_init 88 = .ok (.getfield 10, 3) := by decide +kernel
theorem dX9_init_91 : decode cX9_init 91 = .ok (.aload_n 0, 1) := by decide +kernel
theorem dX9_init_92 : decode cX9_init 92 = .ok (.getfield 49, 3) := by decide +kernel
theorem dX9_init_95 : decode cX9_init 95 = .ok (.aload_n 0, 1) := by decide +kernel
theorem dX9_init_96 : decode cX9_init 96 = .ok (.getfield 36, 3) := by decide +kernel
theorem dX9_init_99 : decode cX9_init 99 = .ok (.invokespecial 55, 3) := by decide +kernel
theorem dX9_init_102 : decode cX9_init 102 = .ok (.putfield 58, 3) := by decide +kernel
theorem dX9_init_105 : decode cX9_init 105 = .ok (.aload_n 0, 1) := by decide +kernel
theorem dX9_init_106 : decode cX9_init 106 = .ok (.new 62, 3) := by decide +kernel
theorem dX9_init_109 : decode cX9_init 109 = .ok (.dup, 1) := by decide +kernel
theorem dX9_init_110 : decode cX9_init 110 = .ok (.invokespecial 64, 3) := by decide +kernel
theorem dX9_init_113 : decode cX9_init 113 = .ok (.putfield 65, 3) := by decide +kernel
theorem dX9_init_116 : decode cX9_init 116 = .ok (.aload_n 0, 1) := by decide +kernel
theorem dX9_init_117 : decode cX9_init 117 = .ok (.new 69, 3) := by decide +kernel
theorem dX9_init_120 : decode cX9_init 120 = .ok (.dup, 1) := by decide +kernel
theorem dX9_init_121 : decode cX9_init 121 = .ok (.invokespecial 71, 3) := by decide +kernel
theorem dX9_init_124 : decode cX9_init 124 = .ok (.putfield 72, 3) := by decide +kernel
theorem dX9_init_127 : decode cX9_init 127 = .ok (.return_, 1) := by decide +kernel
set_option maxRecDepth 20000 in
theorem ggX9_hedge_X6_copyFrom : GoodIn wsX9_hedge wsX6_copyFrom := goodIn_r _ [8, 9, 10, 11, 12, 13, 14, 15, 16, 17, 18, 19, 20, 21, 22, 23, 24, 25, 26, 27, 28, 29, 30, 31, 32, 33, 34, 35, 36, 37, 38, 39, 40, 41, 42, 43, 44, 45, 46, 47, 48, 49, 121, 122, 123, 124, 125, 126, 127, 128, 129, 130, 131, 132, 133, 134, 135, 136, 137, 138, 139, 140, 141, 142] (by decide +kernel) (by decide +kernel)
set_option maxRecDepth 20000 in
theorem gX9_hedge_X6_copyFrom : GoodIn wsX9_hedge (wsV RX9 76 RX6 yX6_copyFrom wsX6_copyFrom) := goodIn_app (goodIn_of _ (by decide +kernel)) ggX9_hedge_X6_copyFrom
set_option maxRecDepth 20000 in
theorem ggX9_hedge_X3_tellLeaves : GoodIn wsX9_hedge wsX3_tellLeaves := goodIn_ca (goodIn_r _ [54, 55, 56, 57, 58, 59, 60, 61, 62, 63, 64, 65, 66, 67, 53, 68, 69, 70, 71, 72, 73, 74, 21, 75, 76, 77, 78, 79, 80, 81, 82, 83, 84, 85, 86, 87, 88, 23, 89, 90, 91, 92, 143, 144, 145, 121, 122, 123, 124, 125, 126, 127, 128, 129, 146, 147, 148, 130] (by decide +kernel) (by decide +kernel)) (goodIn_sub (fun _ h => List.mem_cons_of_mem _ (List.mem_append_left _ (List.mem_append_right _ h))) (by decide +kernel))
set_option maxRecDepth 20000 in
theorem gX9_hedge_X3_tellLeaves : GoodIn wsX9_hedge (wsV RX9 80 RX3 yX3_tellLeaves wsX3_tellLeaves) := goodIn_app (goodIn_of _ (by decide +kernel)) ggX9_hedge_X3_tellLeaves
set_option maxRecDepth 20000 in
theorem ggX9_hedge_X9_settled : GoodIn wsX9_hedge wsX9_settled := goodIn_ca (goodIn_r _ [97, 98, 99, 100, 1, 101, 102, 103, 104, 105, 106, 107, 108, 109, 80, 71, 81, 110, 5, 6, 7, 8, 9, 10, 11, 12, 13, 14, 15, 16, 17, 18, 19, 20, 21, 22, 23, 24, 25, 26, 27, 28, 29, 30, 31, 32, 33, 34, 35, 36, 37, 38, 39, 40, 41, 42, 43, 44, 45, 46, 47, 48, 49, 111, 112, 113, 114, 115, 116, 117, 118, 119, 120, 149, 150, 151, 121, 122, 123, 124, 125, 126, 127, 128, 129, 130, 131, 132, 133, 134, 135, 136, 137, 138, 139, 140, 141, 142] (by decide +kernel) (by decide +kernel)) (goodIn_sub (fun _ h => List.mem_cons_of_mem _ (List.mem_append_right _ h)) (by decide +kernel))
set_option maxRecDepth 20000 in
theorem gX9_hedge_X9_settled : GoodIn wsX9_hedge (wsV RX9 84 RX9 yX9_settled wsX9_settled) := goodIn_app (goodIn_of _ (by decide +kernel)) ggX9_hedge_X9_settled
theorem dX9_hedge_0 : decode cX9_hedge 0 = .ok (.aload_n 0, 1) := by decide +kernel
theorem dX9_hedge_1 : decode cX9_hedge 1 = .ok (.getfield 16, 3) := by decide +kernel
theorem dX9_hedge_4 : decode cX9_hedge 4 = .ok (.aload_n 0, 1) := by decide +kernel
theorem dX9_hedge_5 : decode cX9_hedge 5 = .ok (.getfield 10, 3) := by decide +kernel
theorem dX9_hedge_8 : decode cX9_hedge 8 = .ok (.invokevirtual 76, 3) := by decide +kernel
theorem dX9_hedge_11 : decode cX9_hedge 11 = .ok (.aload_n 0, 1) := by decide +kernel
theorem dX9_hedge_12 : decode cX9_hedge 12 = .ok (.aload_n 0, 1) := by decide +kernel
theorem dX9_hedge_13 : decode cX9_hedge 13 = .ok (.getfield 58, 3) := by decide +kernel
theorem dX9_hedge_16 : decode cX9_hedge 16 = .ok (.iload_n 1, 1) := by decide +kernel
theorem dX9_hedge_17 : decode cX9_hedge 17 = .ok (.iload_n 2, 1) := by decide +kernel
theorem dX9_hedge_18 : decode cX9_hedge 18 = .ok (.iload_n 3, 1) := by decide +kernel
theorem dX9_hedge_19 : decode cX9_hedge 19 = .ok (.invokevirtual 80, 3) := by decide +kernel
theorem dX9_hedge_22 : decode cX9_hedge 22 = .ok (.invokevirtual 84, 3) := by decide +kernel
theorem dX9_hedge_25 : decode cX9_hedge 25 = .ok (.ireturn, 1) := by decide +kernel
set_option maxRecDepth 20000 in
theorem ggX9_summer_X6_copyFrom : GoodIn wsX9_summer wsX6_copyFrom := goodIn_r _ [8, 9, 10, 11, 12, 13, 14, 15, 16, 17, 18, 19, 20, 21, 22, 23, 24, 25, 26, 27, 28, 29, 30, 31, 32, 33, 34, 35, 36, 37, 38, 39, 40, 41, 42, 43, 44, 45, 46, 47, 48, 49, 104, 105, 106, 107, 108, 109, 110, 111, 112, 113, 114, 115, 116, 117, 118, 119, 120, 121, 122, 123, 124, 125] (by decide +kernel) (by decide +kernel)
set_option maxRecDepth 20000 in
theorem gX9_summer_X6_copyFrom : GoodIn wsX9_summer (wsV RX9 76 RX6 yX6_copyFrom wsX6_copyFrom) := goodIn_app (goodIn_of _ (by decide +kernel)) ggX9_summer_X6_copyFrom
set_option maxRecDepth 20000 in
theorem ggX9_summer_X3_passSummer : GoodIn wsX9_summer wsX3_passSummer := goodIn_ca (goodIn_r _ [54, 55, 56, 57, 58, 21, 59, 60, 61, 62, 63, 64, 65, 66, 67, 23, 68, 69, 70, 71, 72, 73, 74, 75, 126, 127, 128, 104, 105, 106, 107, 108, 109, 110, 111, 112, 113] (by decide +kernel) (by decide +kernel)) (goodIn_sub (fun _ h => List.mem_cons_of_mem _ (List.mem_append_left _ (List.mem_append_right _ h))) (by decide +kernel))
set_option maxRecDepth 20000 in
theorem gX9_summer_X3_passSummer : GoodIn wsX9_summer (wsV RX9 88 RX3 yX3_passSummer wsX3_passSummer) := goodIn_app (goodIn_of _ (by decide +kernel)) ggX9_summer_X3_passSummer
set_option maxRecDepth 20000 in
theorem ggX9_summer_X9_settled : GoodIn wsX9_summer wsX9_settled := goodIn_ca (goodIn_r _ [80, 81, 82, 83, 1, 84, 85, 86, 87, 88, 89, 90, 91, 92, 73, 74, 75, 93, 5, 6, 7, 8, 9, 10, 11, 12, 13, 14, 15, 16, 17, 18, 19, 20, 21, 22, 23, 24, 25, 26, 27, 28, 29, 30, 31, 32, 33, 34, 35, 36, 37, 38, 39, 40, 41, 42, 43, 44, 45, 46, 47, 48, 49, 94, 95, 96, 97, 98, 99, 100, 101, 102, 103, 129, 130, 131, 104, 105, 106, 107, 108, 109, 110, 111, 112, 113, 114, 115, 116, 117, 118, 119, 120, 121, 122, 123, 124, 125] (by decide +kernel) (by decide +kernel)) (goodIn_sub (fun _ h => List.mem_cons_of_mem _ (List.mem_append_right _ h)) (by decide +kernel))
set_option maxRecDepth 20000 in
theorem gX9_summer_X9_settled : GoodIn wsX9_summer (wsV RX9 84 RX9 yX9_settled wsX9_settled) := goodIn_app (goodIn_of _ (by decide +kernel)) ggX9_summer_X9_settled
theorem dX9_summer_0 : decode cX9_summer 0 = .ok (.aload_n 0, 1) := by decide +kernel
theorem dX9_summer_1 : decode cX9_summer 1 = .ok (.getfield 16, 3) := by decide +kernel
theorem dX9_summer_4 : decode cX9_summer 4 = .ok (.aload_n 0, 1) := by decide +kernel
theorem dX9_summer_5 : decode cX9_summer 5 = .ok (.getfield 10, 3) := by decide +kernel
theorem dX9_summer_8 : decode cX9_summer 8 = .ok (.invokevirtual 76, 3) := by decide +kernel
theorem dX9_summer_11 : decode cX9_summer 11 = .ok (.aload_n 0, 1) := by decide +kernel
theorem dX9_summer_12 : decode cX9_summer 12 = .ok (.aload_n 0, 1) := by decide +kernel
theorem dX9_summer_13 : decode cX9_summer 13 = .ok (.getfield 58, 3) := by decide +kernel
theorem dX9_summer_16 : decode cX9_summer 16 = .ok (.invokevirtual 88, 3) := by decide +kernel
theorem dX9_summer_19 : decode cX9_summer 19 = .ok (.invokevirtual 84, 3) := by decide +kernel
theorem dX9_summer_22 : decode cX9_summer 22 = .ok (.ireturn, 1) := by decide +kernel
set_option maxRecDepth 20000 in
theorem ggX9_trim_X6_copyFrom : GoodIn wsX9_trim wsX6_copyFrom := goodIn_r _ [8, 9, 10, 11, 12, 13, 14, 15, 16, 17, 18, 19, 20, 21, 22, 23, 24, 25, 26, 27, 28, 29, 30, 31, 32, 33, 34, 35, 36, 37, 38, 39, 40, 41, 42, 43, 44, 45, 46, 47, 48, 49, 125, 126, 127, 128, 129, 130, 131, 132, 133, 134, 135, 136, 137, 138, 139, 140, 141, 142, 143, 144, 145, 146] (by decide +kernel) (by decide +kernel)
set_option maxRecDepth 20000 in
theorem gX9_trim_X6_copyFrom : GoodIn wsX9_trim (wsV RX9 76 RX6 yX6_copyFrom wsX6_copyFrom) := goodIn_app (goodIn_of _ (by decide +kernel)) ggX9_trim_X6_copyFrom
set_option maxRecDepth 20000 in
theorem ggX9_trim_X3_trimHedge : GoodIn wsX9_trim wsX3_trimHedge := goodIn_ca (goodIn_r _ [54, 55, 56, 57, 58, 59, 7, 60, 12, 10, 61, 62, 63, 64, 65, 66, 67, 68, 69, 70, 71, 53, 72, 73, 74, 75, 76, 77, 78, 21, 79, 80, 81, 82, 83, 84, 85, 86, 87, 88, 89, 90, 91, 92, 23, 93, 94, 95, 96, 147, 148, 149, 125, 126, 127, 128, 129, 130, 131, 132, 133, 135, 136, 137, 138, 150, 151, 152, 134] (by decide +kernel) (by decide +kernel)) (goodIn_sub (fun _ h => List.mem_cons_of_mem _ (List.mem_append_left _ (List.mem_append_right _ h))) (by decide +kernel))
set_option maxRecDepth 20000 in
theorem gX9_trim_X3_trimHedge : GoodIn wsX9_trim (wsV RX9 92 RX3 yX3_trimHedge wsX3_trimHedge) := goodIn_app (goodIn_of _ (by decide +kernel)) ggX9_trim_X3_trimHedge
set_option maxRecDepth 20000 in
theorem ggX9_trim_X9_settled : GoodIn wsX9_trim wsX9_settled := goodIn_ca (goodIn_r _ [101, 102, 103, 104, 1, 105, 106, 107, 108, 109, 110, 111, 112, 113, 84, 75, 85, 114, 5, 6, 7, 8, 9, 10, 11, 12, 13, 14, 15, 16, 17, 18, 19, 20, 21, 22, 23, 24, 25, 26, 27, 28, 29, 30, 31, 32, 33, 34, 35, 36, 37, 38, 39, 40, 41, 42, 43, 44, 45, 46, 47, 48, 49, 115, 116, 117, 118, 119, 120, 121, 122, 123, 124, 153, 154, 155, 125, 126, 127, 128, 129, 130, 131, 132, 133, 134, 135, 136, 137, 138, 139, 140, 141, 142, 143, 144, 145, 146] (by decide +kernel) (by decide +kernel)) (goodIn_sub (fun _ h => List.mem_cons_of_mem _ (List.mem_append_right _ h)) (by decide +kernel))
set_option maxRecDepth 20000 in
theorem gX9_trim_X9_settled : GoodIn wsX9_trim (wsV RX9 84 RX9 yX9_settled wsX9_settled) := goodIn_app (goodIn_of _ (by decide +kernel)) ggX9_trim_X9_settled
theorem dX9_trim_0 : decode cX9_trim 0 = .ok (.aload_n 0, 1) := by decide +kernel
theorem dX9_trim_1 : decode cX9_trim 1 = .ok (.getfield 16, 3) := by decide +kernel
theorem dX9_trim_4 : decode cX9_trim 4 = .ok (.aload_n 0, 1) := by decide +kernel
theorem dX9_trim_5 : decode cX9_trim 5 = .ok (.getfield 10, 3) := by decide +kernel
theorem dX9_trim_8 : decode cX9_trim 8 = .ok (.invokevirtual 76, 3) := by decide +kernel
theorem dX9_trim_11 : decode cX9_trim 11 = .ok (.aload_n 0, 1) := by decide +kernel
theorem dX9_trim_12 : decode cX9_trim 12 = .ok (.aload_n 0, 1) := by decide +kernel
theorem dX9_trim_13 : decode cX9_trim 13 = .ok (.getfield 58, 3) := by decide +kernel
theorem dX9_trim_16 : decode cX9_trim 16 = .ok (.iload_n 1, 1) := by decide +kernel
theorem dX9_trim_17 : decode cX9_trim 17 = .ok (.iload_n 2, 1) := by decide +kernel
theorem dX9_trim_18 : decode cX9_trim 18 = .ok (.iload_n 3, 1) := by decide +kernel
theorem dX9_trim_19 : decode cX9_trim 19 = .ok (.invokevirtual 92, 3) := by decide +kernel
theorem dX9_trim_22 : decode cX9_trim 22 = .ok (.invokevirtual 84, 3) := by decide +kernel
theorem dX9_trim_25 : decode cX9_trim 25 = .ok (.ireturn, 1) := by decide +kernel
set_option maxRecDepth 20000 in
theorem ggX9_minotaur_X6_copyFrom : GoodIn wsX9_minotaur wsX6_copyFrom := goodIn_r _ [8, 9, 10, 11, 12, 13, 14, 15, 16, 17, 18, 19, 20, 21, 22, 23, 24, 25, 26, 27, 28, 29, 30, 31, 32, 33, 34, 35, 36, 37, 38, 39, 40, 41, 42, 43, 44, 45, 46, 47, 48, 49, 120, 121, 122, 123, 124, 125, 126, 127, 128, 129, 130, 131, 132, 133, 134, 135, 136, 137, 138, 139, 140, 141] (by decide +kernel) (by decide +kernel)
set_option maxRecDepth 20000 in
theorem gX9_minotaur_X6_copyFrom : GoodIn wsX9_minotaur (wsV RX9 76 RX6 yX6_copyFrom wsX6_copyFrom) := goodIn_app (goodIn_of _ (by decide +kernel)) ggX9_minotaur_X6_copyFrom
set_option maxRecDepth 20000 in
theorem ggX9_minotaur_X3_placeMinotaur : GoodIn wsX9_minotaur wsX3_placeMinotaur := goodIn_r _ [54, 55, 56, 57, 58, 21, 59, 60, 61, 62, 63, 64, 65, 66, 67, 68, 69, 70, 53, 71, 72, 73, 74, 40, 75, 49, 43, 76, 77, 78, 79, 48, 80, 81, 82, 83, 46, 84, 85, 86, 7, 87, 13, 11, 88, 142, 143, 144, 120, 121, 122, 123, 124, 125, 126, 127, 128, 145, 146, 147, 134, 135, 136, 137, 138, 139, 140, 141] (by decide +kernel) (by decide +kernel)
set_option maxRecDepth 20000 in
theorem gX9_minotaur_X3_placeMinotaur : GoodIn wsX9_minotaur (wsV RX9 95 RX3 yX3_placeMinotaur wsX3_placeMinotaur) := goodIn_app (goodIn_of _ (by decide +kernel)) ggX9_minotaur_X3_placeMinotaur
set_option maxRecDepth 20000 in
theorem ggX9_minotaur_X9_settled : GoodIn wsX9_minotaur wsX9_settled := goodIn_ca (goodIn_r _ [93, 94, 95, 96, 1, 97, 98, 99, 100, 101, 102, 103, 104, 105, 106, 107, 108, 109, 5, 6, 7, 8, 9, 10, 11, 12, 13, 14, 15, 16, 17, 18, 19, 20, 21, 22, 23, 24, 25, 26, 27, 28, 29, 30, 31, 32, 33, 34, 35, 36, 37, 38, 39, 40, 41, 42, 43, 44, 45, 46, 47, 48, 49, 110, 111, 112, 113, 114, 115, 116, 117, 118, 119, 148, 149, 150, 120, 121, 122, 123, 124, 125, 126, 127, 128, 129, 130, 131, 132, 133, 134, 135, 136, 137, 138, 139, 140, 141] (by decide +kernel) (by decide +kernel)) (goodIn_sub (fun _ h => List.mem_cons_of_mem _ (List.mem_append_right _ h)) (by decide +kernel))
set_option maxRecDepth 20000 in
theorem gX9_minotaur_X9_settled : GoodIn wsX9_minotaur (wsV RX9 84 RX9 yX9_settled wsX9_settled) := goodIn_app (goodIn_of _ (by decide +kernel)) ggX9_minotaur_X9_settled
theorem dX9_minotaur_0 : decode cX9_minotaur 0 = .ok (.aload_n 0, 1) := by decide +kernel
theorem dX9_minotaur_1 : decode cX9_minotaur 1 = .ok (.getfield 16, 3) := by decide +kernel
theorem dX9_minotaur_4 : decode cX9_minotaur 4 = .ok (.aload_n 0, 1) := by decide +kernel
theorem dX9_minotaur_5 : decode cX9_minotaur 5 = .ok (.getfield 10, 3) := by decide +kernel
theorem dX9_minotaur_8 : decode cX9_minotaur 8 = .ok (.invokevirtual 76, 3) := by decide +kernel
theorem dX9_minotaur_11 : decode cX9_minotaur 11 = .ok (.aload_n 0, 1) := by decide +kernel
theorem dX9_minotaur_12 : decode cX9_minotaur 12 = .ok (.aload_n 0, 1) := by decide +kernel
theorem dX9_minotaur_13 : decode cX9_minotaur 13 = .ok (.getfield 58, 3) := by decide +kernel
theorem dX9_minotaur_16 : decode cX9_minotaur 16 = .ok (.iload_n 1, 1) := by decide +kernel
theorem dX9_minotaur_17 : decode cX9_minotaur 17 = .ok (.invokevirtual 95, 3) := by decide +kernel
theorem dX9_minotaur_20 : decode cX9_minotaur 20 = .ok (.invokevirtual 84, 3) := by decide +kernel
theorem dX9_minotaur_23 : decode cX9_minotaur 23 = .ok (.ireturn, 1) := by decide +kernel
set_option maxRecDepth 20000 in
theorem ggX9_gardener_X6_copyFrom : GoodIn wsX9_gardener wsX6_copyFrom := goodIn_r _ [8, 9, 10, 11, 12, 13, 14, 15, 16, 17, 18, 19, 20, 21, 22, 23, 24, 25, 26, 27, 28, 29, 30, 31, 32, 33, 34, 35, 36, 37, 38, 39, 40, 41, 42, 43, 44, 45, 46, 47, 48, 49, 100, 101, 102, 103, 104, 105, 106, 107, 108, 109, 110, 111, 112, 113, 114, 115, 116, 117, 118, 119, 120, 121] (by decide +kernel) (by decide +kernel)
set_option maxRecDepth 20000 in
theorem gX9_gardener_X6_copyFrom : GoodIn wsX9_gardener (wsV RX9 76 RX6 yX6_copyFrom wsX6_copyFrom) := goodIn_app (goodIn_of _ (by decide +kernel)) ggX9_gardener_X6_copyFrom
set_option maxRecDepth 20000 in
theorem ggX9_gardener_X3_admitGardener : GoodIn wsX9_gardener wsX3_admitGardener := goodIn_r _ [54, 55, 56, 57, 58, 59, 60, 61, 62, 63, 64, 65, 66, 67, 31, 68, 33, 34, 35, 36, 122, 123, 124, 100, 101, 102, 103, 104, 105, 106, 107, 108, 125, 126, 127, 110, 111, 112, 113] (by decide +kernel) (by decide +kernel)
set_option maxRecDepth 20000 in
theorem gX9_gardener_X3_admitGardener : GoodIn wsX9_gardener (wsV RX9 98 RX3 yX3_admitGardener wsX3_admitGardener) := goodIn_app (goodIn_of _ (by decide +kernel)) ggX9_gardener_X3_admitGardener
set_option maxRecDepth 20000 in
theorem ggX9_gardener_X9_settled : GoodIn wsX9_gardener wsX9_settled := goodIn_ca (goodIn_r _ [73, 74, 75, 76, 1, 77, 78, 79, 80, 81, 82, 83, 84, 85, 86, 87, 88, 89, 5, 6, 7, 8, 9, 10, 11, 12, 13, 14, 15, 16, 17, 18, 19, 20, 21, 22, 23, 24, 25, 26, 27, 28, 29, 30, 31, 32, 33, 34, 35, 36, 37, 38, 39, 40, 41, 42, 43, 44, 45, 46, 47, 48, 49, 90, 91, 92, 93, 94, 95, 96, 97, 98, 99, 128, 129, 130, 100, 101, 102, 103, 104, 105, 106, 107, 108, 109, 110, 111, 112, 113, 114, 115, 116, 117, 118, 119, 120, 121] (by decide +kernel) (by decide +kernel)) (goodIn_sub (fun _ h => List.mem_cons_of_mem _ (List.mem_append_right _ h)) (by decide +kernel))
set_option maxRecDepth 20000 in
theorem gX9_gardener_X9_settled : GoodIn wsX9_gardener (wsV RX9 84 RX9 yX9_settled wsX9_settled) := goodIn_app (goodIn_of _ (by decide +kernel)) ggX9_gardener_X9_settled
theorem dX9_gardener_0 : decode cX9_gardener 0 = .ok (.aload_n 0, 1) := by decide +kernel
theorem dX9_gardener_1 : decode cX9_gardener 1 = .ok (.getfield 16, 3) := by decide +kernel
theorem dX9_gardener_4 : decode cX9_gardener 4 = .ok (.aload_n 0, 1) := by decide +kernel
theorem dX9_gardener_5 : decode cX9_gardener 5 = .ok (.getfield 10, 3) := by decide +kernel
theorem dX9_gardener_8 : decode cX9_gardener 8 = .ok (.invokevirtual 76, 3) := by decide +kernel
theorem dX9_gardener_11 : decode cX9_gardener 11 = .ok (.aload_n 0, 1) := by decide +kernel
theorem dX9_gardener_12 : decode cX9_gardener 12 = .ok (.aload_n 0, 1) := by decide +kernel
theorem dX9_gardener_13 : decode cX9_gardener 13 = .ok (.getfield 58, 3) := by decide +kernel
theorem dX9_gardener_16 : decode cX9_gardener 16 = .ok (.iload_n 1, 1) := by decide +kernel
theorem dX9_gardener_17 : decode cX9_gardener 17 = .ok (.invokevirtual 98, 3) := by decide +kernel
theorem dX9_gardener_20 : decode cX9_gardener 20 = .ok (.invokevirtual 84, 3) := by decide +kernel
theorem dX9_gardener_23 : decode cX9_gardener 23 = .ok (.ireturn, 1) := by decide +kernel
set_option maxRecDepth 20000 in
theorem ggX9_visitor_X6_copyFrom : GoodIn wsX9_visitor wsX6_copyFrom := goodIn_r _ [8, 9, 10, 11, 12, 13, 14, 15, 16, 17, 18, 19, 20, 21, 22, 23, 24, 25, 26, 27, 28, 29, 30, 31, 32, 33, 34, 35, 36, 37, 38, 39, 40, 41, 42, 43, 44, 45, 46, 47, 48, 49, 164, 165, 166, 167, 168, 169, 170, 171, 172, 173, 174, 175, 176, 177, 178, 179, 180, 181, 182, 183, 184, 185] (by decide +kernel) (by decide +kernel)
set_option maxRecDepth 20000 in
theorem gX9_visitor_X6_copyFrom : GoodIn wsX9_visitor (wsV RX9 76 RX6 yX6_copyFrom wsX6_copyFrom) := goodIn_app (goodIn_of _ (by decide +kernel)) ggX9_visitor_X6_copyFrom
set_option maxRecDepth 20000 in
theorem ggX9_visitor_X3_admitVisitor : GoodIn wsX9_visitor wsX3_admitVisitor := goodIn_ca (goodIn_r _ [54, 55, 56, 57, 58, 59, 60, 61, 62, 63, 64, 65, 66, 67, 68, 69, 70, 71, 72, 73, 74, 75, 76, 77, 78, 79, 80, 81, 82, 83, 84, 85, 86, 87, 21, 88, 89, 90, 91, 92, 93, 94, 95, 96, 97, 98, 99, 100, 101, 23, 102, 103, 104, 105, 106, 107, 108, 109, 110, 111, 112, 113, 114, 115, 116, 117, 118, 119, 120, 121, 122, 123, 124, 125, 126, 127, 40, 128, 42, 43, 44, 45, 49, 129, 130, 131, 132, 46, 47, 48, 186, 187, 188, 164, 165, 166, 167, 168, 169, 170, 171, 172, 189, 190, 191, 192, 193, 194, 173, 178, 179, 180, 181, 182, 183, 184, 185] (by decide +kernel) (by decide +kernel)) (goodIn_sub (fun _ h => List.mem_cons_of_mem _ (List.mem_append_left _ (List.mem_append_right _ h))) (by decide +kernel))
set_option maxRecDepth 20000 in
theorem gX9_visitor_X3_admitVisitor : GoodIn wsX9_visitor (wsV RX9 101 RX3 yX3_admitVisitor wsX3_admitVisitor) := goodIn_app (goodIn_of _ (by decide +kernel)) ggX9_visitor_X3_admitVisitor
set_option maxRecDepth 20000 in
theorem ggX9_visitor_X9_settled : GoodIn wsX9_visitor wsX9_settled := goodIn_ca (goodIn_r _ [137, 138, 139, 140, 1, 141, 142, 143, 144, 145, 146, 147, 148, 149, 150, 151, 152, 153, 5, 6, 7, 8, 9, 10, 11, 12, 13, 14, 15, 16, 17, 18, 19, 20, 21, 22, 23, 24, 25, 26, 27, 28, 29, 30, 31, 32, 33, 34, 35, 36, 37, 38, 39, 40, 41, 42, 43, 44, 45, 46, 47, 48, 49, 154, 155, 156, 157, 158, 159, 160, 161, 162, 163, 195, 196, 197, 164, 165, 166, 167, 168, 169, 170, 171, 172, 173, 174, 175, 176, 177, 178, 179, 180, 181, 182, 183, 184, 185] (by decide +kernel) (by decide +kernel)) (goodIn_sub (fun _ h => List.mem_cons_of_mem _ (List.mem_append_right _ h)) (by decide +kernel))
set_option maxRecDepth 20000 in
theorem gX9_visitor_X9_settled : GoodIn wsX9_visitor (wsV RX9 84 RX9 yX9_settled wsX9_settled) := goodIn_app (goodIn_of _ (by decide +kernel)) ggX9_visitor_X9_settled
theorem dX9_visitor_0 : decode cX9_visitor 0 = .ok (.aload_n 0, 1) := by decide +kernel
theorem dX9_visitor_1 : decode cX9_visitor 1 = .ok (.getfield 16, 3) := by decide +kernel
theorem dX9_visitor_4 : decode cX9_visitor 4 = .ok (.aload_n 0, 1) := by decide +kernel
theorem dX9_visitor_5 : decode cX9_visitor 5 = .ok (.getfield 10, 3) := by decide +kernel
theorem dX9_visitor_8 : decode cX9_visitor 8 = .ok (.invokevirtual 76, 3) := by decide +kernel
theorem dX9_visitor_11 : decode cX9_visitor 11 = .ok (.aload_n 0, 1) := by decide +kernel
theorem dX9_visitor_12 : decode cX9_visitor 12 = .ok (.aload_n 0, 1) := by decide +kernel
theorem dX9_visitor_13 : decode cX9_visitor 13 = .ok (.getfield 58, 3) := by decide +kernel
theorem dX9_visitor_16 : decode cX9_visitor 16 = .ok (.iload_n 1, 1) := by decide +kernel
theorem dX9_visitor_17 : decode cX9_visitor 17 = .ok (.invokevirtual 101, 3) := by decide +kernel
theorem dX9_visitor_20 : decode cX9_visitor 20 = .ok (.invokevirtual 84, 3) := by decide +kernel
theorem dX9_visitor_23 : decode cX9_visitor 23 = .ok (.ireturn, 1) := by decide +kernel
set_option maxRecDepth 20000 in
theorem ggX9_bond_X6_copyFrom : GoodIn wsX9_bond wsX6_copyFrom := goodIn_r _ [8, 9, 10, 11, 12, 13, 14, 15, 16, 17, 18, 19, 20, 21, 22, 23, 24, 25, 26, 27, 28, 29, 30, 31, 32, 33, 34, 35, 36, 37, 38, 39, 40, 41, 42, 43, 44, 45, 46, 47, 48, 49, 116, 117, 118, 119, 120, 121, 122, 123, 124, 125, 126, 127, 128, 129, 130, 131, 132, 133, 134, 135, 136, 137] (by decide +kernel) (by decide +kernel)
set_option maxRecDepth 20000 in
theorem gX9_bond_X6_copyFrom : GoodIn wsX9_bond (wsV RX9 76 RX6 yX6_copyFrom wsX6_copyFrom) := goodIn_app (goodIn_of _ (by decide +kernel)) ggX9_bond_X6_copyFrom
set_option maxRecDepth 20000 in
theorem ggX9_bond_X3_giveBond : GoodIn wsX9_bond wsX3_giveBond := goodIn_r _ [54, 55, 56, 57, 58, 59, 7, 60, 12, 10, 61, 62, 63, 64, 65, 66, 67, 68, 69, 70, 71, 72, 13, 11, 73, 74, 75, 40, 76, 46, 77, 78, 79, 80, 49, 43, 81, 82, 83, 84, 47, 48, 138, 139, 140, 116, 117, 118, 119, 120, 121, 122, 123, 124, 130, 131, 132, 133, 134, 135, 136, 137, 126, 127, 128, 129, 141, 142, 143] (by decide +kernel) (by decide +kernel)
set_option maxRecDepth 20000 in
theorem gX9_bond_X3_giveBond : GoodIn wsX9_bond (wsV RX9 104 RX3 yX3_giveBond wsX3_giveBond) := goodIn_app (goodIn_of _ (by decide +kernel)) ggX9_bond_X3_giveBond
set_option maxRecDepth 20000 in
theorem ggX9_bond_X9_settled : GoodIn wsX9_bond wsX9_settled := goodIn_ca (goodIn_r _ [89, 90, 91, 92, 1, 93, 94, 95, 96, 97, 98, 99, 100, 101, 102, 103, 104, 105, 5, 6, 7, 8, 9, 10, 11, 12, 13, 14, 15, 16, 17, 18, 19, 20, 21, 22, 23, 24, 25, 26, 27, 28, 29, 30, 31, 32, 33, 34, 35, 36, 37, 38, 39, 40, 41, 42, 43, 44, 45, 46, 47, 48, 49, 106, 107, 108, 109, 110, 111, 112, 113, 114, 115, 144, 145, 146, 116, 117, 118, 119, 120, 121, 122, 123, 124, 125, 126, 127, 128, 129, 130, 131, 132, 133, 134, 135, 136, 137] (by decide +kernel) (by decide +kernel)) (goodIn_sub (fun _ h => List.mem_cons_of_mem _ (List.mem_append_right _ h)) (by decide +kernel))
set_option maxRecDepth 20000 in
theorem gX9_bond_X9_settled : GoodIn wsX9_bond (wsV RX9 84 RX9 yX9_settled wsX9_settled) := goodIn_app (goodIn_of _ (by decide +kernel)) ggX9_bond_X9_settled
theorem dX9_bond_0 : decode cX9_bond 0 = .ok (.aload_n 0, 1) := by decide +kernel
theorem dX9_bond_1 : decode cX9_bond 1 = .ok (.getfield 16, 3) := by decide +kernel
theorem dX9_bond_4 : decode cX9_bond 4 = .ok (.aload_n 0, 1) := by decide +kernel
theorem dX9_bond_5 : decode cX9_bond 5 = .ok (.getfield 10, 3) := by decide +kernel
theorem dX9_bond_8 : decode cX9_bond 8 = .ok (.invokevirtual 76, 3) := by decide +kernel
theorem dX9_bond_11 : decode cX9_bond 11 = .ok (.aload_n 0, 1) := by decide +kernel
theorem dX9_bond_12 : decode cX9_bond 12 = .ok (.aload_n 0, 1) := by decide +kernel
theorem dX9_bond_13 : decode cX9_bond 13 = .ok (.getfield 58, 3) := by decide +kernel
theorem dX9_bond_16 : decode cX9_bond 16 = .ok (.iload_n 1, 1) := by decide +kernel
theorem dX9_bond_17 : decode cX9_bond 17 = .ok (.iload_n 2, 1) := by decide +kernel
theorem dX9_bond_18 : decode cX9_bond 18 = .ok (.iload_n 3, 1) := by decide +kernel
theorem dX9_bond_19 : decode cX9_bond 19 = .ok (.invokevirtual 104, 3) := by decide +kernel
theorem dX9_bond_22 : decode cX9_bond 22 = .ok (.invokevirtual 84, 3) := by decide +kernel
theorem dX9_bond_25 : decode cX9_bond 25 = .ok (.ireturn, 1) := by decide +kernel
set_option maxRecDepth 20000 in
theorem ggX9_walk_X6_copyFrom : GoodIn wsX9_walk wsX6_copyFrom := goodIn_r _ [8, 9, 10, 11, 12, 13, 14, 15, 16, 17, 18, 19, 20, 21, 22, 23, 24, 25, 26, 27, 28, 29, 30, 31, 32, 33, 34, 35, 36, 37, 38, 39, 40, 41, 42, 43, 44, 45, 46, 47, 48, 49, 159, 160, 161, 162, 163, 164, 165, 166, 167, 168, 169, 170, 171, 172, 173, 174, 175, 176, 177, 178, 179, 180] (by decide +kernel) (by decide +kernel)
set_option maxRecDepth 20000 in
theorem gX9_walk_X6_copyFrom : GoodIn wsX9_walk (wsV RX9 76 RX6 yX6_copyFrom wsX6_copyFrom) := goodIn_app (goodIn_of _ (by decide +kernel)) ggX9_walk_X6_copyFrom
set_option maxRecDepth 20000 in
theorem ggX9_walk_X3_moveVisitor : GoodIn wsX9_walk wsX3_moveVisitor := goodIn_ca (goodIn_r _ [54, 55, 56, 57, 58, 59, 7, 60, 13, 11, 61, 62, 63, 64, 65, 66, 67, 68, 69, 70, 21, 71, 72, 73, 74, 75, 76, 77, 78, 79, 80, 81, 82, 83, 84, 85, 86, 87, 88, 89, 90, 91, 23, 92, 93, 94, 95, 53, 96, 97, 98, 99, 40, 100, 49, 43, 101, 102, 103, 104, 48, 105, 106, 107, 108, 46, 109, 110, 111, 112, 113, 114, 115, 116, 117, 12, 10, 118, 119, 120, 121, 47, 122, 123, 124, 125, 44, 45, 126, 127, 128, 129, 130, 181, 182, 183, 159, 160, 161, 162, 163, 164, 165, 166, 167, 173, 174, 175, 176, 177, 178, 179, 180, 184, 185, 186, 168, 169, 170, 171, 172] (by decide +kernel) (by decide +kernel)) (goodIn_sub (fun _ h => List.mem_cons_of_mem _ (List.mem_append_left _ (List.mem_append_right _ h))) (by decide +kernel))
set_option maxRecDepth 20000 in
theorem gX9_walk_X3_moveVisitor : GoodIn wsX9_walk (wsV RX9 107 RX3 yX3_moveVisitor wsX3_moveVisitor) := goodIn_app (goodIn_of _ (by decide +kernel)) ggX9_walk_X3_moveVisitor
set_option maxRecDepth 20000 in
theorem ggX9_walk_X9_settled : GoodIn wsX9_walk wsX9_settled := goodIn_ca (goodIn_r _ [135, 136, 137, 138, 1, 139, 140, 141, 142, 143, 144, 145, 146, 147, 76, 77, 78, 148, 5, 6, 7, 8, 9, 10, 11, 12, 13, 14, 15, 16, 17, 18, 19, 20, 21, 22, 23, 24, 25, 26, 27, 28, 29, 30, 31, 32, 33, 34, 35, 36, 37, 38, 39, 40, 41, 42, 43, 44, 45, 46, 47, 48, 49, 149, 150, 151, 152, 153, 154, 155, 156, 157, 158, 187, 188, 189, 159, 160, 161, 162, 163, 164, 165, 166, 167, 168, 169, 170, 171, 172, 173, 174, 175, 176, 177, 178, 179, 180] (by decide +kernel) (by decide +kernel)) (goodIn_sub (fun _ h => List.mem_cons_of_mem _ (List.mem_append_right _ h)) (by decide +kernel))
set_option maxRecDepth 20000 in
theorem gX9_walk_X9_settled : GoodIn wsX9_walk (wsV RX9 84 RX9 yX9_settled wsX9_settled) := goodIn_app (goodIn_of _ (by decide +kernel)) ggX9_walk_X9_settled
theorem dX9_walk_0 : decode cX9_walk 0 = .ok (.aload_n 0, 1) := by decide +kernel
theorem dX9_walk_1 : decode cX9_walk 1 = .ok (.getfield 16, 3) := by decide +kernel
theorem dX9_walk_4 : decode cX9_walk 4 = .ok (.aload_n 0, 1) := by decide +kernel
theorem dX9_walk_5 : decode cX9_walk 5 = .ok (.getfield 10, 3) := by decide +kernel
theorem dX9_walk_8 : decode cX9_walk 8 = .ok (.invokevirtual 76, 3) := by decide +kernel
theorem dX9_walk_11 : decode cX9_walk 11 = .ok (.aload_n 0, 1) := by decide +kernel
theorem dX9_walk_12 : decode cX9_walk 12 = .ok (.aload_n 0, 1) := by decide +kernel
theorem dX9_walk_13 : decode cX9_walk 13 = .ok (.getfield 58, 3) := by decide +kernel
theorem dX9_walk_16 : decode cX9_walk 16 = .ok (.iload_n 1, 1) := by decide +kernel
theorem dX9_walk_17 : decode cX9_walk 17 = .ok (.iload_n 2, 1) := by decide +kernel
theorem dX9_walk_18 : decode cX9_walk 18 = .ok (.invokevirtual 107, 3) := by decide +kernel
theorem dX9_walk_21 : decode cX9_walk 21 = .ok (.invokevirtual 84, 3) := by decide +kernel
theorem dX9_walk_24 : decode cX9_walk 24 = .ok (.ireturn, 1) := by decide +kernel
set_option maxRecDepth 20000 in
theorem ggX9_rest_X6_copyFrom : GoodIn wsX9_rest wsX6_copyFrom := goodIn_r _ [8, 9, 10, 11, 12, 13, 14, 15, 16, 17, 18, 19, 20, 21, 22, 23, 24, 25, 26, 27, 28, 29, 30, 31, 32, 33, 34, 35, 36, 37, 38, 39, 40, 41, 42, 43, 44, 45, 46, 47, 48, 49, 100, 101, 102, 103, 104, 105, 106, 107, 108, 109, 110, 111, 112, 113, 114, 115, 116, 117, 118, 119, 120, 121] (by decide +kernel) (by decide +kernel)
set_option maxRecDepth 20000 in
theorem gX9_rest_X6_copyFrom : GoodIn wsX9_rest (wsV RX9 76 RX6 yX6_copyFrom wsX6_copyFrom) := goodIn_app (goodIn_of _ (by decide +kernel)) ggX9_rest_X6_copyFrom
set_option maxRecDepth 20000 in
theorem ggX9_rest_X3_restVisitor : GoodIn wsX9_rest wsX3_restVisitor := goodIn_r _ [54, 55, 56, 57, 58, 59, 7, 60, 13, 11, 61, 62, 63, 64, 65, 66, 67, 68, 122, 123, 124, 100, 101, 102, 103, 104, 105, 106, 107, 108, 114, 115, 116, 117, 118, 119, 120, 121, 125, 126, 127] (by decide +kernel) (by decide +kernel)
set_option maxRecDepth 20000 in
theorem gX9_rest_X3_restVisitor : GoodIn wsX9_rest (wsV RX9 111 RX3 yX3_restVisitor wsX3_restVisitor) := goodIn_app (goodIn_of _ (by decide +kernel)) ggX9_rest_X3_restVisitor
set_option maxRecDepth 20000 in
theorem ggX9_rest_X9_settled : GoodIn wsX9_rest wsX9_settled := goodIn_ca (goodIn_r _ [73, 74, 75, 76, 1, 77, 78, 79, 80, 81, 82, 83, 84, 85, 86, 87, 88, 89, 5, 6, 7, 8, 9, 10, 11, 12, 13, 14, 15, 16, 17, 18, 19, 20, 21, 22, 23, 24, 25, 26, 27, 28, 29, 30, 31, 32, 33, 34, 35, 36, 37, 38, 39, 40, 41, 42, 43, 44, 45, 46, 47, 48, 49, 90, 91, 92, 93, 94, 95, 96, 97, 98, 99, 128, 129, 130, 100, 101, 102, 103, 104, 105, 106, 107, 108, 109, 110, 111, 112, 113, 114, 115, 116, 117, 118, 119, 120, 121] (by decide +kernel) (by decide +kernel)) (goodIn_sub (fun _ h => List.mem_cons_of_mem _ (List.mem_append_right _ h)) (by decide +kernel))
set_option maxRecDepth 20000 in
theorem gX9_rest_X9_settled : GoodIn wsX9_rest (wsV RX9 84 RX9 yX9_settled wsX9_settled) := goodIn_app (goodIn_of _ (by decide +kernel)) ggX9_rest_X9_settled
theorem dX9_rest_0 : decode cX9_rest 0 = .ok (.aload_n 0, 1) := by decide +kernel
theorem dX9_rest_1 : decode cX9_rest 1 = .ok (.getfield 16, 3) := by decide +kernel
theorem dX9_rest_4 : decode cX9_rest 4 = .ok (.aload_n 0, 1) := by decide +kernel
theorem dX9_rest_5 : decode cX9_rest 5 = .ok (.getfield 10, 3) := by decide +kernel
theorem dX9_rest_8 : decode cX9_rest 8 = .ok (.invokevirtual 76, 3) := by decide +kernel
theorem dX9_rest_11 : decode cX9_rest 11 = .ok (.aload_n 0, 1) := by decide +kernel
theorem dX9_rest_12 : decode cX9_rest 12 = .ok (.aload_n 0, 1) := by decide +kernel
theorem dX9_rest_13 : decode cX9_rest 13 = .ok (.getfield 58, 3) := by decide +kernel
theorem dX9_rest_16 : decode cX9_rest 16 = .ok (.iload_n 1, 1) := by decide +kernel
theorem dX9_rest_17 : decode cX9_rest 17 = .ok (.iload_n 2, 1) := by decide +kernel
theorem dX9_rest_18 : decode cX9_rest 18 = .ok (.invokevirtual 111, 3) := by decide +kernel
theorem dX9_rest_21 : decode cX9_rest 21 = .ok (.invokevirtual 84, 3) := by decide +kernel
theorem dX9_rest_24 : decode cX9_rest 24 = .ok (.ireturn, 1) := by decide +kernel
set_option maxRecDepth 20000 in
theorem ggX9_settled_X2_keep : GoodIn wsX9_settled wsX2_keep := goodIn_r _ [9, 10, 11, 12, 13, 14, 15, 16, 17, 18, 19, 20, 21, 22, 23, 24, 25, 26, 27, 28, 29, 30, 31, 32, 33, 34, 35, 36, 37, 38, 39, 40, 41, 42, 43, 44, 45, 46, 47, 48, 49, 50, 51, 52, 53, 54, 55, 56, 57, 58, 59, 60, 61, 62, 73, 74, 75, 76, 77, 78, 79, 80, 81, 82, 83, 84, 85, 86, 87, 88, 89, 90, 91, 92, 93, 94, 95, 96, 97] (by decide +kernel) (by decide +kernel)
set_option maxRecDepth 20000 in
theorem gX9_settled_X2_keep : GoodIn wsX9_settled (wsV RX9 121 RX2 yX2_keep wsX2_keep) := goodIn_app (goodIn_of _ (by decide +kernel)) ggX9_settled_X2_keep
theorem dX9_settled_0 : decode cX9_settled 0 = .ok (.iload_n 1, 1) := by decide +kernel
theorem dX9_settled_1 : decode cX9_settled 1 = .ok (.iconst (-1), 1) := by decide +kernel
theorem dX9_settled_2 : decode cX9_settled 2 = .ok (.if_icmp .ne 13, 3) := by decide +kernel
theorem dX9_settled_5 : decode cX9_settled 5 = .ok (.new 114, 3) := by decide +kernel
theorem dX9_settled_8 : decode cX9_settled 8 = .ok (.dup, 1) := by decide +kernel
theorem dX9_settled_9 : decode cX9_settled 9 = .ok (.ldc 116, 2) := by decide +kernel
theorem dX9_settled_11 : decode cX9_settled 11 = .ok (.invokespecial 118, 3) := by decide +kernel
theorem dX9_settled_14 : decode cX9_settled 14 = .ok (.athrow, 1) := by decide +kernel
theorem dX9_settled_15 : decode cX9_settled 15 = .ok (.aload_n 0, 1) := by decide +kernel
theorem dX9_settled_16 : decode cX9_settled 16 = .ok (.getfield 29, 3) := by decide +kernel
theorem dX9_settled_19 : decode cX9_settled 19 = .ok (.aload_n 0, 1) := by decide +kernel
theorem dX9_settled_20 : decode cX9_settled 20 = .ok (.getfield 16, 3) := by decide +kernel
theorem dX9_settled_23 : decode cX9_settled 23 = .ok (.invokevirtual 121, 3) := by decide +kernel
theorem dX9_settled_26 : decode cX9_settled 26 = .ok (.iload_n 1, 1) := by decide +kernel
theorem dX9_settled_27 : decode cX9_settled 27 = .ok (.ireturn, 1) := by decide +kernel
set_option maxRecDepth 20000 in
theorem ggX9_leaves_X9_hedgeAsked : GoodIn wsX9_leaves wsX9_hedgeAsked := goodIn_ca (goodIn_ca (goodIn_ca (goodIn_r _ [5, 6, 7, 8, 9, 4, 10, 11, 12, 13, 14, 15, 16, 17, 18, 19, 20, 21, 22, 23, 24, 25, 26, 27, 28] (by decide +kernel) (by decide +kernel)) (goodIn_sub (fun _ h => List.mem_cons_of_mem _ (List.mem_append_left _ (List.mem_append_left _ (List.mem_append_right _ h)))) (by decide +kernel))) (goodIn_sub (fun _ h => List.mem_cons_of_mem _ (List.mem_append_left _ (List.mem_append_right _ h))) (by decide +kernel))) (goodIn_sub (fun _ h => List.mem_cons_of_mem _ (List.mem_append_right _ h)) (by decide +kernel))
set_option maxRecDepth 20000 in
theorem gX9_leaves_X9_hedgeAsked : GoodIn wsX9_leaves (va_wsS RX9 124 yX9_hedgeAsked wsX9_hedgeAsked) := goodIn_app (goodIn_of _ (by decide +kernel)) ggX9_leaves_X9_hedgeAsked
set_option maxRecDepth 20000 in
theorem ggX9_leaves_X4_leavesOf : GoodIn wsX9_leaves wsX4_leavesOf := goodIn_ca (goodIn_r _ [32, 33, 53] (by decide +kernel) (by decide +kernel)) (goodIn_sub (fun _ h => List.mem_cons_of_mem _ (List.mem_append_right _ h)) (by decide +kernel))
set_option maxRecDepth 20000 in
theorem gX9_leaves_X4_leavesOf : GoodIn wsX9_leaves (wsV RX9 127 RX4 yX4_leavesOf wsX4_leavesOf) := goodIn_app (goodIn_of _ (by decide +kernel)) ggX9_leaves_X4_leavesOf
theorem dX9_leaves_0 : decode cX9_leaves 0 = .ok (.aload_n 0, 1) := by decide +kernel
theorem dX9_leaves_1 : decode cX9_leaves 1 = .ok (.getfield 10, 3) := by decide +kernel
theorem dX9_leaves_4 : decode cX9_leaves 4 = .ok (.getfield 42, 3) := by decide +kernel
theorem dX9_leaves_7 : decode cX9_leaves 7 = .ok (.iload_n 1, 1) := by decide +kernel
theorem dX9_leaves_8 : decode cX9_leaves 8 = .ok (.iload_n 2, 1) := by decide +kernel
theorem dX9_leaves_9 : decode cX9_leaves 9 = .ok (.invokestatic 124, 3) := by decide +kernel
theorem dX9_leaves_12 : decode cX9_leaves 12 = .ok (.invokevirtual 127, 3) := by decide +kernel
theorem dX9_leaves_15 : decode cX9_leaves 15 = .ok (.ireturn, 1) := by decide +kernel
set_option maxRecDepth 20000 in
theorem ggX9_isGap_X9_demandCells : GoodIn wsX9_isGap wsX9_demandCells := goodIn_ca (goodIn_r _ [5, 6, 7, 8, 9, 10, 11] (by decide +kernel) (by decide +kernel)) (goodIn_sub (fun _ h => List.mem_cons_of_mem _ (List.mem_append_left _ (List.mem_append_right _ h))) (by decide +kernel))
set_option maxRecDepth 20000 in
theorem gX9_isGap_X9_demandCells : GoodIn wsX9_isGap (va_wsS RX9 132 yX9_demandCells wsX9_demandCells) := goodIn_app (goodIn_of _ (by decide +kernel)) ggX9_isGap_X9_demandCells
set_option maxRecDepth 20000 in
theorem ggX9_isGap_X4_hedgeBetween : GoodIn wsX9_isGap wsX4_hedgeBetween := goodIn_ca (goodIn_r _ [14, 15, 16, 17, 18, 19, 20, 21, 22, 23] (by decide +kernel) (by decide +kernel)) (goodIn_sub (fun _ h => List.mem_cons_of_mem _ (List.mem_append_right _ h)) (by decide +kernel))
set_option maxRecDepth 20000 in
theorem gX9_isGap_X4_hedgeBetween : GoodIn wsX9_isGap (va_wsS RX9 136 yX4_hedgeBetween wsX4_hedgeBetween) := goodIn_app (goodIn_of _ (by decide +kernel)) ggX9_isGap_X4_hedgeBetween
set_option maxRecDepth 20000 in
theorem ggX9_isGap_X4_isOpen : GoodIn wsX9_isGap wsX4_isOpen := goodIn_ca (goodIn_r _ [27, 28, 29, 30, 10, 31, 32, 52] (by decide +kernel) (by decide +kernel)) (goodIn_sub (fun _ h => List.mem_cons_of_mem _ (List.mem_append_right _ h)) (by decide +kernel))
set_option maxRecDepth 20000 in
theorem gX9_isGap_X4_isOpen : GoodIn wsX9_isGap (wsV RX9 139 RX4 yX4_isOpen wsX4_isOpen) := goodIn_app (goodIn_of _ (by decide +kernel)) ggX9_isGap_X4_isOpen
theorem dX9_isGap_0 : decode cX9_isGap 0 = .ok (.iload_n 1, 1) := by decide +kernel
theorem dX9_isGap_1 : decode cX9_isGap 1 = .ok (.iload_n 2, 1) := by decide +kernel
theorem dX9_isGap_2 : decode cX9_isGap 2 = .ok (.invokestatic 132, 3) := by decide +kernel
theorem dX9_isGap_5 : decode cX9_isGap 5 = .ok (.aload_n 0, 1) := by decide +kernel
theorem dX9_isGap_6 : decode cX9_isGap 6 = .ok (.getfield 10, 3) := by decide +kernel
theorem dX9_isGap_9 : decode cX9_isGap 9 = .ok (.getfield 42, 3) := by decide +kernel
theorem dX9_isGap_12 : decode cX9_isGap 12 = .ok (.iload_n 1, 1) := by decide +kernel
theorem dX9_isGap_13 : decode cX9_isGap 13 = .ok (.iload_n 2, 1) := by decide +kernel
theorem dX9_isGap_14 : decode cX9_isGap 14 = .ok (.invokestatic 136, 3) := by decide +kernel
theorem dX9_isGap_17 : decode cX9_isGap 17 = .ok (.invokevirtual 139, 3) := by decide +kernel
theorem dX9_isGap_20 : decode cX9_isGap 20 = .ok (.ireturn, 1) := by decide +kernel
set_option maxRecDepth 20000 in
theorem ggX9_hours_X9_demandCells : GoodIn wsX9_hours wsX9_demandCells := goodIn_ca (goodIn_r _ [5, 6, 7, 8, 9, 10, 11] (by decide +kernel) (by decide +kernel)) (goodIn_sub (fun _ h => List.mem_cons_of_mem _ (List.mem_append_left _ (List.mem_append_left _ (List.mem_append_right _ h)))) (by decide +kernel))
set_option maxRecDepth 20000 in
theorem gX9_hours_X9_demandCells : GoodIn wsX9_hours (va_wsS RX9 132 yX9_demandCells wsX9_demandCells) := goodIn_app (goodIn_of _ (by decide +kernel)) ggX9_hours_X9_demandCells
set_option maxRecDepth 20000 in
theorem ggX9_hours_X8_hoursByDistance : GoodIn wsX9_hours wsX8_hoursByDistance := goodIn_ca (goodIn_r _ [16, 17, 18, 19, 15, 20, 21, 22, 23, 24, 25, 26, 27, 28, 29, 30, 31, 32, 9, 10, 11, 33, 34, 35, 36, 37, 38, 39, 40, 41, 42, 43, 44, 45, 46, 47, 48, 49, 50, 66, 67, 68, 69] (by decide +kernel) (by decide +kernel)) (goodIn_sub (fun _ h => List.mem_cons_of_mem _ (List.mem_append_left _ (List.mem_append_right _ h))) (by decide +kernel))
set_option maxRecDepth 20000 in
theorem gX9_hours_X8_hoursByDistance : GoodIn wsX9_hours (wsV RX9 143 RX8 yX8_hoursByDistance wsX8_hoursByDistance) := goodIn_app (goodIn_of _ (by decide +kernel)) ggX9_hours_X8_hoursByDistance
set_option maxRecDepth 20000 in
theorem ggX9_hours_X9_demandWay : GoodIn wsX9_hours wsX9_demandWay := goodIn_ca (goodIn_r _ [53, 54, 55] (by decide +kernel) (by decide +kernel)) (goodIn_sub (fun _ h => List.mem_cons_of_mem _ (List.mem_append_right _ h)) (by decide +kernel))
set_option maxRecDepth 20000 in
theorem gX9_hours_X9_demandWay : GoodIn wsX9_hours (va_wsS RX9 146 yX9_demandWay wsX9_demandWay) := goodIn_app (goodIn_of _ (by decide +kernel)) ggX9_hours_X9_demandWay
theorem dX9_hours_0 : decode cX9_hours 0 = .ok (.iload_n 1, 1) := by decide +kernel
theorem dX9_hours_1 : decode cX9_hours 1 = .ok (.iload_n 2, 1) := by decide +kernel
theorem dX9_hours_2 : decode cX9_hours 2 = .ok (.invokestatic 132, 3) := by decide +kernel
theorem dX9_hours_5 : decode cX9_hours 5 = .ok (.aload_n 0, 1) := by decide +kernel
theorem dX9_hours_6 : decode cX9_hours 6 = .ok (.getfield 49, 3) := by decide +kernel
theorem dX9_hours_9 : decode cX9_hours 9 = .ok (.iload_n 1, 1) := by decide +kernel
theorem dX9_hours_10 : decode cX9_hours 10 = .ok (.iload_n 2, 1) := by decide +kernel
theorem dX9_hours_11 : decode cX9_hours 11 = .ok (.invokevirtual 143, 3) := by decide +kernel
theorem dX9_hours_14 : decode cX9_hours 14 = .ok (.invokestatic 146, 3) := by decide +kernel
theorem dX9_hours_17 : decode cX9_hours 17 = .ok (.ireturn, 1) := by decide +kernel
set_option maxRecDepth 20000 in
theorem ggX9_hoursAgain_X9_demandCells : GoodIn wsX9_hoursAgain wsX9_demandCells := goodIn_ca (goodIn_r _ [5, 6, 7, 8, 9, 10, 11] (by decide +kernel) (by decide +kernel)) (goodIn_sub (fun _ h => List.mem_cons_of_mem _ (List.mem_append_left _ (List.mem_append_left _ (List.mem_append_right _ h)))) (by decide +kernel))
set_option maxRecDepth 20000 in
theorem gX9_hoursAgain_X9_demandCells : GoodIn wsX9_hoursAgain (va_wsS RX9 132 yX9_demandCells wsX9_demandCells) := goodIn_app (goodIn_of _ (by decide +kernel)) ggX9_hoursAgain_X9_demandCells
set_option maxRecDepth 20000 in
theorem ggX9_hoursAgain_X8_hoursByNeighbours : GoodIn wsX9_hoursAgain wsX8_hoursByNeighbours := goodIn_ca (goodIn_r _ [16, 17, 18, 19, 15, 20, 21, 22, 23, 24, 25, 26, 27, 28, 29, 30, 31, 9, 10, 11, 32, 33, 34, 35, 36, 37, 38, 39, 40, 41, 42, 43, 44, 45, 46, 47, 48, 64, 65, 66, 67] (by decide +kernel) (by decide +kernel)) (goodIn_sub (fun _ h => List.mem_cons_of_mem _ (List.mem_append_left _ (List.mem_append_right _ h))) (by decide +kernel))
set_option maxRecDepth 20000 in
theorem gX9_hoursAgain_X8_hoursByNeighbours : GoodIn wsX9_hoursAgain (wsV RX9 149 RX8 yX8_hoursByNeighbours wsX8_hoursByNeighbours) := goodIn_app (goodIn_of _ (by decide +kernel)) ggX9_hoursAgain_X8_hoursByNeighbours
set_option maxRecDepth 20000 in
theorem ggX9_hoursAgain_X9_demandWay : GoodIn wsX9_hoursAgain wsX9_demandWay := goodIn_ca (goodIn_r _ [51, 52, 53] (by decide +kernel) (by decide +kernel)) (goodIn_sub (fun _ h => List.mem_cons_of_mem _ (List.mem_append_right _ h)) (by decide +kernel))
set_option maxRecDepth 20000 in
theorem gX9_hoursAgain_X9_demandWay : GoodIn wsX9_hoursAgain (va_wsS RX9 146 yX9_demandWay wsX9_demandWay) := goodIn_app (goodIn_of _ (by decide +kernel)) ggX9_hoursAgain_X9_demandWay
theorem dX9_hoursAgain_0 : decode cX9_hoursAgain 0 = .ok (.iload_n 1, 1) := by decide +kernel
theorem dX9_hoursAgain_1 : decode cX9_hoursAgain 1 = .ok (.iload_n 2, 1) := by decide +kernel
theorem dX9_hoursAgain_2 : decode cX9_hoursAgain 2 = .ok (.invokestatic 132, 3) := by decide +kernel
theorem dX9_hoursAgain_5 : decode cX9_hoursAgain 5 = .ok (.aload_n 0, 1) := by decide +kernel
theorem dX9_hoursAgain_6 : decode cX9_hoursAgain 6 = .ok (.getfield 49, 3) := by decide +kernel
theorem dX9_hoursAgain_9 : decode cX9_hoursAgain 9 = .ok (.iload_n 1, 1) := by decide +kernel
theorem dX9_hoursAgain_10 : decode cX9_hoursAgain 10 = .ok (.iload_n 2, 1) := by decide +kernel
theorem dX9_hoursAgain_11 : decode cX9_hoursAgain 11 = .ok (.invokevirtual 149, 3) := by decide +kernel
theorem dX9_hoursAgain_14 : decode cX9_hoursAgain 14 = .ok (.invokestatic 146, 3) := by decide +kernel
theorem dX9_hoursAgain_17 : decode cX9_hoursAgain 17 = .ok (.ireturn, 1) := by decide +kernel
set_option maxRecDepth 20000 in
theorem ggX9_next_X9_demandCells : GoodIn wsX9_next wsX9_demandCells := goodIn_ca (goodIn_r _ [7, 8, 9, 10, 11, 12, 13] (by decide +kernel) (by decide +kernel)) (goodIn_sub (fun _ h => List.mem_cons_of_mem _ (List.mem_append_left _ (List.mem_append_right _ h))) (by decide +kernel))
set_option maxRecDepth 20000 in
theorem gX9_next_X9_demandCells : GoodIn wsX9_next (va_wsS RX9 132 yX9_demandCells wsX9_demandCells) := goodIn_app (goodIn_of _ (by decide +kernel)) ggX9_next_X9_demandCells
set_option maxRecDepth 20000 in
theorem ggX9_next_X8_stepToExit : GoodIn wsX9_next wsX8_stepToExit := goodIn_ca (goodIn_r _ [18, 19, 20, 21, 22, 17, 23, 24, 25, 26, 27, 28, 29, 30, 31, 32, 33, 34, 11, 12, 13, 35, 36, 37, 38, 39, 40, 41, 42, 43, 44, 45, 46, 47, 48, 49, 50, 51, 52, 63, 64, 65, 66] (by decide +kernel) (by decide +kernel)) (goodIn_sub (fun _ h => List.mem_cons_of_mem _ (List.mem_append_right _ h)) (by decide +kernel))
set_option maxRecDepth 20000 in
theorem gX9_next_X8_stepToExit : GoodIn wsX9_next (wsV RX9 152 RX8 yX8_stepToExit wsX8_stepToExit) := goodIn_app (goodIn_of _ (by decide +kernel)) ggX9_next_X8_stepToExit
theorem dX9_next_0 : decode cX9_next 0 = .ok (.iload_n 1, 1) := by decide +kernel
theorem dX9_next_1 : decode cX9_next 1 = .ok (.iload_n 1, 1) := by decide +kernel
theorem dX9_next_2 : decode cX9_next 2 = .ok (.invokestatic 132, 3) := by decide +kernel
theorem dX9_next_5 : decode cX9_next 5 = .ok (.aload_n 0, 1) := by decide +kernel
theorem dX9_next_6 : decode cX9_next 6 = .ok (.getfield 49, 3) := by decide +kernel
theorem dX9_next_9 : decode cX9_next 9 = .ok (.iload_n 1, 1) := by decide +kernel
theorem dX9_next_10 : decode cX9_next 10 = .ok (.invokevirtual 152, 3) := by decide +kernel
theorem dX9_next_13 : decode cX9_next 13 = .ok (.istore_n 2, 1) := by decide +kernel
theorem dX9_next_14 : decode cX9_next 14 = .ok (.iload_n 2, 1) := by decide +kernel
theorem dX9_next_15 : decode cX9_next 15 = .ok (.iconst (-1), 1) := by decide +kernel
theorem dX9_next_16 : decode cX9_next 16 = .ok (.if_icmp .ne 13, 3) := by decide +kernel
theorem dX9_next_19 : decode cX9_next 19 = .ok (.new 155, 3) := by decide +kernel
theorem dX9_next_22 : decode cX9_next 22 = .ok (.dup, 1) := by decide +kernel
theorem dX9_next_23 : decode cX9_next 23 = .ok (.ldc 157, 2) := by decide +kernel
theorem dX9_next_25 : decode cX9_next 25 = .ok (.invokespecial 159, 3) := by decide +kernel
theorem dX9_next_28 : decode cX9_next 28 = .ok (.athrow, 1) := by decide +kernel
theorem dX9_next_29 : decode cX9_next 29 = .ok (.iload_n 2, 1) := by decide +kernel
theorem dX9_next_30 : decode cX9_next 30 = .ok (.ireturn, 1) := by decide +kernel
set_option maxRecDepth 20000 in
theorem ggX9_reached_X9_demandCells : GoodIn wsX9_reached wsX9_demandCells := goodIn_ca (goodIn_r _ [5, 6, 7, 8, 9, 10, 11] (by decide +kernel) (by decide +kernel)) (goodIn_sub (fun _ h => List.mem_cons_of_mem _ (List.mem_append_left _ (List.mem_append_right _ h))) (by decide +kernel))
set_option maxRecDepth 20000 in
theorem gX9_reached_X9_demandCells : GoodIn wsX9_reached (va_wsS RX9 132 yX9_demandCells wsX9_demandCells) := goodIn_app (goodIn_of _ (by decide +kernel)) ggX9_reached_X9_demandCells
set_option maxRecDepth 20000 in
theorem ggX9_reached_X8_cellsReached : GoodIn wsX9_reached wsX8_cellsReached := goodIn_ca (goodIn_r _ [16, 17, 18, 19, 15, 20, 21, 22, 23, 24, 10, 25, 26, 27, 28, 29, 40, 41, 42, 43] (by decide +kernel) (by decide +kernel)) (goodIn_sub (fun _ h => List.mem_cons_of_mem _ (List.mem_append_right _ h)) (by decide +kernel))
set_option maxRecDepth 20000 in
theorem gX9_reached_X8_cellsReached : GoodIn wsX9_reached (wsV RX9 160 RX8 yX8_cellsReached wsX8_cellsReached) := goodIn_app (goodIn_of _ (by decide +kernel)) ggX9_reached_X8_cellsReached
theorem dX9_reached_0 : decode cX9_reached 0 = .ok (.iload_n 1, 1) := by decide +kernel
theorem dX9_reached_1 : decode cX9_reached 1 = .ok (.iload_n 1, 1) := by decide +kernel
theorem dX9_reached_2 : decode cX9_reached 2 = .ok (.invokestatic 132, 3) := by decide +kernel
theorem dX9_reached_5 : decode cX9_reached 5 = .ok (.aload_n 0, 1) := by decide +kernel
theorem dX9_reached_6 : decode cX9_reached 6 = .ok (.getfield 49, 3) := by decide +kernel
theorem dX9_reached_9 : decode cX9_reached 9 = .ok (.iload_n 1, 1) := by decide +kernel
theorem dX9_reached_10 : decode cX9_reached 10 = .ok (.invokevirtual 160, 3) := by decide +kernel
theorem dX9_reached_13 : decode cX9_reached 13 = .ok (.ireturn, 1) := by decide +kernel
set_option maxRecDepth 20000 in
theorem ggX9_trims_X9_demandCells : GoodIn wsX9_trims wsX9_demandCells := goodIn_ca (goodIn_r _ [5, 6, 7, 8, 9, 10, 11] (by decide +kernel) (by decide +kernel)) (goodIn_sub (fun _ h => List.mem_cons_of_mem _ (List.mem_append_left _ (List.mem_append_right _ h))) (by decide +kernel))
set_option maxRecDepth 20000 in
theorem gX9_trims_X9_demandCells : GoodIn wsX9_trims (va_wsS RX9 132 yX9_demandCells wsX9_demandCells) := goodIn_app (goodIn_of _ (by decide +kernel)) ggX9_trims_X9_demandCells
set_option maxRecDepth 20000 in
theorem ggX9_trims_X8_trimsByNumber : GoodIn wsX9_trims wsX8_trimsByNumber := goodIn_ca (goodIn_r _ [16, 17, 18, 19, 15, 20, 21, 22, 23, 24, 25, 26, 27, 28, 10, 29, 30, 31, 32, 33, 34, 35, 36, 37, 38, 39, 40, 51, 52, 53, 54] (by decide +kernel) (by decide +kernel)) (goodIn_sub (fun _ h => List.mem_cons_of_mem _ (List.mem_append_right _ h)) (by decide +kernel))
set_option maxRecDepth 20000 in
theorem gX9_trims_X8_trimsByNumber : GoodIn wsX9_trims (wsV RX9 163 RX8 yX8_trimsByNumber wsX8_trimsByNumber) := goodIn_app (goodIn_of _ (by decide +kernel)) ggX9_trims_X8_trimsByNumber
theorem dX9_trims_0 : decode cX9_trims 0 = .ok (.iload_n 1, 1) := by decide +kernel
theorem dX9_trims_1 : decode cX9_trims 1 = .ok (.iload_n 1, 1) := by decide +kernel
theorem dX9_trims_2 : decode cX9_trims 2 = .ok (.invokestatic 132, 3) := by decide +kernel
theorem dX9_trims_5 : decode cX9_trims 5 = .ok (.aload_n 0, 1) := by decide +kernel
theorem dX9_trims_6 : decode cX9_trims 6 = .ok (.getfield 49, 3) := by decide +kernel
theorem dX9_trims_9 : decode cX9_trims 9 = .ok (.iload_n 1, 1) := by decide +kernel
theorem dX9_trims_10 : decode cX9_trims 10 = .ok (.invokevirtual 163, 3) := by decide +kernel
theorem dX9_trims_13 : decode cX9_trims 13 = .ok (.ireturn, 1) := by decide +kernel
set_option maxRecDepth 20000 in
theorem ggX9_trimsAgain_X9_demandCells : GoodIn wsX9_trimsAgain wsX9_demandCells := goodIn_ca (goodIn_r _ [5, 6, 7, 8, 9, 10, 11] (by decide +kernel) (by decide +kernel)) (goodIn_sub (fun _ h => List.mem_cons_of_mem _ (List.mem_append_left _ (List.mem_append_right _ h))) (by decide +kernel))
set_option maxRecDepth 20000 in
theorem gX9_trimsAgain_X9_demandCells : GoodIn wsX9_trimsAgain (va_wsS RX9 132 yX9_demandCells wsX9_demandCells) := goodIn_app (goodIn_of _ (by decide +kernel)) ggX9_trimsAgain_X9_demandCells
set_option maxRecDepth 20000 in
theorem ggX9_trimsAgain_X8_trimsByNeighbours : GoodIn wsX9_trimsAgain wsX8_trimsByNeighbours := goodIn_ca (goodIn_r _ [16, 17, 18, 19, 15, 20, 21, 22, 23, 24, 25, 26, 27, 28, 29, 30, 31, 9, 10, 11, 32, 33, 34, 35, 36, 37, 38, 39, 40, 41, 42, 43, 44, 45, 46, 47, 48, 59, 60, 61, 62] (by decide +kernel) (by decide +kernel)) (goodIn_sub (fun _ h => List.mem_cons_of_mem _ (List.mem_append_right _ h)) (by decide +kernel))
set_option maxRecDepth 20000 in
theorem gX9_trimsAgain_X8_trimsByNeighbours : GoodIn wsX9_trimsAgain (wsV RX9 166 RX8 yX8_trimsByNeighbours wsX8_trimsByNeighbours) := goodIn_app (goodIn_of _ (by decide +kernel)) ggX9_trimsAgain_X8_trimsByNeighbours
theorem dX9_trimsAgain_0 : decode cX9_trimsAgain 0 = .ok (.iload_n 1, 1) := by decide +kernel
theorem dX9_trimsAgain_1 : decode cX9_trimsAgain 1 = .ok (.iload_n 1, 1) := by decide +kernel
theorem dX9_trimsAgain_2 : decode cX9_trimsAgain 2 = .ok (.invokestatic 132, 3) := by decide +kernel
theorem dX9_trimsAgain_5 : decode cX9_trimsAgain 5 = .ok (.aload_n 0, 1) := by decide +kernel
theorem dX9_trimsAgain_6 : decode cX9_trimsAgain 6 = .ok (.getfield 49, 3) := by decide +kernel
theorem dX9_trimsAgain_9 : decode cX9_trimsAgain 9 = .ok (.iload_n 1, 1) := by decide +kernel
theorem dX9_trimsAgain_10 : decode cX9_trimsAgain 10 = .ok (.invokevirtual 166, 3) := by decide +kernel
theorem dX9_trimsAgain_13 : decode cX9_trimsAgain 13 = .ok (.ireturn, 1) := by decide +kernel
set_option maxRecDepth 20000 in
theorem ggX9_isNeeded_X9_hedgeAsked : GoodIn wsX9_isNeeded wsX9_hedgeAsked := goodIn_ca (goodIn_ca (goodIn_ca (goodIn_r _ [5, 6, 7, 8, 9, 4, 10, 11, 12, 13, 14, 15, 16, 17, 18, 19, 20, 21, 22, 23, 24, 25, 26, 27, 28] (by decide +kernel) (by decide +kernel)) (goodIn_sub (fun _ h => List.mem_cons_of_mem _ (List.mem_append_left _ (List.mem_append_left _ (List.mem_append_right _ h)))) (by decide +kernel))) (goodIn_sub (fun _ h => List.mem_cons_of_mem _ (List.mem_append_left _ (List.mem_append_right _ h))) (by decide +kernel))) (goodIn_sub (fun _ h => List.mem_cons_of_mem _ (List.mem_append_right _ h)) (by decide +kernel))
set_option maxRecDepth 20000 in
theorem gX9_isNeeded_X9_hedgeAsked : GoodIn wsX9_isNeeded (va_wsS RX9 124 yX9_hedgeAsked wsX9_hedgeAsked) := goodIn_app (goodIn_of _ (by decide +kernel)) ggX9_isNeeded_X9_hedgeAsked
set_option maxRecDepth 20000 in
theorem ggX9_isNeeded_X8_leadsThrough : GoodIn wsX9_isNeeded wsX8_leadsThrough := goodIn_ca (goodIn_r _ [33, 34, 35, 36, 32, 37, 38, 39, 40, 41, 15, 42, 43, 44, 45, 46, 47, 48, 49, 50, 61, 62, 63, 64] (by decide +kernel) (by decide +kernel)) (goodIn_sub (fun _ h => List.mem_cons_of_mem _ (List.mem_append_right _ h)) (by decide +kernel))
set_option maxRecDepth 20000 in
theorem gX9_isNeeded_X8_leadsThrough : GoodIn wsX9_isNeeded (wsV RX9 169 RX8 yX8_leadsThrough wsX8_leadsThrough) := goodIn_app (goodIn_of _ (by decide +kernel)) ggX9_isNeeded_X8_leadsThrough
theorem dX9_isNeeded_0 : decode cX9_isNeeded 0 = .ok (.iload_n 1, 1) := by decide +kernel
theorem dX9_isNeeded_1 : decode cX9_isNeeded 1 = .ok (.iload_n 2, 1) := by decide +kernel
theorem dX9_isNeeded_2 : decode cX9_isNeeded 2 = .ok (.invokestatic 124, 3) := by decide +kernel
theorem dX9_isNeeded_5 : decode cX9_isNeeded 5 = .ok (.istore_n 3, 1) := by decide +kernel
theorem dX9_isNeeded_6 : decode cX9_isNeeded 6 = .ok (.aload_n 0, 1) := by decide +kernel
theorem dX9_isNeeded_7 : decode cX9_isNeeded 7 = .ok (.getfield 49, 3) := by decide +kernel
theorem dX9_isNeeded_10 : decode cX9_isNeeded 10 = .ok (.iconst 5, 1) := by decide +kernel
theorem dX9_isNeeded_11 : decode cX9_isNeeded 11 = .ok (.iconst (-1), 1) := by decide +kernel
theorem dX9_isNeeded_12 : decode cX9_isNeeded 12 = .ok (.invokevirtual 169, 3) := by decide +kernel
theorem dX9_isNeeded_15 : decode cX9_isNeeded 15 = .ok (.ifCond .eq 19, 3) := by decide +kernel
theorem dX9_isNeeded_18 : decode cX9_isNeeded 18 = .ok (.aload_n 0, 1) := by decide +kernel
theorem dX9_isNeeded_19 : decode cX9_isNeeded 19 = .ok (.getfield 49, 3) := by decide +kernel
theorem dX9_isNeeded_22 : decode cX9_isNeeded 22 = .ok (.iconst 5, 1) := by decide +kernel
theorem dX9_isNeeded_23 : decode cX9_isNeeded 23 = .ok (.iload_n 3, 1) := by decide +kernel
theorem dX9_isNeeded_24 : decode cX9_isNeeded 24 = .ok (.invokevirtual 169, 3) := by decide +kernel
theorem dX9_isNeeded_27 : decode cX9_isNeeded 27 = .ok (.ifCond .ne 7, 3) := by decide +kernel
theorem dX9_isNeeded_30 : decode cX9_isNeeded 30 = .ok (.iconst 1, 1) := by decide +kernel
theorem dX9_isNeeded_31 : decode cX9_isNeeded 31 = .ok (.goto 4, 3) := by decide +kernel
theorem dX9_isNeeded_34 : decode cX9_isNeeded 34 = .ok (.iconst 0, 1) := by decide +kernel
theorem dX9_isNeeded_35 : decode cX9_isNeeded 35 = .ok (.ireturn, 1) := by decide +kernel
set_option maxRecDepth 20000 in
theorem ggX9_closesIn_X9_hedgeAsked : GoodIn wsX9_closesIn wsX9_hedgeAsked := goodIn_ca (goodIn_ca (goodIn_ca (goodIn_r _ [9, 10, 11, 12, 13, 8, 14, 15, 16, 17, 18, 19, 20, 21, 22, 23, 24, 25, 4, 26, 27, 3, 5, 28, 29] (by decide +kernel) (by decide +kernel)) (goodIn_sub (fun _ h => List.mem_cons_of_mem _ (List.mem_append_left _ (List.mem_append_left _ (List.mem_append_right _ h)))) (by decide +kernel))) (goodIn_sub (fun _ h => List.mem_cons_of_mem _ (List.mem_append_left _ (List.mem_append_right _ h))) (by decide +kernel))) (goodIn_sub (fun _ h => List.mem_cons_of_mem _ (List.mem_append_right _ h)) (by decide +kernel))
set_option maxRecDepth 20000 in
theorem gX9_closesIn_X9_hedgeAsked : GoodIn wsX9_closesIn (va_wsS RX9 124 yX9_hedgeAsked wsX9_hedgeAsked) := goodIn_app (goodIn_of _ (by decide +kernel)) ggX9_closesIn_X9_hedgeAsked
set_option maxRecDepth 20000 in
theorem ggX9_closesIn_X4_leavesOf : GoodIn wsX9_closesIn wsX4_leavesOf := goodIn_ca (goodIn_r _ [33, 34, 54] (by decide +kernel) (by decide +kernel)) (goodIn_sub (fun _ h => List.mem_cons_of_mem _ (List.mem_append_right _ h)) (by decide +kernel))
set_option maxRecDepth 20000 in
theorem gX9_closesIn_X4_leavesOf : GoodIn wsX9_closesIn (wsV RX9 127 RX4 yX4_leavesOf wsX4_leavesOf) := goodIn_app (goodIn_of _ (by decide +kernel)) ggX9_closesIn_X4_leavesOf
theorem dX9_closesIn_0 : decode cX9_closesIn 0 = .ok (.aload_n 0, 1) := by decide +kernel
theorem dX9_closesIn_1 : decode cX9_closesIn 1 = .ok (.getfield 10, 3) := by decide +kernel
theorem dX9_closesIn_4 : decode cX9_closesIn 4 = .ok (.getfield 42, 3) := by decide +kernel
theorem dX9_closesIn_7 : decode cX9_closesIn 7 = .ok (.iload_n 1, 1) := by decide +kernel
theorem dX9_closesIn_8 : decode cX9_closesIn 8 = .ok (.iload_n 2, 1) := by decide +kernel
theorem dX9_closesIn_9 : decode cX9_closesIn 9 = .ok (.invokestatic 124, 3) := by decide +kernel
theorem dX9_closesIn_12 : decode cX9_closesIn 12 = .ok (.invokevirtual 127, 3) := by decide +kernel
theorem dX9_closesIn_15 : decode cX9_closesIn 15 = .ok (.istore_n 3, 1) := by decide +kernel
theorem dX9_closesIn_16 : decode cX9_closesIn 16 = .ok (.iconst 0, 1) := by decide +kernel
theorem dX9_closesIn_17 : decode cX9_closesIn 17 = .ok (.iconst 5, 1) := by decide +kernel
theorem dX9_closesIn_18 : decode cX9_closesIn 18 = .ok (.iload_n 3, 1) := by decide +kernel
theorem dX9_closesIn_19 : decode cX9_closesIn 19 = .ok (.isub, 1) := by decide +kernel
theorem dX9_closesIn_20 : decode cX9_closesIn 20 = .ok (.invokestatic 173, 3) := by decide +kernel
theorem dX9_closesIn_23 : decode cX9_closesIn 23 = .ok (.ireturn, 1) := by decide +kernel
set_option maxRecDepth 20000 in
theorem ggX9_summersLeft_X8_leadsThrough : GoodIn wsX9_summersLeft wsX8_leadsThrough := goodIn_ca (goodIn_r _ [6, 7, 8, 9, 5, 10, 11, 12, 13, 14, 15, 16, 17, 18, 19, 20, 21, 22, 23, 24, 35, 36, 37, 38] (by decide +kernel) (by decide +kernel)) (goodIn_sub (fun _ h => List.mem_cons_of_mem _ (List.mem_append_right _ h)) (by decide +kernel))
set_option maxRecDepth 20000 in
theorem gX9_summersLeft_X8_leadsThrough : GoodIn wsX9_summersLeft (wsV RX9 169 RX8 yX8_leadsThrough wsX8_leadsThrough) := goodIn_app (goodIn_of _ (by decide +kernel)) ggX9_summersLeft_X8_leadsThrough
theorem dX9_summersLeft_0 : decode cX9_summersLeft 0 = .ok (.iconst 0, 1) := by decide +kernel
theorem dX9_summersLeft_1 : decode cX9_summersLeft 1 = .ok (.istore_n 1, 1) := by decide +kernel
theorem dX9_summersLeft_2 : decode cX9_summersLeft 2 = .ok (.iload_n 1, 1) := by decide +kernel
theorem dX9_summersLeft_3 : decode cX9_summersLeft 3 = .ok (.iconst 5, 1) := by decide +kernel
theorem dX9_summersLeft_4 : decode cX9_summersLeft 4 = .ok (.if_icmp .ge 25, 3) := by decide +kernel
theorem dX9_summersLeft_7 : decode cX9_summersLeft 7 = .ok (.aload_n 0, 1) := by decide +kernel
theorem dX9_summersLeft_8 : decode cX9_summersLeft 8 = .ok (.getfield 49, 3) := by decide +kernel
theorem dX9_summersLeft_11 : decode cX9_summersLeft 11 = .ok (.iconst 5, 1) := by decide +kernel
theorem dX9_summersLeft_12 : decode cX9_summersLeft 12 = .ok (.iload_n 1, 1) := by decide +kernel
theorem dX9_summersLeft_13 : decode cX9_summersLeft 13 = .ok (.isub, 1) := by decide +kernel
theorem dX9_summersLeft_14 : decode cX9_summersLeft 14 = .ok (.iconst (-1), 1) := by decide +kernel
theorem dX9_summersLeft_15 : decode cX9_summersLeft 15 = .ok (.invokevirtual 169, 3) := by decide +kernel
theorem dX9_summersLeft_18 : decode cX9_summersLeft 18 = .ok (.ifCond .ne 5, 3) := by decide +kernel
theorem dX9_summersLeft_21 : decode cX9_summersLeft 21 = .ok (.iload_n 1, 1) := by decide +kernel
theorem dX9_summersLeft_22 : decode cX9_summersLeft 22 = .ok (.ireturn, 1) := by decide +kernel
theorem dX9_summersLeft_23 : decode cX9_summersLeft 23 = .ok (.iinc 1 1, 3) := by decide +kernel
theorem dX9_summersLeft_26 : decode cX9_summersLeft 26 = .ok (.goto (-24), 3) := by decide +kernel
theorem dX9_summersLeft_29 : decode cX9_summersLeft 29 = .ok (.iconst 5, 1) := by decide +kernel
theorem dX9_summersLeft_30 : decode cX9_summersLeft 30 = .ok (.ireturn, 1) := by decide +kernel
set_option maxRecDepth 20000 in
theorem ggX9_demandCells_X4_isCell : GoodIn wsX9_demandCells wsX4_isCell := goodIn_r _ [6] (by decide +kernel) (by decide +kernel)
set_option maxRecDepth 20000 in
theorem gX9_demandCells_X4_isCell : GoodIn wsX9_demandCells (va_wsS RX9 178 yX4_isCell wsX4_isCell) := goodIn_app (goodIn_of _ (by decide +kernel)) ggX9_demandCells_X4_isCell
theorem dX9_demandCells_0 : decode cX9_demandCells 0 = .ok (.iload_n 0, 1) := by decide +kernel
theorem dX9_demandCells_1 : decode cX9_demandCells 1 = .ok (.invokestatic 178, 3) := by decide +kernel
theorem dX9_demandCells_4 : decode cX9_demandCells 4 = .ok (.ifCond .eq 10, 3) := by decide +kernel
theorem dX9_demandCells_7 : decode cX9_demandCells 7 = .ok (.iload_n 1, 1) := by decide +kernel
theorem dX9_demandCells_8 : decode cX9_demandCells 8 = .ok (.invokestatic 178, 3) := by decide +kernel
theorem dX9_demandCells_11 : decode cX9_demandCells 11 = .ok (.ifCond .ne 13, 3) := by decide +kernel
theorem dX9_demandCells_14 : decode cX9_demandCells 14 = .ok (.new 181, 3) := by decide +kernel
theorem dX9_demandCells_17 : decode cX9_demandCells 17 = .ok (.dup, 1) := by decide +kernel
theorem dX9_demandCells_18 : decode cX9_demandCells 18 = .ok (.ldc 183, 2) := by decide +kernel
theorem dX9_demandCells_20 : decode cX9_demandCells 20 = .ok (.invokespecial 185, 3) := by decide +kernel
theorem dX9_demandCells_23 : decode cX9_demandCells 23 = .ok (.athrow, 1) := by decide +kernel
theorem dX9_demandCells_24 : decode cX9_demandCells 24 = .ok (.return_, 1) := by decide +kernel
set_option maxRecDepth 20000 in
theorem ggX9_hedgeAsked_X9_demandCells : GoodIn wsX9_hedgeAsked wsX9_demandCells := goodIn_ca (goodIn_r _ [6, 7, 8, 9, 10, 11, 12] (by decide +kernel) (by decide +kernel)) (goodIn_sub (fun _ h => List.mem_cons_of_mem _ (List.mem_append_left _ (List.mem_append_right _ h))) (by decide +kernel))
set_option maxRecDepth 20000 in
theorem gX9_hedgeAsked_X9_demandCells : GoodIn wsX9_hedgeAsked (va_wsS RX9 132 yX9_demandCells wsX9_demandCells) := goodIn_app (goodIn_of _ (by decide +kernel)) ggX9_hedgeAsked_X9_demandCells
set_option maxRecDepth 20000 in
theorem ggX9_hedgeAsked_X4_hedgeBetween : GoodIn wsX9_hedgeAsked wsX4_hedgeBetween := goodIn_ca (goodIn_r _ [15, 16, 17, 18, 19, 20, 21, 22, 23, 24] (by decide +kernel) (by decide +kernel)) (goodIn_sub (fun _ h => List.mem_cons_of_mem _ (List.mem_append_right _ h)) (by decide +kernel))
set_option maxRecDepth 20000 in
theorem gX9_hedgeAsked_X4_hedgeBetween : GoodIn wsX9_hedgeAsked (va_wsS RX9 136 yX4_hedgeBetween wsX4_hedgeBetween) := goodIn_app (goodIn_of _ (by decide +kernel)) ggX9_hedgeAsked_X4_hedgeBetween
theorem dX9_hedgeAsked_0 : decode cX9_hedgeAsked 0 = .ok (.iload_n 0, 1) := by decide +kernel
theorem dX9_hedgeAsked_1 : decode cX9_hedgeAsked 1 = .ok (.iload_n 1, 1) := by decide +kernel
theorem dX9_hedgeAsked_2 : decode cX9_hedgeAsked 2 = .ok (.invokestatic 132, 3) := by decide +kernel
theorem dX9_hedgeAsked_5 : decode cX9_hedgeAsked 5 = .ok (.iload_n 0, 1) := by decide +kernel
theorem dX9_hedgeAsked_6 : decode cX9_hedgeAsked 6 = .ok (.iload_n 1, 1) := by decide +kernel
theorem dX9_hedgeAsked_7 : decode cX9_hedgeAsked 7 = .ok (.invokestatic 136, 3) := by decide +kernel
theorem dX9_hedgeAsked_10 : decode cX9_hedgeAsked 10 = .ok (.istore_n 2, 1) := by decide +kernel
theorem dX9_hedgeAsked_11 : decode cX9_hedgeAsked 11 = .ok (.iload_n 2, 1) := by decide +kernel
theorem dX9_hedgeAsked_12 : decode cX9_hedgeAsked 12 = .ok (.iconst (-1), 1) := by decide +kernel
theorem dX9_hedgeAsked_13 : decode cX9_hedgeAsked 13 = .ok (.if_icmp .ne 13, 3) := by decide +kernel
theorem dX9_hedgeAsked_16 : decode cX9_hedgeAsked 16 = .ok (.new 155, 3) := by decide +kernel
theorem dX9_hedgeAsked_19 : decode cX9_hedgeAsked 19 = .ok (.dup, 1) := by decide +kernel
theorem dX9_hedgeAsked_20 : decode cX9_hedgeAsked 20 = .ok (.ldc 186, 2) := by decide +kernel
theorem dX9_hedgeAsked_22 : decode cX9_hedgeAsked 22 = .ok (.invokespecial 159, 3) := by decide +kernel
theorem dX9_hedgeAsked_25 : decode cX9_hedgeAsked 25 = .ok (.athrow, 1) := by decide +kernel
theorem dX9_hedgeAsked_26 : decode cX9_hedgeAsked 26 = .ok (.iload_n 2, 1) := by decide +kernel
theorem dX9_hedgeAsked_27 : decode cX9_hedgeAsked 27 = .ok (.ireturn, 1) := by decide +kernel
theorem dX9_demandWay_0 : decode cX9_demandWay 0 = .ok (.iload_n 0, 1) := by decide +kernel
theorem dX9_demandWay_1 : decode cX9_demandWay 1 = .ok (.sipush 1000, 3) := by decide +kernel
theorem dX9_demandWay_4 : decode cX9_demandWay 4 = .ok (.if_icmp .lt 13, 3) := by decide +kernel
theorem dX9_demandWay_7 : decode cX9_demandWay 7 = .ok (.new 155, 3) := by decide +kernel
theorem dX9_demandWay_10 : decode cX9_demandWay 10 = .ok (.dup, 1) := by decide +kernel
theorem dX9_demandWay_11 : decode cX9_demandWay 11 = .ok (.ldc 188, 2) := by decide +kernel
theorem dX9_demandWay_13 : decode cX9_demandWay 13 = .ok (.invokespecial 159, 3) := by decide +kernel
theorem dX9_demandWay_16 : decode cX9_demandWay 16 = .ok (.athrow, 1) := by decide +kernel
theorem dX9_demandWay_17 : decode cX9_demandWay 17 = .ok (.iload_n 0, 1) := by decide +kernel
theorem dX9_demandWay_18 : decode cX9_demandWay 18 = .ok (.ireturn, 1) := by decide +kernel
set_option maxRecDepth 20000 in
theorem ggX9_gardenerOf_X9_gardenerAsked : GoodIn wsX9_gardenerOf wsX9_gardenerAsked := goodIn_ca (goodIn_r _ [8, 9, 10, 3, 11, 12, 13, 14, 15, 16, 17, 28, 29, 30, 31, 32, 33, 34, 35, 36, 37, 38, 39, 40, 41, 42, 43, 44, 45, 46] (by decide +kernel) (by decide +kernel)) (goodIn_sub (fun _ h => List.mem_cons_of_mem _ (List.mem_append_right _ h)) (by decide +kernel))
set_option maxRecDepth 20000 in
theorem gX9_gardenerOf_X9_gardenerAsked : GoodIn wsX9_gardenerOf (wsV RX9 190 RX9 yX9_gardenerAsked wsX9_gardenerAsked) := goodIn_app (goodIn_of _ (by decide +kernel)) ggX9_gardenerOf_X9_gardenerAsked
set_option maxRecDepth 20000 in
theorem ggX9_gardenerOf_X6_bondsOf : GoodIn wsX9_gardenerOf wsX6_bondsOf := goodIn_r _ [21, 22, 23, 38, 39, 40, 41, 42, 43, 44, 45, 46, 47, 48, 49, 50, 51, 52, 53, 54] (by decide +kernel) (by decide +kernel)
set_option maxRecDepth 20000 in
theorem gX9_gardenerOf_X6_bondsOf : GoodIn wsX9_gardenerOf (wsV RX9 200 RX6 yX6_bondsOf wsX6_bondsOf) := goodIn_app (goodIn_of _ (by decide +kernel)) ggX9_gardenerOf_X6_bondsOf
theorem dX9_gardenerOf_0 : decode cX9_gardenerOf 0 = .ok (.aload_n 0, 1) := by decide +kernel
theorem dX9_gardenerOf_1 : decode cX9_gardenerOf 1 = .ok (.iload_n 1, 1) := by decide +kernel
theorem dX9_gardenerOf_2 : decode cX9_gardenerOf 2 = .ok (.invokevirtual 190, 3) := by decide +kernel
theorem dX9_gardenerOf_5 : decode cX9_gardenerOf 5 = .ok (.astore_n 3, 1) := by decide +kernel
theorem dX9_gardenerOf_6 : decode cX9_gardenerOf 6 = .ok (.iload_n 2, 1) := by decide +kernel
theorem dX9_gardenerOf_7 : decode cX9_gardenerOf 7 = .ok (.tableswitch 62 0 4 #[33, 38, 47, 52, 57], 33) := by decide +kernel
theorem dX9_gardenerOf_40 : decode cX9_gardenerOf 40 = .ok (.aload_n 3, 1) := by decide +kernel
theorem dX9_gardenerOf_41 : decode cX9_gardenerOf 41 = .ok (.getfield 194, 3) := by decide +kernel
theorem dX9_gardenerOf_44 : decode cX9_gardenerOf 44 = .ok (.ireturn, 1) := by decide +kernel
theorem dX9_gardenerOf_45 : decode cX9_gardenerOf 45 = .ok (.aload_n 0, 1) := by decide +kernel
theorem dX9_gardenerOf_46 : decode cX9_gardenerOf 46 = .ok (.getfield 10, 3) := by decide +kernel
theorem dX9_gardenerOf_49 : decode cX9_gardenerOf 49 = .ok (.iload_n 1, 1) := by decide +kernel
theorem dX9_gardenerOf_50 : decode cX9_gardenerOf 50 = .ok (.invokevirtual 200, 3) := by decide +kernel
theorem dX9_gardenerOf_53 : decode cX9_gardenerOf 53 = .ok (.ireturn, 1) := by decide +kernel
theorem dX9_gardenerOf_54 : decode cX9_gardenerOf 54 = .ok (.aload_n 3, 1) := by decide +kernel
theorem dX9_gardenerOf_55 : decode cX9_gardenerOf 55 = .ok (.getfield 203, 3) := by decide +kernel
theorem dX9_gardenerOf_58 : decode cX9_gardenerOf 58 = .ok (.ireturn, 1) := by decide +kernel
theorem dX9_gardenerOf_59 : decode cX9_gardenerOf 59 = .ok (.aload_n 3, 1) := by decide +kernel
theorem dX9_gardenerOf_60 : decode cX9_gardenerOf 60 = .ok (.getfield 206, 3) := by decide +kernel
theorem dX9_gardenerOf_63 : decode cX9_gardenerOf 63 = .ok (.ireturn, 1) := by decide +kernel
theorem dX9_gardenerOf_64 : decode cX9_gardenerOf 64 = .ok (.aload_n 3, 1) := by decide +kernel
theorem dX9_gardenerOf_65 : decode cX9_gardenerOf 65 = .ok (.getfield 209, 3) := by decide +kernel
theorem dX9_gardenerOf_68 : decode cX9_gardenerOf 68 = .ok (.ireturn, 1) := by decide +kernel
theorem dX9_gardenerOf_69 : decode cX9_gardenerOf 69 = .ok (.new 212, 3) := by decide +kernel
theorem dX9_gardenerOf_72 : decode cX9_gardenerOf 72 = .ok (.dup, 1) := by decide +kernel
theorem dX9_gardenerOf_73 : decode cX9_gardenerOf 73 = .ok (.ldc 214, 2) := by decide +kernel
theorem dX9_gardenerOf_75 : decode cX9_gardenerOf 75 = .ok (.invokespecial 216, 3) := by decide +kernel
theorem dX9_gardenerOf_78 : decode cX9_gardenerOf 78 = .ok (.athrow, 1) := by decide +kernel
set_option maxRecDepth 20000 in
theorem ggX9_visitorOf_X9_visitorAsked : GoodIn wsX9_visitorOf wsX9_visitorAsked := goodIn_ca (goodIn_r _ [7, 8, 9, 10, 11, 12, 13, 14, 15, 16, 17, 39, 40, 41, 42, 43, 44, 45, 46, 47, 48, 49, 50, 51, 52, 53, 54, 55, 56, 57] (by decide +kernel) (by decide +kernel)) (goodIn_sub (fun _ h => List.mem_cons_of_mem _ (List.mem_append_right _ h)) (by decide +kernel))
set_option maxRecDepth 20000 in
theorem gX9_visitorOf_X9_visitorAsked : GoodIn wsX9_visitorOf (wsV RX9 217 RX9 yX9_visitorAsked wsX9_visitorAsked) := goodIn_app (goodIn_of _ (by decide +kernel)) ggX9_visitorOf_X9_visitorAsked
set_option maxRecDepth 20000 in
theorem ggX9_visitorOf_X7_numberFor : GoodIn wsX9_visitorOf wsX7_numberFor := goodIn_r _ [22, 23, 24, 25, 26, 27, 28, 29, 30, 31, 32, 33, 21, 34, 35, 36, 37, 38, 58, 59, 60, 61, 62, 63, 64, 65] (by decide +kernel) (by decide +kernel)
set_option maxRecDepth 20000 in
theorem gX9_visitorOf_X7_numberFor : GoodIn wsX9_visitorOf (wsV RX9 223 RX7 yX7_numberFor wsX7_numberFor) := goodIn_app (goodIn_of _ (by decide +kernel)) ggX9_visitorOf_X7_numberFor
theorem dX9_visitorOf_0 : decode cX9_visitorOf 0 = .ok (.aload_n 0, 1) := by decide +kernel
theorem dX9_visitorOf_1 : decode cX9_visitorOf 1 = .ok (.iload_n 1, 1) := by decide +kernel
theorem dX9_visitorOf_2 : decode cX9_visitorOf 2 = .ok (.invokevirtual 217, 3) := by decide +kernel
theorem dX9_visitorOf_5 : decode cX9_visitorOf 5 = .ok (.astore_n 3, 1) := by decide +kernel
theorem dX9_visitorOf_6 : decode cX9_visitorOf 6 = .ok (.iload_n 2, 1) := by decide +kernel
theorem dX9_visitorOf_7 : decode cX9_visitorOf 7 = .ok (.ifCond .lt 9, 3) := by decide +kernel
theorem dX9_visitorOf_10 : decode cX9_visitorOf 10 = .ok (.iload_n 2, 1) := by decide +kernel
theorem dX9_visitorOf_11 : decode cX9_visitorOf 11 = .ok (.bipush 8, 2) := by decide +kernel
theorem dX9_visitorOf_13 : decode cX9_visitorOf 13 = .ok (.if_icmp .le 13, 3) := by decide +kernel
theorem dX9_visitorOf_16 : decode cX9_visitorOf 16 = .ok (.new 212, 3) := by decide +kernel
theorem dX9_visitorOf_19 : decode cX9_visitorOf 19 = .ok (.dup, 1) := by decide +kernel
theorem dX9_visitorOf_20 : decode cX9_visitorOf 20 = .ok (.ldc 221, 2) := by decide +kernel
theorem dX9_visitorOf_22 : decode cX9_visitorOf 22 = .ok (.invokespecial 216, 3) := by decide +kernel
theorem dX9_visitorOf_25 : decode cX9_visitorOf 25 = .ok (.athrow, 1) := by decide +kernel
theorem dX9_visitorOf_26 : decode cX9_visitorOf 26 = .ok (.aload_n 3, 1) := by decide +kernel
theorem dX9_visitorOf_27 : decode cX9_visitorOf 27 = .ok (.iload_n 2, 1) := by decide +kernel
theorem dX9_visitorOf_28 : decode cX9_visitorOf 28 = .ok (.invokevirtual 223, 3) := by decide +kernel
theorem dX9_visitorOf_31 : decode cX9_visitorOf 31 = .ok (.ireturn, 1) := by decide +kernel
set_option maxRecDepth 20000 in
theorem ggX9_wouldPay_X9_visitorAsked : GoodIn wsX9_wouldPay wsX9_visitorAsked := goodIn_ca (goodIn_r _ [13, 14, 15, 3, 16, 17, 18, 19, 20, 21, 22, 90, 91, 92, 93, 94, 95, 96, 97, 98, 99, 112, 113, 114, 115, 116, 117, 118, 119, 120] (by decide +kernel) (by decide +kernel)) (goodIn_sub (fun _ h => List.mem_cons_of_mem _ (List.mem_append_left _ (List.mem_append_right _ h))) (by decide +kernel))
set_option maxRecDepth 20000 in
theorem gX9_wouldPay_X9_visitorAsked : GoodIn wsX9_wouldPay (wsV RX9 217 RX9 yX9_visitorAsked wsX9_visitorAsked) := goodIn_app (goodIn_of _ (by decide +kernel)) ggX9_wouldPay_X9_visitorAsked
set_option maxRecDepth 20000 in
theorem ggX9_wouldPay_X6_findGardener : GoodIn wsX9_wouldPay wsX6_findGardener := goodIn_r _ [26, 27, 28, 112, 113, 114, 115, 116, 117, 118, 119, 120] (by decide +kernel) (by decide +kernel)
set_option maxRecDepth 20000 in
theorem gX9_wouldPay_X6_findGardener : GoodIn wsX9_wouldPay (wsV RX9 231 RX6 yX6_findGardener wsX6_findGardener) := goodIn_app (goodIn_of _ (by decide +kernel)) ggX9_wouldPay_X6_findGardener
set_option maxRecDepth 20000 in
theorem ggX9_wouldPay_X8_hoursByDistance : GoodIn wsX9_wouldPay wsX8_hoursByDistance := goodIn_ca (goodIn_r _ [33, 34, 35, 36, 32, 37, 38, 39, 40, 41, 42, 43, 44, 45, 46, 47, 48, 49, 50, 51, 52, 53, 54, 55, 56, 57, 58, 59, 60, 61, 62, 63, 64, 65, 66, 67, 68, 69, 70, 121, 122, 123, 124] (by decide +kernel) (by decide +kernel)) (goodIn_sub (fun _ h => List.mem_cons_of_mem _ (List.mem_append_right _ h)) (by decide +kernel))
set_option maxRecDepth 20000 in
theorem gX9_wouldPay_X8_hoursByDistance : GoodIn wsX9_wouldPay (wsV RX9 143 RX8 yX8_hoursByDistance wsX8_hoursByDistance) := goodIn_app (goodIn_of _ (by decide +kernel)) ggX9_wouldPay_X8_hoursByDistance
set_option maxRecDepth 20000 in
theorem ggX9_wouldPay_X9_demandWay : GoodIn wsX9_wouldPay wsX9_demandWay := goodIn_ca (goodIn_r _ [73, 1, 2] (by decide +kernel) (by decide +kernel)) (goodIn_sub (fun _ h => List.mem_cons_of_mem _ (List.mem_append_left _ (List.mem_append_left _ (List.mem_append_right _ h)))) (by decide +kernel))
set_option maxRecDepth 20000 in
theorem gX9_wouldPay_X9_demandWay : GoodIn wsX9_wouldPay (va_wsS RX9 146 yX9_demandWay wsX9_demandWay) := goodIn_app (goodIn_of _ (by decide +kernel)) ggX9_wouldPay_X9_demandWay
set_option maxRecDepth 20000 in
theorem ggX9_wouldPay_X7_dueAfter : GoodIn wsX9_wouldPay wsX7_dueAfter := goodIn_r _ [78, 79, 80, 81, 82, 83, 77, 84, 85, 86, 87, 88, 7, 89, 100, 101, 102, 103, 104, 105, 106, 107] (by decide +kernel) (by decide +kernel)
set_option maxRecDepth 20000 in
theorem gX9_wouldPay_X7_dueAfter : GoodIn wsX9_wouldPay (wsV RX9 242 RX7 yX7_dueAfter wsX7_dueAfter) := goodIn_app (goodIn_of _ (by decide +kernel)) ggX9_wouldPay_X7_dueAfter
theorem dX9_wouldPay_0 : decode cX9_wouldPay 0 = .ok (.aload_n 0, 1) := by decide +kernel
theorem dX9_wouldPay_1 : decode cX9_wouldPay 1 = .ok (.iload_n 1, 1) := by decide +kernel
theorem dX9_wouldPay_2 : decode cX9_wouldPay 2 = .ok (.invokevirtual 217, 3) := by decide +kernel
theorem dX9_wouldPay_5 : decode cX9_wouldPay 5 = .ok (.astore_n 2, 1) := by decide +kernel
theorem dX9_wouldPay_6 : decode cX9_wouldPay 6 = .ok (.aload_n 0, 1) := by decide +kernel
theorem dX9_wouldPay_7 : decode cX9_wouldPay 7 = .ok (.getfield 10, 3) := by decide +kernel
theorem dX9_wouldPay_10 : decode cX9_wouldPay 10 = .ok (.aload_n 2, 1) := by decide +kernel
theorem dX9_wouldPay_11 : decode cX9_wouldPay 11 = .ok (.getfield 228, 3) := by decide +kernel
theorem dX9_wouldPay_14 : decode cX9_wouldPay 14 = .ok (.invokevirtual 231, 3) := by decide +kernel
theorem dX9_wouldPay_17 : decode cX9_wouldPay 17 = .ok (.astore_n 3, 1) := by decide +kernel
theorem dX9_wouldPay_18 : decode cX9_wouldPay 18 = .ok (.aload_n 2, 1) := by decide +kernel
theorem dX9_wouldPay_19 : decode cX9_wouldPay 19 = .ok (.getfield 234, 3) := by decide +kernel
theorem dX9_wouldPay_22 : decode cX9_wouldPay 22 = .ok (.ifCond .ne 7, 3) := by decide +kernel
theorem dX9_wouldPay_25 : decode cX9_wouldPay 25 = .ok (.aload_n 3, 1) := by decide +kernel
theorem dX9_wouldPay_26 : decode cX9_wouldPay 26 = .ok (.ifnonnull 13, 3) := by decide +kernel
theorem dX9_wouldPay_29 : decode cX9_wouldPay 29 = .ok (.new 155, 3) := by decide +kernel
theorem dX9_wouldPay_32 : decode cX9_wouldPay 32 = .ok (.dup, 1) := by decide +kernel
theorem dX9_wouldPay_33 : decode cX9_wouldPay 33 = .ok (.ldc 237, 2) := by decide +kernel
theorem dX9_wouldPay_35 : decode cX9_wouldPay 35 = .ok (.invokespecial 159, 3) := by decide +kernel
theorem dX9_wouldPay_38 : decode cX9_wouldPay 38 = .ok (.athrow, 1) := by decide +kernel
theorem dX9_wouldPay_39 : decode cX9_wouldPay 39 = .ok (.aload_n 0, 1) := by decide +kernel
theorem dX9_wouldPay_40 : decode cX9_wouldPay 40 = .ok (.getfield 49, 3) := by decide +kernel
theorem dX9_wouldPay_43 : decode cX9_wouldPay 43 = .ok (.aload_n 2, 1) := by decide +kernel
theorem dX9_wouldPay_44 : decode cX9_wouldPay 44 = .ok (.getfield 239, 3) := by decide +kernel
theorem dX9_wouldPay_47 : decode cX9_wouldPay 47 = .ok (.bipush 15, 2) := by decide +kernel
theorem dX9_wouldPay_49 : decode cX9_wouldPay 49 = .ok (.invokevirtual 143, 3) := by decide +kernel
theorem dX9_wouldPay_52 : decode cX9_wouldPay 52 = .ok (.invokestatic 146, 3) := by decide +kernel
theorem dX9_wouldPay_55 : decode cX9_wouldPay 55 = .ok (.istore 4, 2) := by decide +kernel
theorem dX9_wouldPay_57 : decode cX9_wouldPay 57 = .ok (.aload_n 2, 1) := by decide +kernel
theorem dX9_wouldPay_58 : decode cX9_wouldPay 58 = .ok (.iload 4, 2) := by decide +kernel
theorem dX9_wouldPay_60 : decode cX9_wouldPay 60 = .ok (.invokevirtual 242, 3) := by decide +kernel
theorem dX9_wouldPay_63 : decode cX9_wouldPay 63 = .ok (.aload_n 3, 1) := by decide +kernel
theorem dX9_wouldPay_64 : decode cX9_wouldPay 64 = .ok (.getfield 194, 3) := by decide +kernel
theorem dX9_wouldPay_67 : decode cX9_wouldPay 67 = .ok (.invokestatic 245, 3) := by decide +kernel
theorem dX9_wouldPay_70 : decode cX9_wouldPay 70 = .ok (.ireturn, 1) := by decide +kernel
set_option maxRecDepth 20000 in
theorem ggX9_owed_X9_gardenerAsked : GoodIn wsX9_owed wsX9_gardenerAsked := goodIn_ca (goodIn_r _ [6, 7, 8, 1, 9, 10, 11, 12, 13, 14, 15, 39, 40, 41, 42, 43, 44, 45, 46, 47, 48, 49, 50, 51, 52, 53, 54, 55, 56, 57] (by decide +kernel) (by decide +kernel)) (goodIn_sub (fun _ h => List.mem_cons_of_mem _ (List.mem_append_right _ h)) (by decide +kernel))
set_option maxRecDepth 20000 in
theorem gX9_owed_X9_gardenerAsked : GoodIn wsX9_owed (wsV RX9 190 RX9 yX9_gardenerAsked wsX9_gardenerAsked) := goodIn_app (goodIn_of _ (by decide +kernel)) ggX9_owed_X9_gardenerAsked
set_option maxRecDepth 20000 in
theorem ggX9_owed_X6_debtOf : GoodIn wsX9_owed wsX6_debtOf := goodIn_r _ [19, 20, 21, 22, 23, 24, 25, 26, 27, 28, 29, 30, 31, 32, 33, 34, 35, 36, 37, 38, 49, 50, 51, 52, 53, 54, 55, 56, 57, 58, 59, 60, 61, 62, 63, 64, 65] (by decide +kernel) (by decide +kernel)
set_option maxRecDepth 20000 in
theorem gX9_owed_X6_debtOf : GoodIn wsX9_owed (wsV RX9 248 RX6 yX6_debtOf wsX6_debtOf) := goodIn_app (goodIn_of _ (by decide +kernel)) ggX9_owed_X6_debtOf
theorem dX9_owed_0 : decode cX9_owed 0 = .ok (.aload_n 0, 1) := by decide +kernel
theorem dX9_owed_1 : decode cX9_owed 1 = .ok (.iload_n 1, 1) := by decide +kernel
theorem dX9_owed_2 : decode cX9_owed 2 = .ok (.invokevirtual 190, 3) := by decide +kernel
theorem dX9_owed_5 : decode cX9_owed 5 = .ok (.pop, 1) := by decide +kernel
theorem dX9_owed_6 : decode cX9_owed 6 = .ok (.aload_n 0, 1) := by decide +kernel
theorem dX9_owed_7 : decode cX9_owed 7 = .ok (.getfield 10, 3) := by decide +kernel
theorem dX9_owed_10 : decode cX9_owed 10 = .ok (.iload_n 1, 1) := by decide +kernel
theorem dX9_owed_11 : decode cX9_owed 11 = .ok (.invokevirtual 248, 3) := by decide +kernel
theorem dX9_owed_14 : decode cX9_owed 14 = .ok (.ireturn, 1) := by decide +kernel
set_option maxRecDepth 20000 in
theorem ggX9_gardenerAsked_X6_findGardener : GoodIn wsX9_gardenerAsked wsX6_findGardener := goodIn_r _ [8, 9, 10, 21, 22, 23, 24, 25, 26, 27, 28, 29] (by decide +kernel) (by decide +kernel)
set_option maxRecDepth 20000 in
theorem gX9_gardenerAsked_X6_findGardener : GoodIn wsX9_gardenerAsked (wsV RX9 231 RX6 yX6_findGardener wsX6_findGardener) := goodIn_app (goodIn_of _ (by decide +kernel)) ggX9_gardenerAsked_X6_findGardener
theorem dX9_gardenerAsked_0 : decode cX9_gardenerAsked 0 = .ok (.aload_n 0, 1) := by decide +kernel
theorem dX9_gardenerAsked_1 : decode cX9_gardenerAsked 1 = .ok (.getfield 10, 3) := by decide +kernel
theorem dX9_gardenerAsked_4 : decode cX9_gardenerAsked 4 = .ok (.iload_n 1, 1) := by decide +kernel
theorem dX9_gardenerAsked_5 : decode cX9_gardenerAsked 5 = .ok (.invokevirtual 231, 3) := by decide +kernel
theorem dX9_gardenerAsked_8 : decode cX9_gardenerAsked 8 = .ok (.astore_n 2, 1) := by decide +kernel
theorem dX9_gardenerAsked_9 : decode cX9_gardenerAsked 9 = .ok (.aload_n 2, 1) := by decide +kernel
theorem dX9_gardenerAsked_10 : decode cX9_gardenerAsked 10 = .ok (.ifnonnull 13, 3) := by decide +kernel
theorem dX9_gardenerAsked_13 : decode cX9_gardenerAsked 13 = .ok (.new 181, 3) := by decide +kernel
theorem dX9_gardenerAsked_16 : decode cX9_gardenerAsked 16 = .ok (.dup, 1) := by decide +kernel
theorem dX9_gardenerAsked_17 : decode cX9_gardenerAsked 17 = .ok (.ldc 251, 2) := by decide +kernel
theorem dX9_gardenerAsked_19 : decode cX9_gardenerAsked 19 = .ok (.invokespecial 185, 3) := by decide +kernel
theorem dX9_gardenerAsked_22 : decode cX9_gardenerAsked 22 = .ok (.athrow, 1) := by decide +kernel
theorem dX9_gardenerAsked_23 : decode cX9_gardenerAsked 23 = .ok (.aload_n 2, 1) := by decide +kernel
theorem dX9_gardenerAsked_24 : decode cX9_gardenerAsked 24 = .ok (.areturn, 1) := by decide +kernel
set_option maxRecDepth 20000 in
theorem ggX9_visitorAsked_X6_findVisitor : GoodIn wsX9_visitorAsked wsX6_findVisitor := goodIn_r _ [8, 9, 10, 21, 22, 23, 24, 25, 26, 27, 28, 29] (by decide +kernel) (by decide +kernel)
set_option maxRecDepth 20000 in
theorem gX9_visitorAsked_X6_findVisitor : GoodIn wsX9_visitorAsked (wsV RX9 253 RX6 yX6_findVisitor wsX6_findVisitor) := goodIn_app (goodIn_of _ (by decide +kernel)) ggX9_visitorAsked_X6_findVisitor
theorem dX9_visitorAsked_0 : decode cX9_visitorAsked 0 = .ok (.aload_n 0, 1) := by decide +kernel
theorem dX9_visitorAsked_1 : decode cX9_visitorAsked 1 = .ok (.getfield 10, 3) := by decide +kernel
theorem dX9_visitorAsked_4 : decode cX9_visitorAsked 4 = .ok (.iload_n 1, 1) := by decide +kernel
theorem dX9_visitorAsked_5 : decode cX9_visitorAsked 5 = .ok (.invokevirtual 253, 3) := by decide +kernel
theorem dX9_visitorAsked_8 : decode cX9_visitorAsked 8 = .ok (.astore_n 2, 1) := by decide +kernel
theorem dX9_visitorAsked_9 : decode cX9_visitorAsked 9 = .ok (.aload_n 2, 1) := by decide +kernel
theorem dX9_visitorAsked_10 : decode cX9_visitorAsked 10 = .ok (.ifnonnull 14, 3) := by decide +kernel
theorem dX9_visitorAsked_13 : decode cX9_visitorAsked 13 = .ok (.new 181, 3) := by decide +kernel
theorem dX9_visitorAsked_16 : decode cX9_visitorAsked 16 = .ok (.dup, 1) := by decide +kernel
theorem dX9_visitorAsked_17 : decode cX9_visitorAsked 17 = .ok (.ldc_w 256, 3) := by decide +kernel
theorem dX9_visitorAsked_20 : decode cX9_visitorAsked 20 = .ok (.invokespecial 185, 3) := by decide +kernel
theorem dX9_visitorAsked_23 : decode cX9_visitorAsked 23 = .ok (.athrow, 1) := by decide +kernel
theorem dX9_visitorAsked_24 : decode cX9_visitorAsked 24 = .ok (.aload_n 2, 1) := by decide +kernel
theorem dX9_visitorAsked_25 : decode cX9_visitorAsked 25 = .ok (.areturn, 1) := by decide +kernel
set_option maxRecDepth 20000 in
theorem ggX9_ranked_X9_visitorPlaced : GoodIn wsX9_ranked wsX9_visitorPlaced := goodIn_ca (goodIn_r _ [7, 8, 9, 10, 11, 12, 13, 14, 15, 16, 17, 18, 19, 20, 21, 22, 23, 24, 25, 26, 27, 28, 29, 30, 31, 32, 33, 34, 35, 36, 37, 38, 39, 40, 41, 42, 43, 44, 45, 46, 47, 48, 49, 50, 51, 52, 53, 54, 55, 56, 57, 58, 59, 60, 61, 62, 63, 64, 65, 66, 67, 68, 69] (by decide +kernel) (by decide +kernel)) (goodIn_sub (fun _ h => List.mem_cons_of_mem _ (List.mem_append_right _ h)) (by decide +kernel))
set_option maxRecDepth 20000 in
theorem gX9_ranked_X9_visitorPlaced : GoodIn wsX9_ranked (wsV RX9 258 RX9 yX9_visitorPlaced wsX9_visitorPlaced) := goodIn_app (goodIn_of _ (by decide +kernel)) ggX9_ranked_X9_visitorPlaced
theorem dX9_ranked_0 : decode cX9_ranked 0 = .ok (.iload_n 1, 1) := by decide +kernel
theorem dX9_ranked_1 : decode cX9_ranked 1 = .ok (.tableswitch 60 0 3 #[31, 38, 45, 52], 31) := by decide +kernel
theorem dX9_ranked_32 : decode cX9_ranked 32 = .ok (.aload_n 0, 1) := by decide +kernel
theorem dX9_ranked_33 : decode cX9_ranked 33 = .ok (.iconst 0, 1) := by decide +kernel
theorem dX9_ranked_34 : decode cX9_ranked 34 = .ok (.iload_n 2, 1) := by decide +kernel
theorem dX9_ranked_35 : decode cX9_ranked 35 = .ok (.invokevirtual 258, 3) := by decide +kernel
theorem dX9_ranked_38 : decode cX9_ranked 38 = .ok (.ireturn, 1) := by decide +kernel
theorem dX9_ranked_39 : decode cX9_ranked 39 = .ok (.aload_n 0, 1) := by decide +kernel
theorem dX9_ranked_40 : decode cX9_ranked 40 = .ok (.iconst 2, 1) := by decide +kernel
theorem dX9_ranked_41 : decode cX9_ranked 41 = .ok (.iload_n 2, 1) := by decide +kernel
theorem dX9_ranked_42 : decode cX9_ranked 42 = .ok (.invokevirtual 258, 3) := by decide +kernel
theorem dX9_ranked_45 : decode cX9_ranked 45 = .ok (.ireturn, 1) := by decide +kernel
theorem dX9_ranked_46 : decode cX9_ranked 46 = .ok (.aload_n 0, 1) := by decide +kernel
theorem dX9_ranked_47 : decode cX9_ranked 47 = .ok (.iconst 4, 1) := by decide +kernel
theorem dX9_ranked_48 : decode cX9_ranked 48 = .ok (.iload_n 2, 1) := by decide +kernel
theorem dX9_ranked_49 : decode cX9_ranked 49 = .ok (.invokevirtual 258, 3) := by decide +kernel
theorem dX9_ranked_52 : decode cX9_ranked 52 = .ok (.ireturn, 1) := by decide +kernel
theorem dX9_ranked_53 : decode cX9_ranked 53 = .ok (.aload_n 0, 1) := by decide +kernel
theorem dX9_ranked_54 : decode cX9_ranked 54 = .ok (.bipush 6, 2) := by decide +kernel
theorem dX9_ranked_56 : decode cX9_ranked 56 = .ok (.iload_n 2, 1) := by decide +kernel
theorem dX9_ranked_57 : decode cX9_ranked 57 = .ok (.invokevirtual 258, 3) := by decide +kernel
theorem dX9_ranked_60 : decode cX9_ranked 60 = .ok (.ireturn, 1) := by decide +kernel
theorem dX9_ranked_61 : decode cX9_ranked 61 = .ok (.new 212, 3) := by decide +kernel
theorem dX9_ranked_64 : decode cX9_ranked 64 = .ok (.dup, 1) := by decide +kernel
theorem dX9_ranked_65 : decode cX9_ranked 65 = .ok (.ldc_w 261, 3) := by decide +kernel
theorem dX9_ranked_68 : decode cX9_ranked 68 = .ok (.invokespecial 216, 3) := by decide +kernel
theorem dX9_ranked_71 : decode cX9_ranked 71 = .ok (.athrow, 1) := by decide +kernel
set_option maxRecDepth 20000 in
theorem ggX9_visitorPlaced_X6_visitorsAhead : GoodIn wsX9_visitorPlaced wsX6_visitorsAhead := goodIn_r _ [8, 9, 10, 11, 12, 13, 7, 14, 15, 16, 17, 18, 19, 20, 21, 22, 23, 24, 25, 26, 27, 28, 29, 30, 31, 32, 33, 34, 35, 46, 47, 48, 49, 50, 51, 52, 53, 54, 55, 56, 57, 58, 59, 60, 61, 62] (by decide +kernel) (by decide +kernel)
set_option maxRecDepth 20000 in
theorem gX9_visitorPlaced_X6_visitorsAhead : GoodIn wsX9_visitorPlaced (wsV RX9 266 RX6 yX6_visitorsAhead wsX6_visitorsAhead) := goodIn_app (goodIn_of _ (by decide +kernel)) ggX9_visitorPlaced_X6_visitorsAhead
theorem dX9_visitorPlaced_0 : decode cX9_visitorPlaced 0 = .ok (.iconst 0, 1) := by decide +kernel
theorem dX9_visitorPlaced_1 : decode cX9_visitorPlaced 1 = .ok (.istore_n 3, 1) := by decide +kernel
theorem dX9_visitorPlaced_2 : decode cX9_visitorPlaced 2 = .ok (.iload_n 3, 1) := by decide +kernel
theorem dX9_visitorPlaced_3 : decode cX9_visitorPlaced 3 = .ok (.aload_n 0, 1) := by decide +kernel
theorem dX9_visitorPlaced_4 : decode cX9_visitorPlaced 4 = .ok (.getfield 10, 3) := by decide +kernel
theorem dX9_visitorPlaced_7 : decode cX9_visitorPlaced 7 = .ok (.getfield 263, 3) := by decide +kernel
theorem dX9_visitorPlaced_10 : decode cX9_visitorPlaced 10 = .ok (.if_icmp .ge 24, 3) := by decide +kernel
theorem dX9_visitorPlaced_13 : decode cX9_visitorPlaced 13 = .ok (.aload_n 0, 1) := by decide +kernel
theorem dX9_visitorPlaced_14 : decode cX9_visitorPlaced 14 = .ok (.getfield 10, 3) := by decide +kernel
theorem dX9_visitorPlaced_17 : decode cX9_visitorPlaced 17 = .ok (.iload_n 3, 1) := by decide +kernel
theorem dX9_visitorPlaced_18 : decode cX9_visitorPlaced 18 = .ok (.iload_n 1, 1) := by decide +kernel
theorem dX9_visitorPlaced_19 : decode cX9_visitorPlaced 19 = .ok (.invokevirtual 266, 3) := by decide +kernel
theorem dX9_visitorPlaced_22 : decode cX9_visitorPlaced 22 = .ok (.iload_n 2, 1) := by decide +kernel
theorem dX9_visitorPlaced_23 : decode cX9_visitorPlaced 23 = .ok (.if_icmp .ne 5, 3) := by decide +kernel
theorem dX9_visitorPlaced_26 : decode cX9_visitorPlaced 26 = .ok (.iload_n 3, 1) := by decide +kernel
theorem dX9_visitorPlaced_27 : decode cX9_visitorPlaced 27 = .ok (.ireturn, 1) := by decide +kernel
theorem dX9_visitorPlaced_28 : decode cX9_visitorPlaced 28 = .ok (.iinc 3 1, 3) := by decide +kernel
theorem dX9_visitorPlaced_31 : decode cX9_visitorPlaced 31 = .ok (.goto (-29), 3) := by decide +kernel
theorem dX9_visitorPlaced_34 : decode cX9_visitorPlaced 34 = .ok (.new 155, 3) := by decide +kernel
theorem dX9_visitorPlaced_37 : decode cX9_visitorPlaced 37 = .ok (.dup, 1) := by decide +kernel
theorem dX9_visitorPlaced_38 : decode cX9_visitorPlaced 38 = .ok (.ldc_w 269, 3) := by decide +kernel
theorem dX9_visitorPlaced_41 : decode cX9_visitorPlaced 41 = .ok (.invokespecial 159, 3) := by decide +kernel
theorem dX9_visitorPlaced_44 : decode cX9_visitorPlaced 44 = .ok (.athrow, 1) := by decide +kernel
set_option maxRecDepth 20000 in
theorem ggX9_richest_X6_gardenersAhead : GoodIn wsX9_richest wsX6_gardenersAhead := goodIn_r _ [8, 9, 10, 11, 12, 7, 13, 14, 15, 16, 17, 18, 19, 20, 21, 22, 23, 24, 25, 26, 27, 28, 29, 30, 31, 32, 33, 34, 35, 36, 37, 38, 39, 40, 41, 52, 53, 54, 55, 56, 57, 58, 59, 60, 61, 62, 63, 64, 65, 66, 67, 68, 69, 70, 71, 72] (by decide +kernel) (by decide +kernel)
set_option maxRecDepth 20000 in
theorem gX9_richest_X6_gardenersAhead : GoodIn wsX9_richest (wsV RX9 274 RX6 yX6_gardenersAhead wsX6_gardenersAhead) := goodIn_app (goodIn_of _ (by decide +kernel)) ggX9_richest_X6_gardenersAhead
theorem dX9_richest_0 : decode cX9_richest 0 = .ok (.iconst 0, 1) := by decide +kernel
theorem dX9_richest_1 : decode cX9_richest 1 = .ok (.istore_n 2, 1) := by decide +kernel
theorem dX9_richest_2 : decode cX9_richest 2 = .ok (.iload_n 2, 1) := by decide +kernel
theorem dX9_richest_3 : decode cX9_richest 3 = .ok (.aload_n 0, 1) := by decide +kernel
theorem dX9_richest_4 : decode cX9_richest 4 = .ok (.getfield 10, 3) := by decide +kernel
theorem dX9_richest_7 : decode cX9_richest 7 = .ok (.getfield 271, 3) := by decide +kernel
theorem dX9_richest_10 : decode cX9_richest 10 = .ok (.if_icmp .ge 23, 3) := by decide +kernel
theorem dX9_richest_13 : decode cX9_richest 13 = .ok (.aload_n 0, 1) := by decide +kernel
theorem dX9_richest_14 : decode cX9_richest 14 = .ok (.getfield 10, 3) := by decide +kernel
theorem dX9_richest_17 : decode cX9_richest 17 = .ok (.iload_n 2, 1) := by decide +kernel
theorem dX9_richest_18 : decode cX9_richest 18 = .ok (.invokevirtual 274, 3) := by decide +kernel
theorem dX9_richest_21 : decode cX9_richest 21 = .ok (.iload_n 1, 1) := by decide +kernel
theorem dX9_richest_22 : decode cX9_richest 22 = .ok (.if_icmp .ne 5, 3) := by decide +kernel
theorem dX9_richest_25 : decode cX9_richest 25 = .ok (.iload_n 2, 1) := by decide +kernel
theorem dX9_richest_26 : decode cX9_richest 26 = .ok (.ireturn, 1) := by decide +kernel
theorem dX9_richest_27 : decode cX9_richest 27 = .ok (.iinc 2 1, 3) := by decide +kernel
theorem dX9_richest_30 : decode cX9_richest 30 = .ok (.goto (-28), 3) := by decide +kernel
theorem dX9_richest_33 : decode cX9_richest 33 = .ok (.new 155, 3) := by decide +kernel
theorem dX9_richest_36 : decode cX9_richest 36 = .ok (.dup, 1) := by decide +kernel
theorem dX9_richest_37 : decode cX9_richest 37 = .ok (.ldc_w 269, 3) := by decide +kernel
theorem dX9_richest_40 : decode cX9_richest 40 = .ok (.invokespecial 159, 3) := by decide +kernel
theorem dX9_richest_43 : decode cX9_richest 43 = .ok (.athrow, 1) := by decide +kernel
set_option maxRecDepth 20000 in
theorem ggX9_append_X0_add : GoodIn wsX9_append wsX0_add := goodIn_ca (goodIn_r _ [8, 9, 10, 21, 22, 23, 24, 25, 26, 27, 28] (by decide +kernel) (by decide +kernel)) (goodIn_sub (fun _ h => List.mem_cons_of_mem _ (List.mem_append_right _ h)) (by decide +kernel))
set_option maxRecDepth 20000 in
theorem gX9_append_X0_add : GoodIn wsX9_append (wsV RX9 285 RX0 yX0_add wsX0_add) := goodIn_app (goodIn_of _ (by decide +kernel)) ggX9_append_X0_add
theorem dX9_append_0 : decode cX9_append 0 = .ok (.aload_n 0, 1) := by decide +kernel
theorem dX9_append_1 : decode cX9_append 1 = .ok (.getfield 65, 3) := by decide +kernel
theorem dX9_append_4 : decode cX9_append 4 = .ok (.getfield 277, 3) := by decide +kernel
theorem dX9_append_7 : decode cX9_append 7 = .ok (.bipush 60, 2) := by decide +kernel
theorem dX9_append_9 : decode cX9_append 9 = .ok (.if_icmp .lt 14, 3) := by decide +kernel
theorem dX9_append_12 : decode cX9_append 12 = .ok (.new 280, 3) := by decide +kernel
theorem dX9_append_15 : decode cX9_append 15 = .ok (.dup, 1) := by decide +kernel
theorem dX9_append_16 : decode cX9_append 16 = .ok (.ldc_w 282, 3) := by decide +kernel
theorem dX9_append_19 : decode cX9_append 19 = .ok (.invokespecial 284, 3) := by decide +kernel
theorem dX9_append_22 : decode cX9_append 22 = .ok (.athrow, 1) := by decide +kernel
theorem dX9_append_23 : decode cX9_append 23 = .ok (.aload_n 0, 1) := by decide +kernel
theorem dX9_append_24 : decode cX9_append 24 = .ok (.getfield 65, 3) := by decide +kernel
theorem dX9_append_27 : decode cX9_append 27 = .ok (.iload_n 1, 1) := by decide +kernel
theorem dX9_append_28 : decode cX9_append 28 = .ok (.invokevirtual 285, 3) := by decide +kernel
theorem dX9_append_31 : decode cX9_append 31 = .ok (.aload_n 0, 1) := by decide +kernel
theorem dX9_append_32 : decode cX9_append 32 = .ok (.getfield 65, 3) := by decide +kernel
theorem dX9_append_35 : decode cX9_append 35 = .ok (.getfield 277, 3) := by decide +kernel
theorem dX9_append_38 : decode cX9_append 38 = .ok (.ireturn, 1) := by decide +kernel
set_option maxRecDepth 20000 in
theorem ggX9_commands_X0_takeCommands : GoodIn wsX9_commands wsX0_takeCommands := goodIn_ca (goodIn_r _ [14, 15, 16, 17, 18, 19, 20, 21, 13, 22, 23, 24, 25, 26, 27, 28, 29, 30, 31, 32, 33, 34, 35, 36, 37, 38, 39, 40, 41, 42, 43, 44, 45, 46, 47, 48, 49, 50, 51, 52, 53, 54, 55, 56, 57, 58, 59, 60, 61, 62, 63, 64, 65, 66, 67, 68, 69, 70, 71, 72, 73, 74, 75, 76, 77, 78, 79, 80, 81, 82, 83, 84, 85, 86, 87, 88, 89, 90, 91, 92, 93, 94, 95, 96, 97, 98, 99, 100, 101, 102, 389, 390, 391, 392, 393, 394, 395, 396, 400, 401, 402, 403] (by decide +kernel) (by decide +kernel)) (goodIn_sub (fun _ h => List.mem_cons_of_mem _ (List.mem_append_right _ h)) (by decide +kernel))
set_option maxRecDepth 20000 in
theorem gX9_commands_X0_takeCommands : GoodIn wsX9_commands (wsV RX9 289 RX0 yX0_takeCommands wsX0_takeCommands) := goodIn_app (goodIn_of _ (by decide +kernel)) ggX9_commands_X0_takeCommands
set_option maxRecDepth 20000 in
theorem ggX9_commands_X6_copyFrom : GoodIn wsX9_commands wsX6_copyFrom := goodIn_r _ [107, 108, 109, 110, 111, 112, 113, 114, 115, 116, 117, 118, 119, 120, 121, 122, 123, 124, 125, 126, 127, 128, 129, 130, 131, 132, 133, 134, 135, 136, 137, 138, 139, 140, 141, 142, 143, 144, 145, 146, 147, 148, 404, 405, 406, 407, 408, 409, 410, 411, 412, 413, 414, 415, 416, 417, 418, 419, 420, 421, 422, 423, 424, 425] (by decide +kernel) (by decide +kernel)
set_option maxRecDepth 20000 in
theorem gX9_commands_X6_copyFrom : GoodIn wsX9_commands (wsV RX9 76 RX6 yX6_copyFrom wsX6_copyFrom) := goodIn_app (goodIn_of _ (by decide +kernel)) ggX9_commands_X6_copyFrom
set_option maxRecDepth 20000 in
theorem ggX9_commands_X3_carryOut : GoodIn wsX9_commands wsX3_carryOut := goodIn_ca (goodIn_r _ [153, 154, 155, 156, 13, 157, 16, 94, 158, 159, 160, 161, 24, 162, 163, 164, 152, 165, 166, 167, 168, 169, 170, 171, 172, 173, 174, 175, 176, 177, 178, 179, 180, 181, 182, 183, 184, 185, 120, 186, 187, 188, 189, 190, 191, 192, 193, 194, 195, 196, 197, 198, 199, 122, 200, 201, 202, 203, 204, 205, 206, 207, 208, 209, 210, 211, 212, 213, 214, 215, 216, 217, 218, 219, 220, 221, 222, 223, 224, 225, 226, 227, 106, 228, 111, 109, 229, 230, 231, 232, 233, 234, 235, 236, 237, 238, 239, 139, 240, 148, 142, 241, 242, 243, 244, 147, 245, 246, 247, 248, 145, 249, 250, 251, 252, 112, 110, 253, 254, 255, 256, 257, 258, 259, 260, 130, 261, 132, 133, 134, 135, 262, 263, 264, 265, 266, 267, 268, 269, 270, 271, 272, 273, 274, 275, 276, 277, 278, 279, 280, 281, 282, 283, 284, 285, 286, 287, 288, 289, 290, 291, 292, 293, 294, 295, 296, 297, 298, 299, 300, 301, 302, 303, 304, 305, 306, 307, 308, 309, 310, 311, 312, 313, 314, 315, 316, 317, 318, 141, 143, 144, 319, 320, 321, 322, 146, 323, 324, 325, 326, 327, 328, 329, 330, 331, 332, 333, 334, 335, 336, 337, 338, 339, 340, 341, 342, 343, 344, 345, 346, 347, 348, 349, 350, 351, 352, 353, 354, 355, 356, 357, 358, 359, 360, 361, 362, 389, 390, 391, 392, 393, 394, 395, 396, 426, 427, 428, 404, 405, 406, 407, 408, 409, 410, 411, 412, 397, 398, 399, 413, 414, 415, 416, 417, 418, 419, 420, 421, 422, 423, 424, 425, 429, 430, 431] (by decide +kernel) (by decide +kernel)) (goodIn_sub (fun _ h => List.mem_cons_of_mem _ (List.mem_append_right _ h)) (by decide +kernel))
set_option maxRecDepth 20000 in
theorem gX9_commands_X3_carryOut : GoodIn wsX9_commands (wsV RX9 298 RX3 yX3_carryOut wsX3_carryOut) := goodIn_app (goodIn_of _ (by decide +kernel)) ggX9_commands_X3_carryOut
set_option maxRecDepth 20000 in
theorem ggX9_commands_X9_settled : GoodIn wsX9_commands wsX9_settled := goodIn_ca (goodIn_r _ [367, 3, 4, 368, 6, 369, 370, 371, 372, 373, 374, 375, 376, 377, 191, 182, 192, 378, 104, 105, 106, 107, 108, 109, 110, 111, 112, 113, 114, 115, 116, 117, 118, 119, 120, 121, 122, 123, 124, 125, 126, 127, 128, 129, 130, 131, 132, 133, 134, 135, 136, 137, 138, 139, 140, 141, 142, 143, 144, 145, 146, 147, 148, 379, 380, 381, 382, 383, 384, 385, 386, 387, 388, 432, 433, 434, 404, 405, 406, 407, 408, 409, 410, 411, 412, 413, 414, 415, 416, 417, 418, 419, 420, 421, 422, 423, 424, 425] (by decide +kernel) (by decide +kernel)) (goodIn_sub (fun _ h => List.mem_cons_of_mem _ (List.mem_append_left _ (List.mem_append_right _ h))) (by decide +kernel))
set_option maxRecDepth 20000 in
theorem gX9_commands_X9_settled : GoodIn wsX9_commands (wsV RX9 84 RX9 yX9_settled wsX9_settled) := goodIn_app (goodIn_of _ (by decide +kernel)) ggX9_commands_X9_settled
theorem dX9_commands_0 : decode cX9_commands 0 = .ok (.aload_n 0, 1) := by decide +kernel
theorem dX9_commands_1 : decode cX9_commands 1 = .ok (.getfield 65, 3) := by decide +kernel
theorem dX9_commands_4 : decode cX9_commands 4 = .ok (.invokevirtual 289, 3) := by decide +kernel
theorem dX9_commands_7 : decode cX9_commands 7 = .ok (.ifCond .ne 14, 3) := by decide +kernel
theorem dX9_commands_10 : decode cX9_commands 10 = .ok (.new 212, 3) := by decide +kernel
theorem dX9_commands_13 : decode cX9_commands 13 = .ok (.dup, 1) := by decide +kernel
theorem dX9_commands_14 : decode cX9_commands 14 = .ok (.ldc_w 293, 3) := by decide +kernel
theorem dX9_commands_17 : decode cX9_commands 17 = .ok (.invokespecial 216, 3) := by decide +kernel
theorem dX9_commands_20 : decode cX9_commands 20 = .ok (.athrow, 1) := by decide +kernel
theorem dX9_commands_21 : decode cX9_commands 21 = .ok (.aload_n 0, 1) := by decide +kernel
theorem dX9_commands_22 : decode cX9_commands 22 = .ok (.getfield 16, 3) := by decide +kernel
theorem dX9_commands_25 : decode cX9_commands 25 = .ok (.aload_n 0, 1) := by decide +kernel
theorem dX9_commands_26 : decode cX9_commands 26 = .ok (.getfield 10, 3) := by decide +kernel
theorem dX9_commands_29 : decode cX9_commands 29 = .ok (.invokevirtual 76, 3) := by decide +kernel
theorem dX9_commands_32 : decode cX9_commands 32 = .ok (.iconst 0, 1) := by decide +kernel
theorem dX9_commands_33 : decode cX9_commands 33 = .ok (.istore_n 1, 1) := by decide +kernel
theorem dX9_commands_34 : decode cX9_commands 34 = .ok (.iload_n 1, 1) := by decide +kernel
theorem dX9_commands_35 : decode cX9_commands 35 = .ok (.aload_n 0, 1) := by decide +kernel
theorem dX9_commands_36 : decode cX9_commands 36 = .ok (.getfield 65, 3) := by decide +kernel
theorem dX9_commands_39 : decode cX9_commands 39 = .ok (.getfield 295, 3) := by decide +kernel
theorem dX9_commands_42 : decode cX9_commands 42 = .ok (.if_icmp .ge 55, 3) := by decide +kernel
theorem dX9_commands_45 : decode cX9_commands 45 = .ok (.aload_n 0, 1) := by decide +kernel
theorem dX9_commands_46 : decode cX9_commands 46 = .ok (.getfield 58, 3) := by decide +kernel
theorem dX9_commands_49 : decode cX9_commands 49 = .ok (.aload_n 0, 1) := by decide +kernel
theorem dX9_commands_50 : decode cX9_commands 50 = .ok (.getfield 65, 3) := by decide +kernel
theorem dX9_commands_53 : decode cX9_commands 53 = .ok (.iload_n 1, 1) := by decide +kernel
theorem dX9_commands_54 : decode cX9_commands 54 = .ok (.invokevirtual 298, 3) := by decide +kernel
theorem dX9_commands_57 : decode cX9_commands 57 = .ok (.iconst (-1), 1) := by decide +kernel
theorem dX9_commands_58 : decode cX9_commands 58 = .ok (.if_icmp .ne 33, 3) := by decide +kernel
theorem dX9_commands_61 : decode cX9_commands 61 = .ok (.aload_n 0, 1) := by decide +kernel
theorem dX9_commands_62 : decode cX9_commands 62 = .ok (.getfield 36, 3) := by decide +kernel
theorem dX9_commands_65 : decode cX9_commands 65 = .ok (.iload_n 1, 1) := by decide +kernel
theorem dX9_commands_66 : decode cX9_commands 66 = .ok (.putfield 302, 3) := by decide +kernel
theorem dX9_commands_69 : decode cX9_commands 69 = .ok (.aload_n 0, 1) := by decide +kernel
theorem dX9_commands_70 : decode cX9_commands 70 = .ok (.getfield 10, 3) := by decide +kernel
theorem dX9_commands_73 : decode cX9_commands 73 = .ok (.aload_n 0, 1) := by decide +kernel
theorem dX9_commands_74 : decode cX9_commands 74 = .ok (.getfield 16, 3) := by decide +kernel
theorem dX9_commands_77 : decode cX9_commands 77 = .ok (.invokevirtual 76, 3) := by decide +kernel
theorem dX9_commands_80 : decode cX9_commands 80 = .ok (.new 114, 3) := by decide +kernel
theorem dX9_commands_83 : decode cX9_commands 83 = .ok (.dup, 1) := by decide +kernel
theorem dX9_commands_84 : decode cX9_commands 84 = .ok (.ldc_w 305, 3) := by decide +kernel
theorem dX9_commands_87 : decode cX9_commands 87 = .ok (.invokespecial 118, 3) := by decide +kernel
theorem dX9_commands_90 : decode cX9_commands 90 = .ok (.athrow, 1) := by decide +kernel
theorem dX9_commands_91 : decode cX9_commands 91 = .ok (.iinc 1 1, 3) := by decide +kernel
theorem dX9_commands_94 : decode cX9_commands 94 = .ok (.goto (-60), 3) := by decide +kernel
theorem dX9_commands_97 : decode cX9_commands 97 = .ok (.aload_n 0, 1) := by decide +kernel
theorem dX9_commands_98 : decode cX9_commands 98 = .ok (.aload_n 0, 1) := by decide +kernel
theorem dX9_commands_99 : decode cX9_commands 99 = .ok (.getfield 65, 3) := by decide +kernel
theorem dX9_commands_102 : decode cX9_commands 102 = .ok (.getfield 295, 3) := by decide +kernel
theorem dX9_commands_105 : decode cX9_commands 105 = .ok (.invokevirtual 84, 3) := by decide +kernel
theorem dX9_commands_108 : decode cX9_commands 108 = .ok (.ireturn, 1) := by decide +kernel
theorem dX9_faultPosition_0 : decode cX9_faultPosition 0 = .ok (.aload_n 0, 1) := by decide +kernel
theorem dX9_faultPosition_1 : decode cX9_faultPosition 1 = .ok (.getfield 65, 3) := by decide +kernel
theorem dX9_faultPosition_4 : decode cX9_faultPosition 4 = .ok (.getfield 307, 3) := by decide +kernel
theorem dX9_faultPosition_7 : decode cX9_faultPosition 7 = .ok (.ireturn, 1) := by decide +kernel
theorem dX9_reason_0 : decode cX9_reason 0 = .ok (.iload_n 1, 1) := by decide +kernel
theorem dX9_reason_1 : decode cX9_reason 1 = .ok (.ifCond .lt 8, 3) := by decide +kernel
theorem dX9_reason_4 : decode cX9_reason 4 = .ok (.iload_n 1, 1) := by decide +kernel
theorem dX9_reason_5 : decode cX9_reason 5 = .ok (.iconst 2, 1) := by decide +kernel
theorem dX9_reason_6 : decode cX9_reason 6 = .ok (.if_icmp .le 14, 3) := by decide +kernel
theorem dX9_reason_9 : decode cX9_reason 9 = .ok (.new 212, 3) := by decide +kernel
theorem dX9_reason_12 : decode cX9_reason 12 = .ok (.dup, 1) := by decide +kernel
theorem dX9_reason_13 : decode cX9_reason 13 = .ok (.ldc_w 310, 3) := by decide +kernel
theorem dX9_reason_16 : decode cX9_reason 16 = .ok (.invokespecial 216, 3) := by decide +kernel
theorem dX9_reason_19 : decode cX9_reason 19 = .ok (.athrow, 1) := by decide +kernel
theorem dX9_reason_20 : decode cX9_reason 20 = .ok (.aload_n 0, 1) := by decide +kernel
theorem dX9_reason_21 : decode cX9_reason 21 = .ok (.getfield 36, 3) := by decide +kernel
theorem dX9_reason_24 : decode cX9_reason 24 = .ok (.getfield 312, 3) := by decide +kernel
theorem dX9_reason_27 : decode cX9_reason 27 = .ok (.ifCond .ne 14, 3) := by decide +kernel
theorem dX9_reason_30 : decode cX9_reason 30 = .ok (.new 155, 3) := by decide +kernel
theorem dX9_reason_33 : decode cX9_reason 33 = .ok (.dup, 1) := by decide +kernel
theorem dX9_reason_34 : decode cX9_reason 34 = .ok (.ldc_w 315, 3) := by decide +kernel
theorem dX9_reason_37 : decode cX9_reason 37 = .ok (.invokespecial 159, 3) := by decide +kernel
theorem dX9_reason_40 : decode cX9_reason 40 = .ok (.athrow, 1) := by decide +kernel
theorem dX9_reason_41 : decode cX9_reason 41 = .ok (.iload_n 1, 1) := by decide +kernel
theorem dX9_reason_42 : decode cX9_reason 42 = .ok (.ifCond .ne 11, 3) := by decide +kernel
theorem dX9_reason_45 : decode cX9_reason 45 = .ok (.aload_n 0, 1) := by decide +kernel
theorem dX9_reason_46 : decode cX9_reason 46 = .ok (.getfield 36, 3) := by decide +kernel
theorem dX9_reason_49 : decode cX9_reason 49 = .ok (.getfield 312, 3) := by decide +kernel
theorem dX9_reason_52 : decode cX9_reason 52 = .ok (.ireturn, 1) := by decide +kernel
theorem dX9_reason_53 : decode cX9_reason 53 = .ok (.iload_n 1, 1) := by decide +kernel
theorem dX9_reason_54 : decode cX9_reason 54 = .ok (.iconst 1, 1) := by decide +kernel
theorem dX9_reason_55 : decode cX9_reason 55 = .ok (.if_icmp .ne 13, 3) := by decide +kernel
theorem dX9_reason_58 : decode cX9_reason 58 = .ok (.aload_n 0, 1) := by decide +kernel
theorem dX9_reason_59 : decode cX9_reason 59 = .ok (.getfield 36, 3) := by decide +kernel
theorem dX9_reason_62 : decode cX9_reason 62 = .ok (.getfield 317, 3) := by decide +kernel
theorem dX9_reason_65 : decode cX9_reason 65 = .ok (.goto 10, 3) := by decide +kernel
theorem dX9_reason_68 : decode cX9_reason 68 = .ok (.aload_n 0, 1) := by decide +kernel
theorem dX9_reason_69 : decode cX9_reason 69 = .ok (.getfield 36, 3) := by decide +kernel
theorem dX9_reason_72 : decode cX9_reason 72 = .ok (.getfield 302, 3) := by decide +kernel
theorem dX9_reason_75 : decode cX9_reason 75 = .ok (.ireturn, 1) := by decide +kernel
set_option maxRecDepth 20000 in
theorem ggX9_line_X9_visitorAsked : GoodIn wsX9_line wsX9_visitorAsked := goodIn_ca (goodIn_r _ [6, 7, 8, 9, 10, 11, 12, 13, 14, 15, 16, 256, 257, 258, 259, 260, 261, 262, 263, 264, 265, 274, 275, 276, 277, 278, 279, 280, 281, 282] (by decide +kernel) (by decide +kernel)) (goodIn_sub (fun _ h => List.mem_cons_of_mem _ (List.mem_append_right _ h)) (by decide +kernel))
set_option maxRecDepth 20000 in
theorem gX9_line_X9_visitorAsked : GoodIn wsX9_line (wsV RX9 217 RX9 yX9_visitorAsked wsX9_visitorAsked) := goodIn_app (goodIn_of _ (by decide +kernel)) ggX9_line_X9_visitorAsked
set_option maxRecDepth 20000 in
theorem ggX9_line_J4_setLength_d00df : GoodIn wsX9_line wsJ4_setLength_d00df := goodIn_r _ [21, 22, 23, 24, 25, 26, 27, 28, 29, 30, 31, 32, 33, 34, 35, 36, 37, 38, 39, 40, 41, 42, 43, 44, 45, 46, 47, 48, 49, 50, 51, 52, 53, 54, 55, 56, 57, 58, 59, 60, 61, 62, 63, 64, 65, 66, 67, 68, 69, 70, 71, 72, 73, 74, 75, 76, 77, 78, 79, 80, 81, 82, 83, 84, 85, 86, 87, 88, 89, 90, 91, 92, 93, 20, 94, 95, 96, 97, 98, 99, 100, 101, 283, 284, 285, 286, 287, 288, 289, 290, 291, 292, 293, 294, 295, 296, 297, 298] (by decide +kernel) (by decide +kernel)
set_option maxRecDepth 20000 in
theorem gX9_line_J4_setLength_d00df : GoodIn wsX9_line (wsV RX9 320 RJ4 yJ4_setLength_d00df wsJ4_setLength_d00df) := goodIn_app (goodIn_of _ (by decide +kernel)) ggX9_line_J4_setLength_d00df
set_option maxRecDepth 20000 in
theorem ggX9_line_J4_append_15ec4 : GoodIn wsX9_line wsJ4_append_15ec4 := goodIn_r _ [105, 106, 107, 24, 108, 26, 109, 31, 110, 111, 112, 113, 114, 32, 34, 35, 36, 37, 38, 39, 40, 41, 42, 43, 44, 45, 46, 47, 48, 49, 50, 51, 52, 53, 54, 55, 56, 57, 58, 59, 60, 61, 62, 63, 64, 65, 66, 67, 68, 69, 70, 71, 72, 73, 74, 75, 76, 77, 78, 79, 80, 81, 115, 116, 99, 117, 118, 119, 120, 121, 122, 123, 124, 125, 126, 127, 128, 129, 130, 131, 132, 133, 134, 135, 136, 137, 138, 139, 140, 141, 142, 143, 144, 145, 146, 147, 148, 149, 150, 151, 152, 153, 154, 155, 156, 157, 158, 159, 160, 161, 162, 163, 164, 165, 166, 167, 168, 169, 170, 171, 172, 173, 174, 84, 175, 176, 177, 178, 179, 180, 181, 182, 183, 184, 185, 186, 187, 188, 189, 190, 191, 192, 193, 289, 290, 291, 292, 299, 300, 301, 302] (by decide +kernel) (by decide +kernel)
set_option maxRecDepth 20000 in
theorem gX9_line_J4_append_15ec4 : GoodIn wsX9_line (wsV RX9 326 RJ4 yJ4_append_15ec4 wsJ4_append_15ec4) := goodIn_app (goodIn_of _ (by decide +kernel)) ggX9_line_J4_append_15ec4
set_option maxRecDepth 20000 in
theorem ggX9_line_J4_append_bf812 : GoodIn wsX9_line wsJ4_append_bf812 := goodIn_r _ [197, 198, 199, 24, 200, 26, 201, 31, 32, 202, 203, 204, 205, 34, 35, 36, 37, 38, 39, 40, 41, 42, 43, 44, 45, 46, 47, 48, 49, 50, 51, 52, 53, 54, 55, 56, 57, 58, 59, 60, 61, 62, 63, 64, 65, 66, 67, 68, 69, 70, 71, 72, 73, 74, 75, 76, 77, 78, 79, 80, 81, 206, 207, 208, 209, 210, 211, 212, 99, 213, 118, 119, 120, 121, 122, 123, 124, 125, 126, 127, 128, 129, 130, 131, 132, 133, 214, 215, 216, 217, 218, 134, 135, 136, 137, 138, 289, 290, 291, 292] (by decide +kernel) (by decide +kernel)
set_option maxRecDepth 20000 in
theorem gX9_line_J4_append_bf812 : GoodIn wsX9_line (wsV RX9 330 RJ4 yJ4_append_bf812 wsJ4_append_bf812) := goodIn_app (goodIn_of _ (by decide +kernel)) ggX9_line_J4_append_bf812
set_option maxRecDepth 20000 in
theorem ggX9_line_J4_append_cf468 : GoodIn wsX9_line wsJ4_append_cf468 := goodIn_r _ [222, 223, 224, 24, 225, 26, 226, 31, 32, 34, 35, 36, 37, 38, 39, 40, 41, 42, 43, 44, 45, 46, 47, 48, 49, 50, 51, 52, 53, 54, 55, 56, 57, 58, 59, 60, 61, 62, 63, 64, 65, 66, 67, 68, 69, 70, 71, 72, 73, 74, 75, 76, 77, 78, 79, 80, 81, 227, 228, 84, 229, 161, 162, 163, 164, 165, 166, 167, 99, 168, 169, 170, 171, 172, 173, 174, 175, 176, 177, 178, 179, 180, 181, 122, 123, 124, 182, 183, 127, 184, 129, 185, 186, 132, 187, 134, 135, 136, 118, 137, 138, 230, 231, 232, 233, 234, 235, 236, 237, 238, 239, 240, 241, 289, 290, 291, 292] (by decide +kernel) (by decide +kernel)
set_option maxRecDepth 20000 in
theorem gX9_line_J4_append_cf468 : GoodIn wsX9_line (wsV RX9 333 RJ4 yJ4_append_cf468 wsJ4_append_cf468) := goodIn_app (goodIn_of _ (by decide +kernel)) ggX9_line_J4_append_cf468
set_option maxRecDepth 20000 in
theorem ggX9_line_X7_hasBond : GoodIn wsX9_line wsX7_hasBond := goodIn_r _ [246, 247, 266, 267, 268, 269, 270, 271, 272, 273] (by decide +kernel) (by decide +kernel)
set_option maxRecDepth 20000 in
theorem gX9_line_X7_hasBond : GoodIn wsX9_line (wsV RX9 339 RX7 yX7_hasBond wsX7_hasBond) := goodIn_app (goodIn_of _ (by decide +kernel)) ggX9_line_X7_hasBond
set_option maxRecDepth 20000 in
theorem ggX9_line_J4_length_8abf5 : GoodIn wsX9_line wsJ4_length_8abf5 := goodIn_r _ [251, 252, 253, 24, 254, 26, 255, 31, 289, 290, 291, 292] (by decide +kernel) (by decide +kernel)
set_option maxRecDepth 20000 in
theorem gX9_line_J4_length_8abf5 : GoodIn wsX9_line (wsV RX9 348 RJ4 yJ4_length_8abf5 wsJ4_length_8abf5) := goodIn_app (goodIn_of _ (by decide +kernel)) ggX9_line_J4_length_8abf5
theorem dX9_line_0 : decode cX9_line 0 = .ok (.aload_n 0, 1) := by decide +kernel
theorem dX9_line_1 : decode cX9_line 1 = .ok (.iload_n 1, 1) := by decide +kernel
theorem dX9_line_2 : decode cX9_line 2 = .ok (.invokevirtual 217, 3) := by decide +kernel
theorem dX9_line_5 : decode cX9_line 5 = .ok (.astore_n 2, 1) := by decide +kernel
theorem dX9_line_6 : decode cX9_line 6 = .ok (.aload_n 0, 1) := by decide +kernel
theorem dX9_line_7 : decode cX9_line 7 = .ok (.getfield 72, 3) := by decide +kernel
theorem dX9_line_10 : decode cX9_line 10 = .ok (.iconst 0, 1) := by decide +kernel
theorem dX9_line_11 : decode cX9_line 11 = .ok (.invokevirtual 320, 3) := by decide +kernel
theorem dX9_line_14 : decode cX9_line 14 = .ok (.aload_n 2, 1) := by decide +kernel
theorem dX9_line_15 : decode cX9_line 15 = .ok (.getfield 234, 3) := by decide +kernel
theorem dX9_line_18 : decode cX9_line 18 = .ok (.ifCond .eq 17, 3) := by decide +kernel
theorem dX9_line_21 : decode cX9_line 21 = .ok (.aload_n 0, 1) := by decide +kernel
theorem dX9_line_22 : decode cX9_line 22 = .ok (.getfield 72, 3) := by decide +kernel
theorem dX9_line_25 : decode cX9_line 25 = .ok (.ldc_w 324, 3) := by decide +kernel
theorem dX9_line_28 : decode cX9_line 28 = .ok (.invokevirtual 326, 3) := by decide +kernel
theorem dX9_line_31 : decode cX9_line 31 = .ok (.pop, 1) := by decide +kernel
theorem dX9_line_32 : decode cX9_line 32 = .ok (.goto 15, 3) := by decide +kernel
theorem dX9_line_35 : decode cX9_line 35 = .ok (.aload_n 0, 1) := by decide +kernel
theorem dX9_line_36 : decode cX9_line 36 = .ok (.getfield 72, 3) := by decide +kernel
theorem dX9_line_39 : decode cX9_line 39 = .ok (.aload_n 2, 1) := by decide +kernel
theorem dX9_line_40 : decode cX9_line 40 = .ok (.getfield 239, 3) := by decide +kernel
theorem dX9_line_43 : decode cX9_line 43 = .ok (.invokevirtual 330, 3) := by decide +kernel
theorem dX9_line_46 : decode cX9_line 46 = .ok (.pop, 1) := by decide +kernel
theorem dX9_line_47 : decode cX9_line 47 = .ok (.aload_n 0, 1) := by decide +kernel
theorem dX9_line_48 : decode cX9_line 48 = .ok (.getfield 72, 3) := by decide +kernel
theorem dX9_line_51 : decode cX9_line 51 = .ok (.bipush 43, 2) := by decide +kernel
theorem dX9_line_53 : decode cX9_line 53 = .ok (.invokevirtual 333, 3) := by decide +kernel
theorem dX9_line_56 : decode cX9_line 56 = .ok (.aload_n 2, 1) := by decide +kernel
theorem dX9_line_57 : decode cX9_line 57 = .ok (.getfield 336, 3) := by decide +kernel
theorem dX9_line_60 : decode cX9_line 60 = .ok (.invokevirtual 330, 3) := by decide +kernel
theorem dX9_line_63 : decode cX9_line 63 = .ok (.pop, 1) := by decide +kernel
theorem dX9_line_64 : decode cX9_line 64 = .ok (.aload_n 2, 1) := by decide +kernel
theorem dX9_line_65 : decode cX9_line 65 = .ok (.invokevirtual 339, 3) := by decide +kernel
theorem dX9_line_68 : decode cX9_line 68 = .ok (.ifCond .eq 49, 3) := by decide +kernel
theorem dX9_line_71 : decode cX9_line 71 = .ok (.aload_n 0, 1) := by decide +kernel
theorem dX9_line_72 : decode cX9_line 72 = .ok (.getfield 72, 3) := by decide +kernel
theorem dX9_line_75 : decode cX9_line 75 = .ok (.bipush 35, 2) := by decide +kernel
theorem dX9_line_77 : decode cX9_line 77 = .ok (.invokevirtual 333, 3) := by decide +kernel
theorem dX9_line_80 : decode cX9_line 80 = .ok (.aload_n 2, 1) := by decide +kernel
theorem dX9_line_81 : decode cX9_line 81 = .ok (.getfield 228, 3) := by decide +kernel
theorem dX9_line_84 : decode cX9_line 84 = .ok (.invokevirtual 330, 3) := by decide +kernel
theorem dX9_line_87 : decode cX9_line 87 = .ok (.bipush 42, 2) := by decide +kernel
theorem dX9_line_89 : decode cX9_line 89 = .ok (.invokevirtual 333, 3) := by decide +kernel
theorem dX9_line_92 : decode cX9_line 92 = .ok (.aload_n 2, 1) := by decide +kernel
theorem dX9_line_93 : decode cX9_line 93 = .ok (.getfield 342, 3) := by decide +kernel
theorem dX9_line_96 : decode cX9_line 96 = .ok (.invokevirtual 330, 3) := by decide +kernel
theorem dX9_line_99 : decode cX9_line 99 = .ok (.pop, 1) := by decide +kernel
theorem dX9_line_100 : decode cX9_line 100 = .ok (.aload_n 2, 1) := by decide +kernel
theorem dX9_line_101 : decode cX9_line 101 = .ok (.getfield 345, 3) := by decide +kernel
theorem dX9_line_104 : decode cX9_line 104 = .ok (.ifCond .eq 13, 3) := by decide +kernel
theorem dX9_line_107 : decode cX9_line 107 = .ok (.aload_n 0, 1) := by decide +kernel
theorem dX9_line_108 : decode cX9_line 108 = .ok (.getfield 72, 3) := by decide +kernel
theorem dX9_line_111 : decode cX9_line 111 = .ok (.bipush 33, 2) := by decide +kernel
theorem dX9_line_113 : decode cX9_line 113 = .ok (.invokevirtual 333, 3) := by decide +kernel
theorem dX9_line_116 : decode cX9_line 116 = .ok (.pop, 1) := by decide +kernel
theorem dX9_line_117 : decode cX9_line 117 = .ok (.aload_n 0, 1) := by decide +kernel
theorem dX9_line_118 : decode cX9_line 118 = .ok (.getfield 72, 3) := by decide +kernel
theorem dX9_line_121 : decode cX9_line 121 = .ok (.invokevirtual 348, 3) := by decide +kernel
theorem dX9_line_124 : decode cX9_line 124 = .ok (.ireturn, 1) := by decide +kernel
set_option maxRecDepth 20000 in
theorem ggX9_row_J4_setLength_d00df : GoodIn wsX9_row wsJ4_setLength_d00df := goodIn_r _ [9, 10, 11, 12, 13, 14, 15, 16, 17, 18, 19, 20, 21, 22, 23, 24, 25, 26, 27, 28, 29, 30, 31, 32, 33, 34, 35, 36, 37, 38, 39, 40, 41, 42, 43, 44, 45, 46, 47, 48, 49, 50, 51, 52, 53, 54, 55, 56, 57, 58, 59, 60, 61, 62, 63, 64, 65, 66, 67, 68, 69, 70, 71, 72, 73, 74, 75, 76, 77, 78, 79, 80, 81, 8, 82, 83, 84, 85, 86, 87, 88, 89, 244, 245, 246, 247, 248, 249, 250, 251, 252, 253, 254, 255, 256, 257, 258, 259] (by decide +kernel) (by decide +kernel)
set_option maxRecDepth 20000 in
theorem gX9_row_J4_setLength_d00df : GoodIn wsX9_row (wsV RX9 320 RJ4 yJ4_setLength_d00df wsJ4_setLength_d00df) := goodIn_app (goodIn_of _ (by decide +kernel)) ggX9_row_J4_setLength_d00df
set_option maxRecDepth 20000 in
theorem ggX9_row_J4_append_cf468 : GoodIn wsX9_row wsJ4_append_cf468 := goodIn_r _ [93, 94, 95, 12, 96, 14, 97, 19, 20, 22, 23, 24, 25, 26, 27, 28, 29, 30, 31, 32, 33, 34, 35, 36, 37, 38, 39, 40, 41, 42, 43, 44, 45, 46, 47, 48, 49, 50, 51, 52, 53, 54, 55, 56, 57, 58, 59, 60, 61, 62, 63, 64, 65, 66, 67, 68, 69, 98, 99, 72, 100, 101, 102, 103, 104, 105, 106, 107, 87, 108, 109, 110, 111, 112, 113, 114, 115, 116, 117, 118, 119, 120, 121, 122, 123, 124, 125, 126, 127, 128, 129, 130, 131, 132, 133, 134, 135, 136, 137, 138, 139, 140, 141, 142, 143, 144, 145, 146, 147, 148, 149, 150, 151, 250, 251, 252, 253] (by decide +kernel) (by decide +kernel)
set_option maxRecDepth 20000 in
theorem gX9_row_J4_append_cf468 : GoodIn wsX9_row (wsV RX9 333 RJ4 yJ4_append_cf468 wsJ4_append_cf468) := goodIn_app (goodIn_of _ (by decide +kernel)) ggX9_row_J4_append_cf468
set_option maxRecDepth 20000 in
theorem ggX9_row_X6_visitorsIn : GoodIn wsX9_row wsX6_visitorsIn := goodIn_r _ [156, 157, 158, 159, 160, 161, 162, 163, 164, 165, 235, 236, 237, 238, 239, 240, 241, 242, 243, 260, 261, 262, 263, 264, 265, 266, 267] (by decide +kernel) (by decide +kernel)
set_option maxRecDepth 20000 in
theorem gX9_row_X6_visitorsIn : GoodIn wsX9_row (wsV RX9 355 RX6 yX6_visitorsIn wsX6_visitorsIn) := goodIn_app (goodIn_of _ (by decide +kernel)) ggX9_row_X6_visitorsIn
set_option maxRecDepth 20000 in
theorem ggX9_row_J4_append_bf812 : GoodIn wsX9_row wsJ4_append_bf812 := goodIn_r _ [169, 170, 171, 12, 172, 14, 173, 19, 20, 174, 175, 176, 177, 22, 23, 24, 25, 26, 27, 28, 29, 30, 31, 32, 33, 34, 35, 36, 37, 38, 39, 40, 41, 42, 43, 44, 45, 46, 47, 48, 49, 50, 51, 52, 53, 54, 55, 56, 57, 58, 59, 60, 61, 62, 63, 64, 65, 66, 67, 68, 69, 178, 179, 180, 181, 182, 183, 184, 87, 185, 137, 186, 187, 188, 122, 123, 124, 189, 190, 127, 191, 129, 192, 193, 132, 194, 195, 196, 197, 198, 199, 134, 135, 136, 138, 139, 250, 251, 252, 253] (by decide +kernel) (by decide +kernel)
set_option maxRecDepth 20000 in
theorem gX9_row_J4_append_bf812 : GoodIn wsX9_row (wsV RX9 330 RJ4 yJ4_append_bf812 wsJ4_append_bf812) := goodIn_app (goodIn_of _ (by decide +kernel)) ggX9_row_J4_append_bf812
set_option maxRecDepth 20000 in
theorem ggX9_row_X4_hedgeBetween : GoodIn wsX9_row wsX4_hedgeBetween := goodIn_ca (goodIn_r _ [203, 204, 58, 40, 59, 205, 39, 41, 206, 207] (by decide +kernel) (by decide +kernel)) (goodIn_sub (fun _ h => List.mem_cons_of_mem _ (List.mem_append_right _ h)) (by decide +kernel))
set_option maxRecDepth 20000 in
theorem gX9_row_X4_hedgeBetween : GoodIn wsX9_row (va_wsS RX9 136 yX4_hedgeBetween wsX4_hedgeBetween) := goodIn_app (goodIn_of _ (by decide +kernel)) ggX9_row_X4_hedgeBetween
set_option maxRecDepth 20000 in
theorem ggX9_row_X4_isOpen : GoodIn wsX9_row wsX4_isOpen := goodIn_ca (goodIn_r _ [211, 212, 213, 214, 202, 215, 216, 268] (by decide +kernel) (by decide +kernel)) (goodIn_sub (fun _ h => List.mem_cons_of_mem _ (List.mem_append_right _ h)) (by decide +kernel))
set_option maxRecDepth 20000 in
theorem gX9_row_X4_isOpen : GoodIn wsX9_row (wsV RX9 139 RX4 yX4_isOpen wsX4_isOpen) := goodIn_app (goodIn_of _ (by decide +kernel)) ggX9_row_X4_isOpen
set_option maxRecDepth 20000 in
theorem ggX9_row_J4_length_8abf5 : GoodIn wsX9_row wsJ4_length_8abf5 := goodIn_r _ [220, 221, 222, 12, 223, 14, 224, 19, 250, 251, 252, 253] (by decide +kernel) (by decide +kernel)
set_option maxRecDepth 20000 in
theorem gX9_row_J4_length_8abf5 : GoodIn wsX9_row (wsV RX9 348 RJ4 yJ4_length_8abf5 wsJ4_length_8abf5) := goodIn_app (goodIn_of _ (by decide +kernel)) ggX9_row_J4_length_8abf5
theorem dX9_row_0 : decode cX9_row 0 = .ok (.iload_n 1, 1) := by decide +kernel
theorem dX9_row_1 : decode cX9_row 1 = .ok (.ifCond .lt 8, 3) := by decide +kernel
theorem dX9_row_4 : decode cX9_row 4 = .ok (.iload_n 1, 1) := by decide +kernel
theorem dX9_row_5 : decode cX9_row 5 = .ok (.iconst 4, 1) := by decide +kernel
theorem dX9_row_6 : decode cX9_row 6 = .ok (.if_icmp .lt 14, 3) := by decide +kernel
theorem dX9_row_9 : decode cX9_row 9 = .ok (.new 212, 3) := by decide +kernel
theorem dX9_row_12 : decode cX9_row 12 = .ok (.dup, 1) := by decide +kernel
theorem dX9_row_13 : decode cX9_row 13 = .ok (.ldc_w 350, 3) := by decide +kernel
theorem dX9_row_16 : decode cX9_row 16 = .ok (.invokespecial 216, 3) := by decide +kernel
theorem dX9_row_19 : decode cX9_row 19 = .ok (.athrow, 1) := by decide +kernel
theorem dX9_row_20 : decode cX9_row 20 = .ok (.aload_n 0, 1) := by decide +kernel
theorem dX9_row_21 : decode cX9_row 21 = .ok (.getfield 72, 3) := by decide +kernel
theorem dX9_row_24 : decode cX9_row 24 = .ok (.iconst 0, 1) := by decide +kernel
theorem dX9_row_25 : decode cX9_row 25 = .ok (.invokevirtual 320, 3) := by decide +kernel
theorem dX9_row_28 : decode cX9_row 28 = .ok (.iload_n 1, 1) := by decide +kernel
theorem dX9_row_29 : decode cX9_row 29 = .ok (.iconst 4, 1) := by decide +kernel
theorem dX9_row_30 : decode cX9_row 30 = .ok (.imul, 1) := by decide +kernel
theorem dX9_row_31 : decode cX9_row 31 = .ok (.iconst 4, 1) := by decide +kernel
theorem dX9_row_32 : decode cX9_row 32 = .ok (.iadd, 1) := by decide +kernel
theorem dX9_row_33 : decode cX9_row 33 = .ok (.iconst 1, 1) := by decide +kernel
theorem dX9_row_34 : decode cX9_row 34 = .ok (.isub, 1) := by decide +kernel
theorem dX9_row_35 : decode cX9_row 35 = .ok (.istore_n 2, 1) := by decide +kernel
theorem dX9_row_36 : decode cX9_row 36 = .ok (.iload_n 1, 1) := by decide +kernel
theorem dX9_row_37 : decode cX9_row 37 = .ok (.iconst 4, 1) := by decide +kernel
theorem dX9_row_38 : decode cX9_row 38 = .ok (.imul, 1) := by decide +kernel
theorem dX9_row_39 : decode cX9_row 39 = .ok (.istore_n 3, 1) := by decide +kernel
theorem dX9_row_40 : decode cX9_row 40 = .ok (.iload_n 3, 1) := by decide +kernel
theorem dX9_row_41 : decode cX9_row 41 = .ok (.iload_n 2, 1) := by decide +kernel
theorem dX9_row_42 : decode cX9_row 42 = .ok (.if_icmp .gt 89, 3) := by decide +kernel
theorem dX9_row_45 : decode cX9_row 45 = .ok (.iload_n 3, 1) := by decide +kernel
theorem dX9_row_46 : decode cX9_row 46 = .ok (.aload_n 0, 1) := by decide +kernel
theorem dX9_row_47 : decode cX9_row 47 = .ok (.getfield 10, 3) := by decide +kernel
theorem dX9_row_50 : decode cX9_row 50 = .ok (.getfield 352, 3) := by decide +kernel
theorem dX9_row_53 : decode cX9_row 53 = .ok (.if_icmp .ne 16, 3) := by decide +kernel
theorem dX9_row_56 : decode cX9_row 56 = .ok (.aload_n 0, 1) := by decide +kernel
theorem dX9_row_57 : decode cX9_row 57 = .ok (.getfield 72, 3) := by decide +kernel
theorem dX9_row_60 : decode cX9_row 60 = .ok (.bipush 77, 2) := by decide +kernel
theorem dX9_row_62 : decode cX9_row 62 = .ok (.invokevirtual 333, 3) := by decide +kernel
theorem dX9_row_65 : decode cX9_row 65 = .ok (.pop, 1) := by decide +kernel
theorem dX9_row_66 : decode cX9_row 66 = .ok (.goto 19, 3) := by decide +kernel
theorem dX9_row_69 : decode cX9_row 69 = .ok (.aload_n 0, 1) := by decide +kernel
theorem dX9_row_70 : decode cX9_row 70 = .ok (.getfield 72, 3) := by decide +kernel
theorem dX9_row_73 : decode cX9_row 73 = .ok (.aload_n 0, 1) := by decide +kernel
theorem dX9_row_74 : decode cX9_row 74 = .ok (.getfield 10, 3) := by decide +kernel
theorem dX9_row_77 : decode cX9_row 77 = .ok (.iload_n 3, 1) := by decide +kernel
theorem dX9_row_78 : decode cX9_row 78 = .ok (.invokevirtual 355, 3) := by decide +kernel
theorem dX9_row_81 : decode cX9_row 81 = .ok (.invokevirtual 330, 3) := by decide +kernel
theorem dX9_row_84 : decode cX9_row 84 = .ok (.pop, 1) := by decide +kernel
theorem dX9_row_85 : decode cX9_row 85 = .ok (.iload_n 3, 1) := by decide +kernel
theorem dX9_row_86 : decode cX9_row 86 = .ok (.iload_n 2, 1) := by decide +kernel
theorem dX9_row_87 : decode cX9_row 87 = .ok (.if_icmp .ge 38, 3) := by decide +kernel
theorem dX9_row_90 : decode cX9_row 90 = .ok (.aload_n 0, 1) := by decide +kernel
theorem dX9_row_91 : decode cX9_row 91 = .ok (.getfield 72, 3) := by decide +kernel
theorem dX9_row_94 : decode cX9_row 94 = .ok (.aload_n 0, 1) := by decide +kernel
theorem dX9_row_95 : decode cX9_row 95 = .ok (.getfield 10, 3) := by decide +kernel
theorem dX9_row_98 : decode cX9_row 98 = .ok (.getfield 42, 3) := by decide +kernel
theorem dX9_row_101 : decode cX9_row 101 = .ok (.iload_n 3, 1) := by decide +kernel
theorem dX9_row_102 : decode cX9_row 102 = .ok (.iload_n 3, 1) := by decide +kernel
theorem dX9_row_103 : decode cX9_row 103 = .ok (.iconst 1, 1) := by decide +kernel
theorem dX9_row_104 : decode cX9_row 104 = .ok (.iadd, 1) := by decide +kernel
theorem dX9_row_105 : decode cX9_row 105 = .ok (.invokestatic 136, 3) := by decide +kernel
theorem dX9_row_108 : decode cX9_row 108 = .ok (.invokevirtual 139, 3) := by decide +kernel
theorem dX9_row_111 : decode cX9_row 111 = .ok (.ifCond .eq 8, 3) := by decide +kernel
theorem dX9_row_114 : decode cX9_row 114 = .ok (.bipush 32, 2) := by decide +kernel
theorem dX9_row_116 : decode cX9_row 116 = .ok (.goto 5, 3) := by decide +kernel
theorem dX9_row_119 : decode cX9_row 119 = .ok (.bipush 124, 2) := by decide +kernel
theorem dX9_row_121 : decode cX9_row 121 = .ok (.invokevirtual 333, 3) := by decide +kernel
theorem dX9_row_124 : decode cX9_row 124 = .ok (.pop, 1) := by decide +kernel
theorem dX9_row_125 : decode cX9_row 125 = .ok (.iinc 3 1, 3) := by decide +kernel
theorem dX9_row_128 : decode cX9_row 128 = .ok (.goto (-88), 3) := by decide +kernel
theorem dX9_row_131 : decode cX9_row 131 = .ok (.aload_n 0, 1) := by decide +kernel
theorem dX9_row_132 : decode cX9_row 132 = .ok (.getfield 72, 3) := by decide +kernel
theorem dX9_row_135 : decode cX9_row 135 = .ok (.invokevirtual 348, 3) := by decide +kernel
theorem dX9_row_138 : decode cX9_row 138 = .ok (.ireturn, 1) := by decide +kernel
set_option maxRecDepth 20000 in
theorem ggX9_character_J4_length_8abf5 : GoodIn wsX9_character wsJ4_length_8abf5 := goodIn_r _ [8, 9, 10, 11, 12, 13, 14, 15, 59, 60, 61, 62] (by decide +kernel) (by decide +kernel)
set_option maxRecDepth 20000 in
theorem gX9_character_J4_length_8abf5 : GoodIn wsX9_character (wsV RX9 348 RJ4 yJ4_length_8abf5 wsJ4_length_8abf5) := goodIn_app (goodIn_of _ (by decide +kernel)) ggX9_character_J4_length_8abf5
set_option maxRecDepth 20000 in
theorem ggX9_character_J4_charAt_5068e : GoodIn wsX9_character wsJ4_charAt_5068e := goodIn_r _ [19, 20, 21, 11, 22, 13, 23, 24, 25, 15, 26, 27, 28, 29, 30, 31, 32, 33, 34, 35, 36, 37, 38, 39, 40, 41, 42, 43, 44, 45, 46, 47, 48, 59, 60, 61, 62] (by decide +kernel) (by decide +kernel)
set_option maxRecDepth 20000 in
theorem gX9_character_J4_charAt_5068e : GoodIn wsX9_character (wsV RX9 360 RJ4 yJ4_charAt_5068e wsJ4_charAt_5068e) := goodIn_app (goodIn_of _ (by decide +kernel)) ggX9_character_J4_charAt_5068e
theorem dX9_character_0 : decode cX9_character 0 = .ok (.iload_n 1, 1) := by decide +kernel
theorem dX9_character_1 : decode cX9_character 1 = .ok (.ifCond .lt 14, 3) := by decide +kernel
theorem dX9_character_4 : decode cX9_character 4 = .ok (.iload_n 1, 1) := by decide +kernel
theorem dX9_character_5 : decode cX9_character 5 = .ok (.aload_n 0, 1) := by decide +kernel
theorem dX9_character_6 : decode cX9_character 6 = .ok (.getfield 72, 3) := by decide +kernel
theorem dX9_character_9 : decode cX9_character 9 = .ok (.invokevirtual 348, 3) := by decide +kernel
theorem dX9_character_12 : decode cX9_character 12 = .ok (.if_icmp .lt 14, 3) := by decide +kernel
theorem dX9_character_15 : decode cX9_character 15 = .ok (.new 181, 3) := by decide +kernel
theorem dX9_character_18 : decode cX9_character 18 = .ok (.dup, 1) := by decide +kernel
theorem dX9_character_19 : decode cX9_character 19 = .ok (.ldc_w 358, 3) := by decide +kernel
theorem dX9_character_22 : decode cX9_character 22 = .ok (.invokespecial 185, 3) := by decide +kernel
theorem dX9_character_25 : decode cX9_character 25 = .ok (.athrow, 1) := by decide +kernel
theorem dX9_character_26 : decode cX9_character 26 = .ok (.aload_n 0, 1) := by decide +kernel
theorem dX9_character_27 : decode cX9_character 27 = .ok (.getfield 72, 3) := by decide +kernel
theorem dX9_character_30 : decode cX9_character 30 = .ok (.iload_n 1, 1) := by decide +kernel
theorem dX9_character_31 : decode cX9_character 31 = .ok (.invokevirtual 360, 3) := by decide +kernel
theorem dX9_character_34 : decode cX9_character 34 = .ok (.ireturn, 1) := by decide +kernel
set_option maxRecDepth 20000 in
theorem ggX9_meanLost_X6_totalOf : GoodIn wsX9_meanLost wsX6_totalOf := goodIn_r _ [8, 9, 10, 11, 12, 13, 14, 15, 16, 17, 18, 19, 20, 21, 22, 23, 24, 25, 26, 27, 28, 29, 30, 31, 42, 43, 44, 45, 46, 47, 48, 49, 50, 51, 52, 53, 54, 55, 56, 57, 58] (by decide +kernel) (by decide +kernel)
set_option maxRecDepth 20000 in
theorem gX9_meanLost_X6_totalOf : GoodIn wsX9_meanLost (wsV RX9 369 RX6 yX6_totalOf wsX6_totalOf) := goodIn_app (goodIn_of _ (by decide +kernel)) ggX9_meanLost_X6_totalOf
theorem dX9_meanLost_0 : decode cX9_meanLost 0 = .ok (.aload_n 0, 1) := by decide +kernel
theorem dX9_meanLost_1 : decode cX9_meanLost 1 = .ok (.getfield 10, 3) := by decide +kernel
theorem dX9_meanLost_4 : decode cX9_meanLost 4 = .ok (.getfield 263, 3) := by decide +kernel
theorem dX9_meanLost_7 : decode cX9_meanLost 7 = .ok (.ifCond .ne 14, 3) := by decide +kernel
theorem dX9_meanLost_10 : decode cX9_meanLost 10 = .ok (.new 364, 3) := by decide +kernel
theorem dX9_meanLost_13 : decode cX9_meanLost 13 = .ok (.dup, 1) := by decide +kernel
theorem dX9_meanLost_14 : decode cX9_meanLost 14 = .ok (.ldc_w 366, 3) := by decide +kernel
theorem dX9_meanLost_17 : decode cX9_meanLost 17 = .ok (.invokespecial 368, 3) := by decide +kernel
theorem dX9_meanLost_20 : decode cX9_meanLost 20 = .ok (.athrow, 1) := by decide +kernel
theorem dX9_meanLost_21 : decode cX9_meanLost 21 = .ok (.aload_n 0, 1) := by decide +kernel
theorem dX9_meanLost_22 : decode cX9_meanLost 22 = .ok (.getfield 10, 3) := by decide +kernel
theorem dX9_meanLost_25 : decode cX9_meanLost 25 = .ok (.iconst 4, 1) := by decide +kernel
theorem dX9_meanLost_26 : decode cX9_meanLost 26 = .ok (.invokevirtual 369, 3) := by decide +kernel
theorem dX9_meanLost_29 : decode cX9_meanLost 29 = .ok (.i2d, 1) := by decide +kernel
theorem dX9_meanLost_30 : decode cX9_meanLost 30 = .ok (.aload_n 0, 1) := by decide +kernel
theorem dX9_meanLost_31 : decode cX9_meanLost 31 = .ok (.getfield 10, 3) := by decide +kernel
theorem dX9_meanLost_34 : decode cX9_meanLost 34 = .ok (.getfield 263, 3) := by decide +kernel
theorem dX9_meanLost_37 : decode cX9_meanLost 37 = .ok (.i2d, 1) := by decide +kernel
theorem dX9_meanLost_38 : decode cX9_meanLost 38 = .ok (.ddiv, 1) := by decide +kernel
theorem dX9_meanLost_39 : decode cX9_meanLost 39 = .ok (.dreturn, 1) := by decide +kernel
set_option maxRecDepth 20000 in
theorem ggX9_gapShare_X4_gaps : GoodIn wsX9_gapShare wsX4_gaps := goodIn_ca (goodIn_r _ [7, 8, 9, 10, 6, 11, 12, 13, 14, 15, 16, 36] (by decide +kernel) (by decide +kernel)) (goodIn_sub (fun _ h => List.mem_cons_of_mem _ (List.mem_append_right _ h)) (by decide +kernel))
set_option maxRecDepth 20000 in
theorem gX9_gapShare_X4_gaps : GoodIn wsX9_gapShare (wsV RX9 372 RX4 yX4_gaps wsX4_gaps) := goodIn_app (goodIn_of _ (by decide +kernel)) ggX9_gapShare_X4_gaps
theorem dX9_gapShare_0 : decode cX9_gapShare 0 = .ok (.aload_n 0, 1) := by decide +kernel
theorem dX9_gapShare_1 : decode cX9_gapShare 1 = .ok (.getfield 10, 3) := by decide +kernel
theorem dX9_gapShare_4 : decode cX9_gapShare 4 = .ok (.getfield 42, 3) := by decide +kernel
theorem dX9_gapShare_7 : decode cX9_gapShare 7 = .ok (.invokevirtual 372, 3) := by decide +kernel
theorem dX9_gapShare_10 : decode cX9_gapShare 10 = .ok (.i2f, 1) := by decide +kernel
theorem dX9_gapShare_11 : decode cX9_gapShare 11 = .ok (.ldc_w 375, 3) := by decide +kernel
theorem dX9_gapShare_14 : decode cX9_gapShare 14 = .ok (.fdiv, 1) := by decide +kernel
theorem dX9_gapShare_15 : decode cX9_gapShare 15 = .ok (.freturn, 1) := by decide +kernel
set_option maxRecDepth 20000 in
theorem ggX9_account_X6_totalOf : GoodIn wsX9_account wsX6_totalOf := goodIn_r _ [10, 11, 12, 13, 14, 15, 16, 17, 18, 19, 20, 21, 22, 23, 24, 25, 26, 27, 28, 29, 30, 31, 32, 33, 73, 74, 75, 76, 77, 78, 79, 80, 81, 93, 94, 95, 96, 97, 98, 99, 100] (by decide +kernel) (by decide +kernel)
set_option maxRecDepth 20000 in
theorem gX9_account_X6_totalOf : GoodIn wsX9_account (wsV RX9 369 RX6 yX6_totalOf wsX6_totalOf) := goodIn_app (goodIn_of _ (by decide +kernel)) ggX9_account_X6_totalOf
set_option maxRecDepth 20000 in
theorem ggX9_account_X6_bonds : GoodIn wsX9_account wsX6_bonds := goodIn_r _ [37, 11, 38, 39, 40, 9, 41, 12, 73, 74, 75, 76, 77, 78, 79, 80, 81, 93, 94, 95, 96, 97, 98, 99, 100] (by decide +kernel) (by decide +kernel)
set_option maxRecDepth 20000 in
theorem gX9_account_X6_bonds : GoodIn wsX9_account (wsV RX9 376 RX6 yX6_bonds wsX6_bonds) := goodIn_app (goodIn_of _ (by decide +kernel)) ggX9_account_X6_bonds
set_option maxRecDepth 20000 in
theorem ggX9_account_X4_gaps : GoodIn wsX9_account wsX4_gaps := goodIn_ca (goodIn_r _ [46, 47, 48, 49, 45, 50, 51, 52, 53, 54, 55, 101] (by decide +kernel) (by decide +kernel)) (goodIn_sub (fun _ h => List.mem_cons_of_mem _ (List.mem_append_right _ h)) (by decide +kernel))
set_option maxRecDepth 20000 in
theorem gX9_account_X4_gaps : GoodIn wsX9_account (wsV RX9 372 RX4 yX4_gaps wsX4_gaps) := goodIn_app (goodIn_of _ (by decide +kernel)) ggX9_account_X4_gaps
set_option maxRecDepth 20000 in
theorem ggX9_account_X6_coinsOfAll : GoodIn wsX9_account wsX6_coinsOfAll := goodIn_r _ [59, 60, 61, 62, 7, 8, 9, 10, 11, 12, 13, 14, 15, 16, 17, 18, 19, 20, 21, 22, 23, 24, 25, 26, 27, 28, 29, 30, 31, 32, 33, 73, 74, 75, 76, 77, 78, 79, 80, 81, 102, 103, 104, 105, 93, 94, 95, 96, 97, 98, 99, 100] (by decide +kernel) (by decide +kernel)
set_option maxRecDepth 20000 in
theorem gX9_account_X6_coinsOfAll : GoodIn wsX9_account (wsV RX9 388 RX6 yX6_coinsOfAll wsX6_coinsOfAll) := goodIn_app (goodIn_of _ (by decide +kernel)) ggX9_account_X6_coinsOfAll
theorem dX9_account_0 : decode cX9_account 0 = .ok (.iload_n 1, 1) := by decide +kernel
theorem dX9_account_1 : decode cX9_account 1 = .ok (.tableswitch 166 0 11 #[63, 71, 79, 89, 97, 107, 118, 126, 134, 142, 150, 158], 63) := by decide +kernel
theorem dX9_account_64 : decode cX9_account 64 = .ok (.aload_n 0, 1) := by decide +kernel
theorem dX9_account_65 : decode cX9_account 65 = .ok (.getfield 10, 3) := by decide +kernel
theorem dX9_account_68 : decode cX9_account 68 = .ok (.getfield 271, 3) := by decide +kernel
theorem dX9_account_71 : decode cX9_account 71 = .ok (.ireturn, 1) := by decide +kernel
theorem dX9_account_72 : decode cX9_account 72 = .ok (.aload_n 0, 1) := by decide +kernel
theorem dX9_account_73 : decode cX9_account 73 = .ok (.getfield 10, 3) := by decide +kernel
theorem dX9_account_76 : decode cX9_account 76 = .ok (.getfield 263, 3) := by decide +kernel
theorem dX9_account_79 : decode cX9_account 79 = .ok (.ireturn, 1) := by decide +kernel
theorem dX9_account_80 : decode cX9_account 80 = .ok (.aload_n 0, 1) := by decide +kernel
theorem dX9_account_81 : decode cX9_account 81 = .ok (.getfield 10, 3) := by decide +kernel
theorem dX9_account_84 : decode cX9_account 84 = .ok (.bipush 8, 2) := by decide +kernel
theorem dX9_account_86 : decode cX9_account 86 = .ok (.invokevirtual 369, 3) := by decide +kernel
theorem dX9_account_89 : decode cX9_account 89 = .ok (.ireturn, 1) := by decide +kernel
theorem dX9_account_90 : decode cX9_account 90 = .ok (.aload_n 0, 1) := by decide +kernel
theorem dX9_account_91 : decode cX9_account 91 = .ok (.getfield 10, 3) := by decide +kernel
theorem dX9_account_94 : decode cX9_account 94 = .ok (.invokevirtual 376, 3) := by decide +kernel
theorem dX9_account_97 : decode cX9_account 97 = .ok (.ireturn, 1) := by decide +kernel
theorem dX9_account_98 : decode cX9_account 98 = .ok (.aload_n 0, 1) := by decide +kernel
theorem dX9_account_99 : decode cX9_account 99 = .ok (.getfield 10, 3) := by decide +kernel
theorem dX9_account_102 : decode cX9_account 102 = .ok (.bipush 7, 2) := by decide +kernel
theorem dX9_account_104 : decode cX9_account 104 = .ok (.invokevirtual 369, 3) := by decide +kernel
theorem dX9_account_107 : decode cX9_account 107 = .ok (.ireturn, 1) := by decide +kernel
theorem dX9_account_108 : decode cX9_account 108 = .ok (.aload_n 0, 1) := by decide +kernel
theorem dX9_account_109 : decode cX9_account 109 = .ok (.getfield 10, 3) := by decide +kernel
theorem dX9_account_112 : decode cX9_account 112 = .ok (.getfield 42, 3) := by decide +kernel
theorem dX9_account_115 : decode cX9_account 115 = .ok (.invokevirtual 372, 3) := by decide +kernel
theorem dX9_account_118 : decode cX9_account 118 = .ok (.ireturn, 1) := by decide +kernel
theorem dX9_account_119 : decode cX9_account 119 = .ok (.aload_n 0, 1) := by decide +kernel
theorem dX9_account_120 : decode cX9_account 120 = .ok (.getfield 10, 3) := by decide +kernel
theorem dX9_account_123 : decode cX9_account 123 = .ok (.getfield 379, 3) := by decide +kernel
theorem dX9_account_126 : decode cX9_account 126 = .ok (.ireturn, 1) := by decide +kernel
theorem dX9_account_127 : decode cX9_account 127 = .ok (.aload_n 0, 1) := by decide +kernel
theorem dX9_account_128 : decode cX9_account 128 = .ok (.getfield 10, 3) := by decide +kernel
theorem dX9_account_131 : decode cX9_account 131 = .ok (.getfield 382, 3) := by decide +kernel
theorem dX9_account_134 : decode cX9_account 134 = .ok (.ireturn, 1) := by decide +kernel
theorem dX9_account_135 : decode cX9_account 135 = .ok (.aload_n 0, 1) := by decide +kernel
theorem dX9_account_136 : decode cX9_account 136 = .ok (.getfield 10, 3) := by decide +kernel
theorem dX9_account_139 : decode cX9_account 139 = .ok (.getfield 385, 3) := by decide +kernel
theorem dX9_account_142 : decode cX9_account 142 = .ok (.ireturn, 1) := by decide +kernel
theorem dX9_account_143 : decode cX9_account 143 = .ok (.aload_n 0, 1) := by decide +kernel
theorem dX9_account_144 : decode cX9_account 144 = .ok (.getfield 10, 3) := by decide +kernel
theorem dX9_account_147 : decode cX9_account 147 = .ok (.invokevirtual 388, 3) := by decide +kernel
theorem dX9_account_150 : decode cX9_account 150 = .ok (.ireturn, 1) := by decide +kernel
theorem dX9_account_151 : decode cX9_account 151 = .ok (.aload_n 0, 1) := by decide +kernel
theorem dX9_account_152 : decode cX9_account 152 = .ok (.getfield 29, 3) := by decide +kernel
theorem dX9_account_155 : decode cX9_account 155 = .ok (.getfield 391, 3) := by decide +kernel
theorem dX9_account_158 : decode cX9_account 158 = .ok (.ireturn, 1) := by decide +kernel
theorem dX9_account_159 : decode cX9_account 159 = .ok (.aload_n 0, 1) := by decide +kernel
theorem dX9_account_160 : decode cX9_account 160 = .ok (.getfield 65, 3) := by decide +kernel
theorem dX9_account_163 : decode cX9_account 163 = .ok (.getfield 277, 3) := by decide +kernel
theorem dX9_account_166 : decode cX9_account 166 = .ok (.ireturn, 1) := by decide +kernel
theorem dX9_account_167 : decode cX9_account 167 = .ok (.new 212, 3) := by decide +kernel
theorem dX9_account_170 : decode cX9_account 170 = .ok (.dup, 1) := by decide +kernel
theorem dX9_account_171 : decode cX9_account 171 = .ok (.ldc_w 392, 3) := by decide +kernel
theorem dX9_account_174 : decode cX9_account 174 = .ok (.invokespecial 216, 3) := by decide +kernel
theorem dX9_account_177 : decode cX9_account 177 = .ok (.athrow, 1) := by decide +kernel
set_option maxRecDepth 20000 in
theorem ggX9_undo_X2_takeBack : GoodIn wsX9_undo wsX2_takeBack := goodIn_r _ [9, 10, 11, 12, 13, 14, 15, 16, 17, 18, 19, 20, 21, 22, 23, 24, 25, 26, 27, 28, 29, 30, 31, 32, 33, 34, 35, 36, 37, 38, 39, 40, 41, 42, 43, 44, 45, 46, 47, 48, 49, 50, 51, 52, 53, 54, 55, 56, 57, 58, 69, 70, 71, 72, 73, 74, 75, 76, 77, 78, 79, 80, 81, 82, 83, 84, 85, 86, 87, 88, 89, 90, 91, 92, 93] (by decide +kernel) (by decide +kernel)
set_option maxRecDepth 20000 in
theorem gX9_undo_X2_takeBack : GoodIn wsX9_undo (wsV RX9 396 RX2 yX2_takeBack wsX2_takeBack) := goodIn_app (goodIn_of _ (by decide +kernel)) ggX9_undo_X2_takeBack
theorem dX9_undo_0 : decode cX9_undo 0 = .ok (.aload_n 0, 1) := by decide +kernel
theorem dX9_undo_1 : decode cX9_undo 1 = .ok (.getfield 29, 3) := by decide +kernel
theorem dX9_undo_4 : decode cX9_undo 4 = .ok (.getfield 391, 3) := by decide +kernel
theorem dX9_undo_7 : decode cX9_undo 7 = .ok (.ifCond .ne 14, 3) := by decide +kernel
theorem dX9_undo_10 : decode cX9_undo 10 = .ok (.new 280, 3) := by decide +kernel
theorem dX9_undo_13 : decode cX9_undo 13 = .ok (.dup, 1) := by decide +kernel
theorem dX9_undo_14 : decode cX9_undo 14 = .ok (.ldc_w 394, 3) := by decide +kernel
theorem dX9_undo_17 : decode cX9_undo 17 = .ok (.invokespecial 284, 3) := by decide +kernel
theorem dX9_undo_20 : decode cX9_undo 20 = .ok (.athrow, 1) := by decide +kernel
theorem dX9_undo_21 : decode cX9_undo 21 = .ok (.aload_n 0, 1) := by decide +kernel
theorem dX9_undo_22 : decode cX9_undo 22 = .ok (.getfield 29, 3) := by decide +kernel
theorem dX9_undo_25 : decode cX9_undo 25 = .ok (.aload_n 0, 1) := by decide +kernel
theorem dX9_undo_26 : decode cX9_undo 26 = .ok (.getfield 10, 3) := by decide +kernel
theorem dX9_undo_29 : decode cX9_undo 29 = .ok (.invokevirtual 396, 3) := by decide +kernel
theorem dX9_undo_32 : decode cX9_undo 32 = .ok (.aload_n 0, 1) := by decide +kernel
theorem dX9_undo_33 : decode cX9_undo 33 = .ok (.getfield 29, 3) := by decide +kernel
theorem dX9_undo_36 : decode cX9_undo 36 = .ok (.getfield 391, 3) := by decide +kernel
theorem dX9_undo_39 : decode cX9_undo 39 = .ok (.ireturn, 1) := by decide +kernel
set_option maxRecDepth 20000 in
theorem ggX9_save_X6_copyFrom : GoodIn wsX9_save wsX6_copyFrom := goodIn_r _ [8, 9, 10, 11, 12, 13, 14, 15, 16, 17, 18, 19, 20, 21, 22, 23, 24, 25, 26, 27, 28, 29, 30, 31, 32, 33, 34, 35, 36, 37, 38, 39, 40, 41, 42, 43, 44, 45, 46, 47, 48, 49, 60, 61, 62, 63, 64, 65, 66, 67, 68, 69, 70, 71, 72, 73, 74, 75, 76, 77, 78, 79, 80, 81] (by decide +kernel) (by decide +kernel)
set_option maxRecDepth 20000 in
theorem gX9_save_X6_copyFrom : GoodIn wsX9_save (wsV RX9 76 RX6 yX6_copyFrom wsX6_copyFrom) := goodIn_app (goodIn_of _ (by decide +kernel)) ggX9_save_X6_copyFrom
theorem dX9_save_0 : decode cX9_save 0 = .ok (.aload_n 0, 1) := by decide +kernel
theorem dX9_save_1 : decode cX9_save 1 = .ok (.getfield 19, 3) := by decide +kernel
theorem dX9_save_4 : decode cX9_save 4 = .ok (.aload_n 0, 1) := by decide +kernel
theorem dX9_save_5 : decode cX9_save 5 = .ok (.getfield 10, 3) := by decide +kernel
theorem dX9_save_8 : decode cX9_save 8 = .ok (.invokevirtual 76, 3) := by decide +kernel
theorem dX9_save_11 : decode cX9_save 11 = .ok (.aload_n 0, 1) := by decide +kernel
theorem dX9_save_12 : decode cX9_save 12 = .ok (.iconst 1, 1) := by decide +kernel
theorem dX9_save_13 : decode cX9_save 13 = .ok (.putfield 22, 3) := by decide +kernel
theorem dX9_save_16 : decode cX9_save 16 = .ok (.aload_n 0, 1) := by decide +kernel
theorem dX9_save_17 : decode cX9_save 17 = .ok (.getfield 10, 3) := by decide +kernel
theorem dX9_save_20 : decode cX9_save 20 = .ok (.getfield 263, 3) := by decide +kernel
theorem dX9_save_23 : decode cX9_save 23 = .ok (.ireturn, 1) := by decide +kernel
set_option maxRecDepth 20000 in
theorem ggX9_restore_X6_copyFrom : GoodIn wsX9_restore wsX6_copyFrom := goodIn_r _ [11, 12, 13, 14, 15, 16, 17, 18, 19, 20, 21, 22, 23, 24, 25, 26, 27, 28, 29, 30, 31, 32, 33, 34, 35, 36, 37, 38, 39, 40, 41, 42, 43, 44, 45, 46, 47, 48, 49, 50, 51, 52, 69, 70, 71, 72, 73, 74, 75, 76, 77, 78, 79, 80, 81, 82, 83, 84, 85, 86, 87, 88, 89, 90] (by decide +kernel) (by decide +kernel)
set_option maxRecDepth 20000 in
theorem gX9_restore_X6_copyFrom : GoodIn wsX9_restore (wsV RX9 76 RX6 yX6_copyFrom wsX6_copyFrom) := goodIn_app (goodIn_of _ (by decide +kernel)) ggX9_restore_X6_copyFrom
set_option maxRecDepth 20000 in
theorem ggX9_restore_X2_forget : GoodIn wsX9_restore wsX2_forget := goodIn_r _ [57, 58, 91, 92, 93] (by decide +kernel) (by decide +kernel)
set_option maxRecDepth 20000 in
theorem gX9_restore_X2_forget : GoodIn wsX9_restore (wsV RX9 401 RX2 yX2_forget wsX2_forget) := goodIn_app (goodIn_of _ (by decide +kernel)) ggX9_restore_X2_forget
theorem dX9_restore_0 : decode cX9_restore 0 = .ok (.aload_n 0, 1) := by decide +kernel
theorem dX9_restore_1 : decode cX9_restore 1 = .ok (.getfield 22, 3) := by decide +kernel
theorem dX9_restore_4 : decode cX9_restore 4 = .ok (.ifCond .ne 14, 3) := by decide +kernel
theorem dX9_restore_7 : decode cX9_restore 7 = .ok (.new 280, 3) := by decide +kernel
theorem dX9_restore_10 : decode cX9_restore 10 = .ok (.dup, 1) := by decide +kernel
theorem dX9_restore_11 : decode cX9_restore 11 = .ok (.ldc_w 399, 3) := by decide +kernel
theorem dX9_restore_14 : decode cX9_restore 14 = .ok (.invokespecial 284, 3) := by decide +kernel
theorem dX9_restore_17 : decode cX9_restore 17 = .ok (.athrow, 1) := by decide +kernel
theorem dX9_restore_18 : decode cX9_restore 18 = .ok (.aload_n 0, 1) := by decide +kernel
theorem dX9_restore_19 : decode cX9_restore 19 = .ok (.getfield 10, 3) := by decide +kernel
theorem dX9_restore_22 : decode cX9_restore 22 = .ok (.aload_n 0, 1) := by decide +kernel
theorem dX9_restore_23 : decode cX9_restore 23 = .ok (.getfield 19, 3) := by decide +kernel
theorem dX9_restore_26 : decode cX9_restore 26 = .ok (.invokevirtual 76, 3) := by decide +kernel
theorem dX9_restore_29 : decode cX9_restore 29 = .ok (.aload_n 0, 1) := by decide +kernel
theorem dX9_restore_30 : decode cX9_restore 30 = .ok (.getfield 29, 3) := by decide +kernel
theorem dX9_restore_33 : decode cX9_restore 33 = .ok (.invokevirtual 401, 3) := by decide +kernel
theorem dX9_restore_36 : decode cX9_restore 36 = .ok (.aload_n 0, 1) := by decide +kernel
theorem dX9_restore_37 : decode cX9_restore 37 = .ok (.getfield 10, 3) := by decide +kernel
theorem dX9_restore_40 : decode cX9_restore 40 = .ok (.getfield 263, 3) := by decide +kernel
theorem dX9_restore_43 : decode cX9_restore 43 = .ok (.ireturn, 1) := by decide +kernel
