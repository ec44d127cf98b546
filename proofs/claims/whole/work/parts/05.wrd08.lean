set_option maxRecDepth 20000 in
theorem gX9_init_X0_init : GoodIn wsX9_init (wsX0_init) := ggX9_init_X0_init
set_option maxRecDepth 20000 in
theorem ggX9_init_J4_init_da8c8 : GoodIn wsX9_init wsJ4_init_da8c8 := goodIn_r _ [102, 103, 104, 105, 106, 107, 2, 3, 108, 109, 110, 111, 112, 113, 114, 115, 116, 117, 118, 119, 159, 160, 161, 162] rfl (by decide +kernel)
set_option maxRecDepth 20000 in
theorem gX9_init_J4_init_da8c8 : GoodIn wsX9_init (wsJ4_init_da8c8) := ggX9_init_J4_init_da8c8
set_option maxRecDepth 20000 in
theorem ggX9_hedge_X6_copyFrom : GoodIn wsX9_hedge wsX6_copyFrom := goodIn_r _ [8, 9, 10, 11, 12, 13, 14, 15, 16, 17, 18, 19, 20, 21, 22, 23, 24, 25, 26, 27, 28, 29, 30, 31, 32, 33, 34, 35, 36, 37, 38, 39, 40, 41, 42, 43, 44, 45, 46, 47, 48, 49, 121, 122, 123, 124, 125, 126, 127, 128, 129, 130, 131, 132, 133, 134, 135, 136, 137, 138, 139, 140, 141, 142] rfl (by decide +kernel)
set_option maxRecDepth 20000 in
theorem gX9_hedge_X6_copyFrom : GoodIn wsX9_hedge (wsV RX9 76 RX6 yX6_copyFrom wsX6_copyFrom) := goodIn_app (goodIn_of _ (by decide +kernel)) ggX9_hedge_X6_copyFrom
set_option maxRecDepth 20000 in
theorem ggX9_hedge_X3_tellLeaves : GoodIn wsX9_hedge wsX3_tellLeaves := goodIn_ca (goodIn_r _ [54, 55, 56, 57, 58, 59, 60, 61, 62, 63, 64, 65, 66, 67, 53, 68, 69, 70, 71, 72, 73, 74, 21, 75, 76, 77, 78, 79, 80, 81, 82, 83, 84, 85, 86, 87, 88, 23, 89, 90, 91, 92, 143, 144, 145, 121, 122, 123, 124, 125, 126, 127, 128, 129, 146, 147, 148, 130] rfl (by decide +kernel)) (goodIn_sub (fun _ h => List.mem_cons_of_mem _ (List.mem_append_left _ (List.mem_append_right _ h))) (by decide +kernel))
set_option maxRecDepth 20000 in
theorem gX9_hedge_X3_tellLeaves : GoodIn wsX9_hedge (wsV RX9 80 RX3 yX3_tellLeaves wsX3_tellLeaves) := goodIn_app (goodIn_of _ (by decide +kernel)) ggX9_hedge_X3_tellLeaves
set_option maxRecDepth 20000 in
theorem ggX9_hedge_X9_settled : GoodIn wsX9_hedge wsX9_settled := goodIn_ca (goodIn_r _ [97, 98, 99, 100, 1, 101, 102, 103, 104, 105, 106, 107, 108, 109, 80, 71, 81, 110, 5, 6, 7, 8, 9, 10, 11, 12, 13, 14, 15, 16, 17, 18, 19, 20, 21, 22, 23, 24, 25, 26, 27, 28, 29, 30, 31, 32, 33, 34, 35, 36, 37, 38, 39, 40, 41, 42, 43, 44, 45, 46, 47, 48, 49, 111, 112, 113, 114, 115, 116, 117, 118, 119, 120, 149, 150, 151, 121, 122, 123, 124, 125, 126, 127, 128, 129, 130, 131, 132, 133, 134, 135, 136, 137, 138, 139, 140, 141, 142] rfl (by decide +kernel)) (goodIn_sub (fun _ h => List.mem_cons_of_mem _ (List.mem_append_right _ h)) (by decide +kernel))
set_option maxRecDepth 20000 in
theorem gX9_hedge_X9_settled : GoodIn wsX9_hedge (wsV RX9 84 RX9 yX9_settled wsX9_settled) := goodIn_app (goodIn_of _ (by decide +kernel)) ggX9_hedge_X9_settled
set_option maxRecDepth 20000 in
theorem ggX9_summer_X6_copyFrom : GoodIn wsX9_summer wsX6_copyFrom := goodIn_r _ [8, 9, 10, 11, 12, 13, 14, 15, 16, 17, 18, 19, 20, 21, 22, 23, 24, 25, 26, 27, 28, 29, 30, 31, 32, 33, 34, 35, 36, 37, 38, 39, 40, 41, 42, 43, 44, 45, 46, 47, 48, 49, 104, 105, 106, 107, 108, 109, 110, 111, 112, 113, 114, 115, 116, 117, 118, 119, 120, 121, 122, 123, 124, 125] rfl (by decide +kernel)
set_option maxRecDepth 20000 in
theorem gX9_summer_X6_copyFrom : GoodIn wsX9_summer (wsV RX9 76 RX6 yX6_copyFrom wsX6_copyFrom) := goodIn_app (goodIn_of _ (by decide +kernel)) ggX9_summer_X6_copyFrom
set_option maxRecDepth 20000 in
theorem ggX9_summer_X3_passSummer : GoodIn wsX9_summer wsX3_passSummer := goodIn_ca (goodIn_r _ [54, 55, 56, 57, 58, 21, 59, 60, 61, 62, 63, 64, 65, 66, 67, 23, 68, 69, 70, 71, 72, 73, 74, 75, 126, 127, 128, 104, 105, 106, 107, 108, 109, 110, 111, 112, 113] rfl (by decide +kernel)) (goodIn_sub (fun _ h => List.mem_cons_of_mem _ (List.mem_append_left _ (List.mem_append_right _ h))) (by decide +kernel))
set_option maxRecDepth 20000 in
theorem gX9_summer_X3_passSummer : GoodIn wsX9_summer (wsV RX9 88 RX3 yX3_passSummer wsX3_passSummer) := goodIn_app (goodIn_of _ (by decide +kernel)) ggX9_summer_X3_passSummer
set_option maxRecDepth 20000 in
theorem ggX9_summer_X9_settled : GoodIn wsX9_summer wsX9_settled := goodIn_ca (goodIn_r _ [80, 81, 82, 83, 1, 84, 85, 86, 87, 88, 89, 90, 91, 92, 73, 74, 75, 93, 5, 6, 7, 8, 9, 10, 11, 12, 13, 14, 15, 16, 17, 18, 19, 20, 21, 22, 23, 24, 25, 26, 27, 28, 29, 30, 31, 32, 33, 34, 35, 36, 37, 38, 39, 40, 41, 42, 43, 44, 45, 46, 47, 48, 49, 94, 95, 96, 97, 98, 99, 100, 101, 102, 103, 129, 130, 131, 104, 105, 106, 107, 108, 109, 110, 111, 112, 113, 114, 115, 116, 117, 118, 119, 120, 121, 122, 123, 124, 125] rfl (by decide +kernel)) (goodIn_sub (fun _ h => List.mem_cons_of_mem _ (List.mem_append_right _ h)) (by decide +kernel))
set_option maxRecDepth 20000 in
theorem gX9_summer_X9_settled : GoodIn wsX9_summer (wsV RX9 84 RX9 yX9_settled wsX9_settled) := goodIn_app (goodIn_of _ (by decide +kernel)) ggX9_summer_X9_settled
set_option maxRecDepth 20000 in
theorem ggX9_trim_X6_copyFrom : GoodIn wsX9_trim wsX6_copyFrom := goodIn_r _ [8, 9, 10, 11, 12, 13, 14, 15, 16, 17, 18, 19, 20, 21, 22, 23, 24, 25, 26, 27, 28, 29, 30, 31, 32, 33, 34, 35, 36, 37, 38, 39, 40, 41, 42, 43, 44, 45, 46, 47, 48, 49, 125, 126, 127, 128, 129, 130, 131, 132, 133, 134, 135, 136, 137, 138, 139, 140, 141, 142, 143, 144, 145, 146] rfl (by decide +kernel)
set_option maxRecDepth 20000 in
theorem gX9_trim_X6_copyFrom : GoodIn wsX9_trim (wsV RX9 76 RX6 yX6_copyFrom wsX6_copyFrom) := goodIn_app (goodIn_of _ (by decide +kernel)) ggX9_trim_X6_copyFrom
set_option maxRecDepth 20000 in
theorem ggX9_trim_X3_trimHedge : GoodIn wsX9_trim wsX3_trimHedge := goodIn_ca (goodIn_r _ [54, 55, 56, 57, 58, 59, 7, 60, 12, 10, 61, 62, 63, 64, 65, 66, 67, 68, 69, 70, 71, 53, 72, 73, 74, 75, 76, 77, 78, 21, 79, 80, 81, 82, 83, 84, 85, 86, 87, 88, 89, 90, 91, 92, 23, 93, 94, 95, 96, 147, 148, 149, 125, 126, 127, 128, 129, 130, 131, 132, 133, 135, 136, 137, 138, 150, 151, 152, 134] rfl (by decide +kernel)) (goodIn_sub (fun _ h => List.mem_cons_of_mem _ (List.mem_append_left _ (List.mem_append_right _ h))) (by decide +kernel))
set_option maxRecDepth 20000 in
theorem gX9_trim_X3_trimHedge : GoodIn wsX9_trim (wsV RX9 92 RX3 yX3_trimHedge wsX3_trimHedge) := goodIn_app (goodIn_of _ (by decide +kernel)) ggX9_trim_X3_trimHedge
set_option maxRecDepth 20000 in
theorem ggX9_trim_X9_settled : GoodIn wsX9_trim wsX9_settled := goodIn_ca (goodIn_r _ [101, 102, 103, 104, 1, 105, 106, 107, 108, 109, 110, 111, 112, 113, 84, 75, 85, 114, 5, 6, 7, 8, 9, 10, 11, 12, 13, 14, 15, 16, 17, 18, 19, 20, 21, 22, 23, 24, 25, 26, 27, 28, 29, 30, 31, 32, 33, 34, 35, 36, 37, 38, 39, 40, 41, 42, 43, 44, 45, 46, 47, 48, 49, 115, 116, 117, 118, 119, 120, 121, 122, 123, 124, 153, 154, 155, 125, 126, 127, 128, 129, 130, 131, 132, 133, 134, 135, 136, 137, 138, 139, 140, 141, 142, 143, 144, 145, 146] rfl (by decide +kernel)) (goodIn_sub (fun _ h => List.mem_cons_of_mem _ (List.mem_append_right _ h)) (by decide +kernel))
set_option maxRecDepth 20000 in
theorem gX9_trim_X9_settled : GoodIn wsX9_trim (wsV RX9 84 RX9 yX9_settled wsX9_settled) := goodIn_app (goodIn_of _ (by decide +kernel)) ggX9_trim_X9_settled
set_option maxRecDepth 20000 in
theorem ggX9_minotaur_X6_copyFrom : GoodIn wsX9_minotaur wsX6_copyFrom := goodIn_r _ [8, 9, 10, 11, 12, 13, 14, 15, 16, 17, 18, 19, 20, 21, 22, 23, 24, 25, 26, 27, 28, 29, 30, 31, 32, 33, 34, 35, 36, 37, 38, 39, 40, 41, 42, 43, 44, 45, 46, 47, 48, 49, 120, 121, 122, 123, 124, 125, 126, 127, 128, 129, 130, 131, 132, 133, 134, 135, 136, 137, 138, 139, 140, 141] rfl (by decide +kernel)
set_option maxRecDepth 20000 in
theorem gX9_minotaur_X6_copyFrom : GoodIn wsX9_minotaur (wsV RX9 76 RX6 yX6_copyFrom wsX6_copyFrom) := goodIn_app (goodIn_of _ (by decide +kernel)) ggX9_minotaur_X6_copyFrom
