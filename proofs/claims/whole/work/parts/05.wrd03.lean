set_option maxRecDepth 20000 in
theorem gX8_relaxFrom_X8_startFrom : GoodIn wsX8_relaxFrom (wsV RX8 46 RX8 yX8_startFrom wsX8_startFrom) := goodIn_app (goodIn_of _ (by decide +kernel)) ggX8_relaxFrom_X8_startFrom
set_option maxRecDepth 20000 in
theorem ggX8_relaxFrom_X4_isOpen : GoodIn wsX8_relaxFrom wsX4_isOpen := goodIn_ca (goodIn_r _ [19, 20, 21, 22, 14, 23, 24, 32] (by decide +kernel) (by decide +kernel)) (goodIn_sub (fun _ h => List.mem_cons_of_mem _ (List.mem_append_right _ h)) (by decide +kernel))
set_option maxRecDepth 20000 in
theorem gX8_relaxFrom_X4_isOpen : GoodIn wsX8_relaxFrom (wsV RX8 53 RX4 yX4_isOpen wsX4_isOpen) := goodIn_app (goodIn_of _ (by decide +kernel)) ggX8_relaxFrom_X4_isOpen
set_option maxRecDepth 20000 in
theorem ggX8_relaxFrom_X8_lower : GoodIn wsX8_relaxFrom wsX8_lower := goodIn_ca (goodIn_r _ [28, 7, 29, 30, 31] (by decide +kernel) (by decide +kernel)) (goodIn_sub (fun _ h => List.mem_cons_of_mem _ (List.mem_append_right _ h)) (by decide +kernel))
set_option maxRecDepth 20000 in
theorem gX8_relaxFrom_X8_lower : GoodIn wsX8_relaxFrom (wsV RX8 62 RX8 yX8_lower wsX8_lower) := goodIn_app (goodIn_of _ (by decide +kernel)) ggX8_relaxFrom_X8_lower
set_option maxRecDepth 20000 in
theorem ggX8_stepToExit_X8_measureFrom : GoodIn wsX8_stepToExit wsX8_measureFrom := goodIn_ca (goodIn_r _ [6, 7, 1, 8, 9, 10, 11, 5, 12, 13, 14, 15, 16, 17, 18, 19, 20, 21, 22, 23, 24, 25, 26, 27, 28, 29, 30, 31, 32, 33, 34, 35, 36, 37, 38, 39, 40, 41, 42] (by decide +kernel) (by decide +kernel)) (goodIn_sub (fun _ h => List.mem_cons_of_mem _ (List.mem_append_right _ h)) (by decide +kernel))
set_option maxRecDepth 20000 in
theorem gX8_stepToExit_X8_measureFrom : GoodIn wsX8_stepToExit (wsV RX8 22 RX8 yX8_measureFrom wsX8_measureFrom) := goodIn_app (goodIn_of _ (by decide +kernel)) ggX8_stepToExit_X8_measureFrom
set_option maxRecDepth 20000 in
theorem ggX8_stepToExit_X8_distanceOf : GoodIn wsX8_stepToExit wsX8_distanceOf := goodIn_ca (goodIn_r _ [38, 8, 17, 18, 19, 20, 39, 40, 41] (by decide +kernel) (by decide +kernel)) (goodIn_sub (fun _ h => List.mem_cons_of_mem _ (List.mem_append_right _ h)) (by decide +kernel))
set_option maxRecDepth 20000 in
theorem gX8_stepToExit_X8_distanceOf : GoodIn wsX8_stepToExit (wsV RX8 26 RX8 yX8_distanceOf wsX8_distanceOf) := goodIn_app (goodIn_of _ (by decide +kernel)) ggX8_stepToExit_X8_distanceOf
set_option maxRecDepth 20000 in
theorem ggX8_stepToExit_X4_cellAcross : GoodIn wsX8_stepToExit wsX4_cellAcross := goodIn_ca (goodIn_r _ [23, 24, 25] (by decide +kernel) (by decide +kernel)) (goodIn_sub (fun _ h => List.mem_cons_of_mem _ (List.mem_append_right _ h)) (by decide +kernel))
set_option maxRecDepth 20000 in
theorem gX8_stepToExit_X4_cellAcross : GoodIn wsX8_stepToExit (va_wsS RX8 49 yX4_cellAcross wsX4_cellAcross) := goodIn_app (goodIn_of _ (by decide +kernel)) ggX8_stepToExit_X4_cellAcross
set_option maxRecDepth 20000 in
theorem ggX8_stepToExit_X4_isOpen : GoodIn wsX8_stepToExit wsX4_isOpen := goodIn_ca (goodIn_r _ [29, 30, 31, 32, 19, 33, 34, 42] (by decide +kernel) (by decide +kernel)) (goodIn_sub (fun _ h => List.mem_cons_of_mem _ (List.mem_append_right _ h)) (by decide +kernel))
set_option maxRecDepth 20000 in
theorem gX8_stepToExit_X4_isOpen : GoodIn wsX8_stepToExit (wsV RX8 53 RX4 yX4_isOpen wsX4_isOpen) := goodIn_app (goodIn_of _ (by decide +kernel)) ggX8_stepToExit_X4_isOpen
set_option maxRecDepth 20000 in
theorem ggX8_cellsReached_X8_flood : GoodIn wsX8_cellsReached wsX8_flood := goodIn_ca (goodIn_r _ [5, 6, 7, 8, 9, 10, 11, 12, 13, 14, 4, 15, 16, 17, 18, 19] (by decide +kernel) (by decide +kernel)) (goodIn_sub (fun _ h => List.mem_cons_of_mem _ (List.mem_append_right _ h)) (by decide +kernel))
set_option maxRecDepth 20000 in
theorem gX8_cellsReached_X8_flood : GoodIn wsX8_cellsReached (wsV RX8 66 RX8 yX8_flood wsX8_flood) := goodIn_app (goodIn_of _ (by decide +kernel)) ggX8_cellsReached_X8_flood
set_option maxRecDepth 20000 in
theorem ggX8_leadsThrough_X8_flood : GoodIn wsX8_leadsThrough wsX8_flood := goodIn_ca (goodIn_r _ [5, 6, 7, 8, 9, 10, 11, 12, 13, 14, 4, 15, 20, 21, 22, 23] (by decide +kernel) (by decide +kernel)) (goodIn_sub (fun _ h => List.mem_cons_of_mem _ (List.mem_append_right _ h)) (by decide +kernel))
set_option maxRecDepth 20000 in
theorem gX8_leadsThrough_X8_flood : GoodIn wsX8_leadsThrough (wsV RX8 66 RX8 yX8_flood wsX8_flood) := goodIn_app (goodIn_of _ (by decide +kernel)) ggX8_leadsThrough_X8_flood
set_option maxRecDepth 20000 in
theorem ggX8_leadsThrough_X8_holdsExit : GoodIn wsX8_leadsThrough wsX8_holdsExit := goodIn_r _ [18, 19] (by decide +kernel) (by decide +kernel)
set_option maxRecDepth 20000 in
theorem gX8_leadsThrough_X8_holdsExit : GoodIn wsX8_leadsThrough (va_wsS RX8 70 yX8_holdsExit wsX8_holdsExit) := goodIn_app (goodIn_of _ (by decide +kernel)) ggX8_leadsThrough_X8_holdsExit
set_option maxRecDepth 20000 in
theorem ggX8_trimsByNumber_X8_cellsReached : GoodIn wsX8_trimsByNumber wsX8_cellsReached := goodIn_ca (goodIn_r _ [5, 6, 7, 8, 4, 9, 10, 11, 12, 13, 14, 15, 16, 17, 18, 19, 27, 28, 29, 30] (by decide +kernel) (by decide +kernel)) (goodIn_sub (fun _ h => List.mem_cons_of_mem _ (List.mem_append_right _ h)) (by decide +kernel))
set_option maxRecDepth 20000 in
theorem gX8_trimsByNumber_X8_cellsReached : GoodIn wsX8_trimsByNumber (wsV RX8 73 RX8 yX8_cellsReached wsX8_cellsReached) := goodIn_app (goodIn_of _ (by decide +kernel)) ggX8_trimsByNumber_X8_cellsReached
set_option maxRecDepth 20000 in
theorem ggX8_trimsByNumber_X8_holdsExit : GoodIn wsX8_trimsByNumber wsX8_holdsExit := goodIn_r _ [22, 23] (by decide +kernel) (by decide +kernel)
set_option maxRecDepth 20000 in
theorem gX8_trimsByNumber_X8_holdsExit : GoodIn wsX8_trimsByNumber (va_wsS RX8 70 yX8_holdsExit wsX8_holdsExit) := goodIn_app (goodIn_of _ (by decide +kernel)) ggX8_trimsByNumber_X8_holdsExit
set_option maxRecDepth 20000 in
theorem ggX8_trimsByNumber_X8_widened : GoodIn wsX8_trimsByNumber wsX8_widened := goodIn_ca (goodIn_r _ [26, 17, 18, 4, 19] (by decide +kernel) (by decide +kernel)) (goodIn_sub (fun _ h => List.mem_cons_of_mem _ (List.mem_append_right _ h)) (by decide +kernel))
set_option maxRecDepth 20000 in
theorem gX8_trimsByNumber_X8_widened : GoodIn wsX8_trimsByNumber (va_wsS RX8 76 yX8_widened wsX8_widened) := goodIn_app (goodIn_of _ (by decide +kernel)) ggX8_trimsByNumber_X8_widened
set_option maxRecDepth 20000 in
theorem ggX8_trimsByNumber_X8_flood : GoodIn wsX8_trimsByNumber wsX8_flood := goodIn_ca (goodIn_r _ [9, 10, 11, 12, 13, 14, 15, 16, 17, 18, 4, 19, 27, 28, 29, 30] (by decide +kernel) (by decide +kernel)) (goodIn_sub (fun _ h => List.mem_cons_of_mem _ (List.mem_append_right _ h)) (by decide +kernel))
set_option maxRecDepth 20000 in
theorem gX8_trimsByNumber_X8_flood : GoodIn wsX8_trimsByNumber (wsV RX8 66 RX8 yX8_flood wsX8_flood) := goodIn_app (goodIn_of _ (by decide +kernel)) ggX8_trimsByNumber_X8_flood
set_option maxRecDepth 20000 in
theorem ggX8_flood_X4_leavesOf : GoodIn wsX8_flood wsX4_leavesOf := goodIn_ca (goodIn_r _ [6, 7, 15] (by decide +kernel) (by decide +kernel)) (goodIn_sub (fun _ h => List.mem_cons_of_mem _ (List.mem_append_right _ h)) (by decide +kernel))
set_option maxRecDepth 20000 in
theorem gX8_flood_X4_leavesOf : GoodIn wsX8_flood (wsV RX8 80 RX4 yX4_leavesOf wsX4_leavesOf) := goodIn_app (goodIn_of _ (by decide +kernel)) ggX8_flood_X4_leavesOf
set_option maxRecDepth 20000 in
theorem ggX8_flood_X8_joinedBy : GoodIn wsX8_flood wsX8_joinedBy := goodIn_ca (goodIn_r _ [11] (by decide +kernel) (by decide +kernel)) (goodIn_sub (fun _ h => List.mem_cons_of_mem _ (List.mem_append_right _ h)) (by decide +kernel))
set_option maxRecDepth 20000 in
theorem gX8_flood_X8_joinedBy : GoodIn wsX8_flood (va_wsS RX8 83 yX8_joinedBy wsX8_joinedBy) := goodIn_app (goodIn_of _ (by decide +kernel)) ggX8_flood_X8_joinedBy
set_option maxRecDepth 20000 in
theorem ggX8_widened_X8_joinedBy : GoodIn wsX8_widened wsX8_joinedBy := goodIn_ca (goodIn_r _ [4] (by decide +kernel) (by decide +kernel)) (goodIn_sub (fun _ h => List.mem_cons_of_mem _ (List.mem_append_right _ h)) (by decide +kernel))
set_option maxRecDepth 20000 in
theorem gX8_widened_X8_joinedBy : GoodIn wsX8_widened (va_wsS RX8 83 yX8_joinedBy wsX8_joinedBy) := goodIn_app (goodIn_of _ (by decide +kernel)) ggX8_widened_X8_joinedBy
set_option maxRecDepth 20000 in
theorem ggX9_init_X6_init : GoodIn wsX9_init wsX6_init := goodIn_r _ [37, 38, 2, 3, 39, 40, 41, 42, 43, 44, 45, 46, 47, 48, 49, 50, 51, 52, 53, 54, 55, 56, 57, 58, 59, 60, 61, 62, 63, 64, 65, 163, 120, 121, 122, 123, 124, 125, 126, 127, 128, 164, 165, 166, 167, 168, 169, 170, 171, 172, 173, 174, 175] (by decide +kernel) (by decide +kernel)
set_option maxRecDepth 20000 in
theorem gX9_init_X6_init : GoodIn wsX9_init (wsX6_init) := ggX9_init_X6_init
set_option maxRecDepth 20000 in
theorem ggX9_init_X2_init : GoodIn wsX9_init wsX2_init := goodIn_r _ [68, 69, 2, 3, 70, 71, 5, 6, 72, 36, 37, 38, 39, 40, 41, 42, 43, 44, 45, 46, 47, 48, 49, 50, 51, 52, 53, 54, 55, 56, 57, 58, 59, 60, 61, 62, 63, 64, 65, 139, 140, 141, 120, 121, 122, 123, 124, 125, 126, 127, 128, 163, 164, 165, 166, 167, 168, 169, 170, 171, 172, 173, 174, 175] (by decide +kernel) (by decide +kernel)
set_option maxRecDepth 20000 in
theorem gX9_init_X2_init : GoodIn wsX9_init (wsX2_init) := ggX9_init_X2_init
set_option maxRecDepth 20000 in
theorem ggX9_init_X5_init : GoodIn wsX9_init wsX5_init := goodIn_r _ [74, 75, 2, 3] (by decide +kernel) (by decide +kernel)
set_option maxRecDepth 20000 in
theorem gX9_init_X5_init_n35 : GoodIn wsX9_init (wsX5_init) := ggX9_init_X5_init
set_option maxRecDepth 20000 in
theorem ggX9_init_X8_init : GoodIn wsX9_init wsX8_init := goodIn_r _ [78, 79, 2, 3, 80, 56, 81, 82, 145, 146, 147] (by decide +kernel) (by decide +kernel)
set_option maxRecDepth 20000 in
theorem gX9_init_X8_init : GoodIn wsX9_init (wsX8_init) := ggX9_init_X8_init
set_option maxRecDepth 20000 in
theorem ggX9_init_X3_init : GoodIn wsX9_init wsX3_init := goodIn_r _ [85, 86, 2, 3, 87, 88, 89, 148, 149, 150] (by decide +kernel) (by decide +kernel)
set_option maxRecDepth 20000 in
theorem gX9_init_X3_init : GoodIn wsX9_init (wsX3_init) := ggX9_init_X3_init
set_option maxRecDepth 20000 in
theorem ggX9_init_X0_init : GoodIn wsX9_init wsX0_init := goodIn_r _ [92, 93, 2, 3, 94, 95, 96, 97, 56, 98, 99, 151, 152, 153, 154, 155, 156, 157, 158] (by decide +kernel) (by decide +kernel)
set_option maxRecDepth 20000 in
theorem gX9_init_X0_init : GoodIn wsX9_init (wsX0_init) := ggX9_init_X0_init
set_option maxRecDepth 20000 in
theorem ggX9_init_J4_init_da8c8 : GoodIn wsX9_init wsJ4_init_da8c8 := goodIn_r _ [102, 103, 104, 105, 106, 107, 2, 3, 108, 109, 110, 111, 112, 113, 114, 115, 116, 117, 118, 119, 159, 160, 161, 162] (by decide +kernel) (by decide +kernel)
set_option maxRecDepth 20000 in
theorem gX9_init_J4_init_da8c8 : GoodIn wsX9_init (wsJ4_init_da8c8) := ggX9_init_J4_init_da8c8
set_option maxRecDepth 20000 in
theorem ggX9_hedge_X6_copyFrom : GoodIn wsX9_hedge wsX6_copyFrom := goodIn_r _ [8, 9, 10, 11, 12, 13, 14, 15, 16, 17, 18, 19, 20, 21, 22, 23, 24, 25, 26, 27, 28, 29, 30, 31, 32, 33, 34, 35, 36, 37, 38, 39, 40, 41, 42, 43, 44, 45, 46, 47, 48, 49, 121, 122, 123, 124, 125, 126, 127, 128, 129, 130, 131, 132, 133, 134, 135, 136, 137, 138, 139, 140, 141, 142] (by decide +kernel) (by decide +kernel)
set_option maxRecDepth 20000 in
theorem gX9_hedge_X6_copyFrom : GoodIn wsX9_hedge (wsV RX9 76 RX6 yX6_copyFrom wsX6_copyFrom) := goodIn_app (goodIn_of _ (by decide +kernel)) ggX9_hedge_X6_copyFrom
set_option maxRecDepth 20000 in
theorem ggX9_hedge_X3_tellLeaves : GoodIn wsX9_hedge wsX3_tellLeaves := goodIn_ca (goodIn_r _ [54, 55, 56, 57, 58, 59, 60, 61, 62, 63, 64, 65, 66, 67, 53, 68, 69, 70, 71, 72, 73, 74, 21, 75, 76, 77, 78, 79, 80, 81, 82, 83, 84, 85, 86, 87, 88, 23, 89, 90, 91, 92, 143, 144, 145, 121, 122, 123, 124, 125, 126, 127, 128, 129, 146, 147, 148, 130] (by decide +kernel) (by decide +kernel)) (goodIn_sub (fun _ h => List.mem_cons_of_mem _ (List.mem_append_left _ (List.mem_append_right _ h))) (by decide +kernel))
set_option maxRecDepth 20000 in
theorem gX9_hedge_X3_tellLeaves : GoodIn wsX9_hedge (wsV RX9 80 RX3 yX3_tellLeaves wsX3_tellLeaves) := goodIn_app (goodIn_of _ (by decide +kernel)) ggX9_hedge_X3_tellLeaves
set_option maxRecDepth 20000 in
theorem ggX9_hedge_X9_settled : GoodIn wsX9_hedge wsX9_settled := goodIn_ca (goodIn_r _ [97, 98, 99, 100, 1, 101, 102, 103, 104, 105, 106, 107, 108, 109, 80, 71, 81, 110, 5, 6, 7, 8, 9, 10, 11, 12, 13, 14, 15, 16, 17, 18, 19, 20, 21, 22, 23, 24, 25, 26, 27, 28, 29, 30, 31, 32, 33, 34, 35, 36, 37, 38, 39, 40, 41, 42, 43, 44, 45, 46, 47, 48, 49, 111, 112, 113, 114, 115, 116, 117, 118, 119, 120, 149, 150, 151, 121, 122, 123, 124, 125, 126, 127, 128, 129, 130, 131, 132, 133, 134, 135, 136, 137, 138, 139, 140, 141, 142] (by decide +kernel) (by decide +kernel)) (goodIn_sub (fun _ h => List.mem_cons_of_mem _ (List.mem_append_right _ h)) (by decide +kernel))
set_option maxRecDepth 20000 in
theorem gX9_hedge_X9_settled : GoodIn wsX9_hedge (wsV RX9 84 RX9 yX9_settled wsX9_settled) := goodIn_app (goodIn_of _ (by decide +kernel)) ggX9_hedge_X9_settled
set_option maxRecDepth 20000 in
theorem ggX9_summer_X6_copyFrom : GoodIn wsX9_summer wsX6_copyFrom := goodIn_r _ [8, 9, 10, 11, 12, 13, 14, 15, 16, 17, 18, 19, 20, 21, 22, 23, 24, 25, 26, 27, 28, 29, 30, 31, 32, 33, 34, 35, 36, 37, 38, 39, 40, 41, 42, 43, 44, 45, 46, 47, 48, 49, 104, 105, 106, 107, 108, 109, 110, 111, 112, 113, 114, 115, 116, 117, 118, 119, 120, 121, 122, 123, 124, 125] (by decide +kernel) (by decide +kernel)
set_option maxRecDepth 20000 in
theorem gX9_summer_X6_copyFrom : GoodIn wsX9_summer (wsV RX9 76 RX6 yX6_copyFrom wsX6_copyFrom) := goodIn_app (goodIn_of _ (by decide +kernel)) ggX9_summer_X6_copyFrom
set_option maxRecDepth 20000 in
theorem ggX9_summer_X3_passSummer : GoodIn wsX9_summer wsX3_passSummer := goodIn_ca (goodIn_r _ [54, 55, 56, 57, 58, 21, 59, 60, 61, 62, 63, 64, 65, 66, 67, 23, 68, 69, 70, 71, 72, 73, 74, 75, 126, 127, 128, 104, 105, 106, 107, 108, 109, 110, 111, 112, 113] (by decide +kernel) (by decide +kernel)) (goodIn_sub (fun _ h => List.mem_cons_of_mem _ (List.mem_append_left _ (List.mem_append_right _ h))) (by decide +kernel))
set_option maxRecDepth 20000 in
theorem gX9_summer_X3_passSummer : GoodIn wsX9_summer (wsV RX9 88 RX3 yX3_passSummer wsX3_passSummer) := goodIn_app (goodIn_of _ (by decide +kernel)) ggX9_summer_X3_passSummer
set_option maxRecDepth 20000 in
theorem ggX9_summer_X9_settled : GoodIn wsX9_summer wsX9_settled := goodIn_ca (goodIn_r _ [80, 81, 82, 83, 1, 84, 85, 86, 87, 88, 89, 90, 91, 92, 73, 74, 75, 93, 5, 6, 7, 8, 9, 10, 11, 12, 13, 14, 15, 16, 17, 18, 19, 20, 21, 22, 23, 24, 25, 26, 27, 28, 29, 30, 31, 32, 33, 34, 35, 36, 37, 38, 39, 40, 41, 42, 43, 44, 45, 46, 47, 48, 49, 94, 95, 96, 97, 98, 99, 100, 101, 102, 103, 129, 130, 131, 104, 105, 106, 107, 108, 109, 110, 111, 112, 113, 114, 115, 116, 117, 118, 119, 120, 121, 122, 123, 124, 125] (by decide +kernel) (by decide +kernel)) (goodIn_sub (fun _ h => List.mem_cons_of_mem _ (List.mem_append_right _ h)) (by decide +kernel))
set_option maxRecDepth 20000 in
theorem gX9_summer_X9_settled : GoodIn wsX9_summer (wsV RX9 84 RX9 yX9_settled wsX9_settled) := goodIn_app (goodIn_of _ (by decide +kernel)) ggX9_summer_X9_settled
set_option maxRecDepth 20000 in
theorem ggX9_trim_X6_copyFrom : GoodIn wsX9_trim wsX6_copyFrom := goodIn_r _ [8, 9, 10, 11, 12, 13, 14, 15, 16, 17, 18, 19, 20, 21, 22, 23, 24, 25, 26, 27, 28, 29, 30, 31, 32, 33, 34, 35, 36, 37, 38, 39, 40, 41, 42, 43, 44, 45, 46, 47, 48, 49, 125, 126, 127, 128, 129, 130, 131, 132, 133, 134, 135, 136, 137, 138, 139, 140, 141, 142, 143, 144, 145, 146] (by decide +kernel) (by decide +kernel)
set_option maxRecDepth 20000 in
theorem gX9_trim_X6_copyFrom : GoodIn wsX9_trim (wsV RX9 76 RX6 yX6_copyFrom wsX6_copyFrom) := goodIn_app (goodIn_of _ (by decide +kernel)) ggX9_trim_X6_copyFrom
set_option maxRecDepth 20000 in
theorem ggX9_trim_X3_trimHedge : GoodIn wsX9_trim wsX3_trimHedge := goodIn_ca (goodIn_r _ [54, 55, 56, 57, 58, 59, 7, 60, 12, 10, 61, 62, 63, 64, 65, 66, 67, 68, 69, 70, 71, 53, 72, 73, 74, 75, 76, 77, 78, 21, 79, 80, 81, 82, 83, 84, 85, 86, 87, 88, 89, 90, 91, 92, 23, 93, 94, 95, 96, 147, 148, 149, 125, 126, 127, 128, 129, 130, 131, 132, 133, 135, 136, 137, 138, 150, 151, 152, 134] (by decide +kernel) (by decide +kernel)) (goodIn_sub (fun _ h => List.mem_cons_of_mem _ (List.mem_append_left _ (List.mem_append_right _ h))) (by decide +kernel))
set_option maxRecDepth 20000 in
theorem gX9_trim_X3_trimHedge : GoodIn wsX9_trim (wsV RX9 92 RX3 yX3_trimHedge wsX3_trimHedge) := goodIn_app (goodIn_of _ (by decide +kernel)) ggX9_trim_X3_trimHedge
set_option maxRecDepth 20000 in
theorem ggX9_trim_X9_settled : GoodIn wsX9_trim wsX9_settled := goodIn_ca (goodIn_r _ [101, 102, 103, 104, 1, 105, 106, 107, 108, 109, 110, 111, 112, 113, 84, 75, 85, 114, 5, 6, 7, 8, 9, 10, 11, 12, 13, 14, 15, 16, 17, 18, 19, 20, 21, 22, 23, 24, 25, 26, 27, 28, 29, 30, 31, 32, 33, 34, 35, 36, 37, 38, 39, 40, 41, 42, 43, 44, 45, 46, 47, 48, 49, 115, 116, 117, 118, 119, 120, 121, 122, 123, 124, 153, 154, 155, 125, 126, 127, 128, 129, 130, 131, 132, 133, 134, 135, 136, 137, 138, 139, 140, 141, 142, 143, 144, 145, 146] (by decide +kernel) (by decide +kernel)) (goodIn_sub (fun _ h => List.mem_cons_of_mem _ (List.mem_append_right _ h)) (by decide +kernel))
set_option maxRecDepth 20000 in
theorem gX9_trim_X9_settled : GoodIn wsX9_trim (wsV RX9 84 RX9 yX9_settled wsX9_settled) := goodIn_app (goodIn_of _ (by decide +kernel)) ggX9_trim_X9_settled
set_option maxRecDepth 20000 in
theorem ggX9_minotaur_X6_copyFrom : GoodIn wsX9_minotaur wsX6_copyFrom := goodIn_r _ [8, 9, 10, 11, 12, 13, 14, 15, 16, 17, 18, 19, 20, 21, 22, 23, 24, 25, 26, 27, 28, 29, 30, 31, 32, 33, 34, 35, 36, 37, 38, 39, 40, 41, 42, 43, 44, 45, 46, 47, 48, 49, 120, 121, 122, 123, 124, 125, 126, 127, 128, 129, 130, 131, 132, 133, 134, 135, 136, 137, 138, 139, 140, 141] (by decide +kernel) (by decide +kernel)
set_option maxRecDepth 20000 in
theorem gX9_minotaur_X6_copyFrom : GoodIn wsX9_minotaur (wsV RX9 76 RX6 yX6_copyFrom wsX6_copyFrom) := goodIn_app (goodIn_of _ (by decide +kernel)) ggX9_minotaur_X6_copyFrom
