set_option maxRecDepth 20000 in
theorem gX8_stepToExit_X8_distanceOf : GoodIn wsX8_stepToExit (wsV RX8 26 RX8 yX8_distanceOf wsX8_distanceOf) := goodIn_app (goodIn_of _ (by decide +kernel)) ggX8_stepToExit_X8_distanceOf
set_option maxRecDepth 20000 in
theorem ggX8_stepToExit_X4_cellAcross : GoodIn wsX8_stepToExit wsX4_cellAcross := goodIn_ca (goodIn_r _ [23, 24, 25] rfl (by decide +kernel)) (goodIn_sub (fun _ h => List.mem_cons_of_mem _ (List.mem_append_right _ h)) (by decide +kernel))
set_option maxRecDepth 20000 in
theorem gX8_stepToExit_X4_cellAcross : GoodIn wsX8_stepToExit (va_wsS RX8 49 yX4_cellAcross wsX4_cellAcross) := goodIn_app (goodIn_of _ (by decide +kernel)) ggX8_stepToExit_X4_cellAcross
set_option maxRecDepth 20000 in
theorem ggX8_stepToExit_X4_isOpen : GoodIn wsX8_stepToExit wsX4_isOpen := goodIn_ca (goodIn_r _ [29, 30, 31, 32, 19, 33, 34, 42] rfl (by decide +kernel)) (goodIn_sub (fun _ h => List.mem_cons_of_mem _ (List.mem_append_right _ h)) (by decide +kernel))
set_option maxRecDepth 20000 in
theorem gX8_stepToExit_X4_isOpen : GoodIn wsX8_stepToExit (wsV RX8 53 RX4 yX4_isOpen wsX4_isOpen) := goodIn_app (goodIn_of _ (by decide +kernel)) ggX8_stepToExit_X4_isOpen
set_option maxRecDepth 20000 in
theorem ggX8_cellsReached_X8_flood : GoodIn wsX8_cellsReached wsX8_flood := goodIn_ca (goodIn_r _ [5, 6, 7, 8, 9, 10, 11, 12, 13, 14, 4, 15, 16, 17, 18, 19] rfl (by decide +kernel)) (goodIn_sub (fun _ h => List.mem_cons_of_mem _ (List.mem_append_right _ h)) (by decide +kernel))
set_option maxRecDepth 20000 in
theorem gX8_cellsReached_X8_flood : GoodIn wsX8_cellsReached (wsV RX8 66 RX8 yX8_flood wsX8_flood) := goodIn_app (goodIn_of _ (by decide +kernel)) ggX8_cellsReached_X8_flood
set_option maxRecDepth 20000 in
theorem ggX8_leadsThrough_X8_flood : GoodIn wsX8_leadsThrough wsX8_flood := goodIn_ca (goodIn_r _ [5, 6, 7, 8, 9, 10, 11, 12, 13, 14, 4, 15, 20, 21, 22, 23] rfl (by decide +kernel)) (goodIn_sub (fun _ h => List.mem_cons_of_mem _ (List.mem_append_right _ h)) (by decide +kernel))
set_option maxRecDepth 20000 in
theorem gX8_leadsThrough_X8_flood : GoodIn wsX8_leadsThrough (wsV RX8 66 RX8 yX8_flood wsX8_flood) := goodIn_app (goodIn_of _ (by decide +kernel)) ggX8_leadsThrough_X8_flood
set_option maxRecDepth 20000 in
theorem ggX8_leadsThrough_X8_holdsExit : GoodIn wsX8_leadsThrough wsX8_holdsExit := goodIn_r _ [18, 19] rfl (by decide +kernel)
set_option maxRecDepth 20000 in
theorem gX8_leadsThrough_X8_holdsExit : GoodIn wsX8_leadsThrough (va_wsS RX8 70 yX8_holdsExit wsX8_holdsExit) := goodIn_app (goodIn_of _ (by decide +kernel)) ggX8_leadsThrough_X8_holdsExit
set_option maxRecDepth 20000 in
theorem ggX8_trimsByNumber_X8_cellsReached : GoodIn wsX8_trimsByNumber wsX8_cellsReached := goodIn_ca (goodIn_r _ [5, 6, 7, 8, 4, 9, 10, 11, 12, 13, 14, 15, 16, 17, 18, 19, 27, 28, 29, 30] rfl (by decide +kernel)) (goodIn_sub (fun _ h => List.mem_cons_of_mem _ (List.mem_append_right _ h)) (by decide +kernel))
set_option maxRecDepth 20000 in
theorem gX8_trimsByNumber_X8_cellsReached : GoodIn wsX8_trimsByNumber (wsV RX8 73 RX8 yX8_cellsReached wsX8_cellsReached) := goodIn_app (goodIn_of _ (by decide +kernel)) ggX8_trimsByNumber_X8_cellsReached
set_option maxRecDepth 20000 in
theorem ggX8_trimsByNumber_X8_holdsExit : GoodIn wsX8_trimsByNumber wsX8_holdsExit := goodIn_r _ [22, 23] rfl (by decide +kernel)
set_option maxRecDepth 20000 in
theorem gX8_trimsByNumber_X8_holdsExit : GoodIn wsX8_trimsByNumber (va_wsS RX8 70 yX8_holdsExit wsX8_holdsExit) := goodIn_app (goodIn_of _ (by decide +kernel)) ggX8_trimsByNumber_X8_holdsExit
set_option maxRecDepth 20000 in
theorem ggX8_trimsByNumber_X8_widened : GoodIn wsX8_trimsByNumber wsX8_widened := goodIn_ca (goodIn_r _ [26, 17, 18, 4, 19] rfl (by decide +kernel)) (goodIn_sub (fun _ h => List.mem_cons_of_mem _ (List.mem_append_right _ h)) (by decide +kernel))
set_option maxRecDepth 20000 in
theorem gX8_trimsByNumber_X8_widened : GoodIn wsX8_trimsByNumber (va_wsS RX8 76 yX8_widened wsX8_widened) := goodIn_app (goodIn_of _ (by decide +kernel)) ggX8_trimsByNumber_X8_widened
set_option maxRecDepth 20000 in
theorem ggX8_trimsByNumber_X8_flood : GoodIn wsX8_trimsByNumber wsX8_flood := goodIn_ca (goodIn_r _ [9, 10, 11, 12, 13, 14, 15, 16, 17, 18, 4, 19, 27, 28, 29, 30] rfl (by decide +kernel)) (goodIn_sub (fun _ h => List.mem_cons_of_mem _ (List.mem_append_right _ h)) (by decide +kernel))
set_option maxRecDepth 20000 in
theorem gX8_trimsByNumber_X8_flood : GoodIn wsX8_trimsByNumber (wsV RX8 66 RX8 yX8_flood wsX8_flood) := goodIn_app (goodIn_of _ (by decide +kernel)) ggX8_trimsByNumber_X8_flood
set_option maxRecDepth 20000 in
theorem ggX8_flood_X4_leavesOf : GoodIn wsX8_flood wsX4_leavesOf := goodIn_ca (goodIn_r _ [6, 7, 15] rfl (by decide +kernel)) (goodIn_sub (fun _ h => List.mem_cons_of_mem _ (List.mem_append_right _ h)) (by decide +kernel))
set_option maxRecDepth 20000 in
theorem gX8_flood_X4_leavesOf : GoodIn wsX8_flood (wsV RX8 80 RX4 yX4_leavesOf wsX4_leavesOf) := goodIn_app (goodIn_of _ (by decide +kernel)) ggX8_flood_X4_leavesOf
set_option maxRecDepth 20000 in
theorem ggX8_flood_X8_joinedBy : GoodIn wsX8_flood wsX8_joinedBy := goodIn_ca (goodIn_r _ [11] rfl (by decide +kernel)) (goodIn_sub (fun _ h => List.mem_cons_of_mem _ (List.mem_append_right _ h)) (by decide +kernel))
set_option maxRecDepth 20000 in
theorem gX8_flood_X8_joinedBy : GoodIn wsX8_flood (va_wsS RX8 83 yX8_joinedBy wsX8_joinedBy) := goodIn_app (goodIn_of _ (by decide +kernel)) ggX8_flood_X8_joinedBy
set_option maxRecDepth 20000 in
theorem ggX8_widened_X8_joinedBy : GoodIn wsX8_widened wsX8_joinedBy := goodIn_ca (goodIn_r _ [4] rfl (by decide +kernel)) (goodIn_sub (fun _ h => List.mem_cons_of_mem _ (List.mem_append_right _ h)) (by decide +kernel))
set_option maxRecDepth 20000 in
theorem gX8_widened_X8_joinedBy : GoodIn wsX8_widened (va_wsS RX8 83 yX8_joinedBy wsX8_joinedBy) := goodIn_app (goodIn_of _ (by decide +kernel)) ggX8_widened_X8_joinedBy
set_option maxRecDepth 20000 in
theorem ggX9_init_X6_init : GoodIn wsX9_init wsX6_init := goodIn_r _ [37, 38, 2, 3, 39, 40, 41, 42, 43, 44, 45, 46, 47, 48, 49, 50, 51, 52, 53, 54, 55, 56, 57, 58, 59, 60, 61, 62, 63, 64, 65, 163, 120, 121, 122, 123, 124, 125, 126, 127, 128, 164, 165, 166, 167, 168, 169, 170, 171, 172, 173, 174, 175] rfl (by decide +kernel)
set_option maxRecDepth 20000 in
theorem gX9_init_X6_init : GoodIn wsX9_init (wsX6_init) := ggX9_init_X6_init
set_option maxRecDepth 20000 in
theorem ggX9_init_X2_init : GoodIn wsX9_init wsX2_init := goodIn_r _ [68, 69, 2, 3, 70, 71, 5, 6, 72, 36, 37, 38, 39, 40, 41, 42, 43, 44, 45, 46, 47, 48, 49, 50, 51, 52, 53, 54, 55, 56, 57, 58, 59, 60, 61, 62, 63, 64, 65, 139, 140, 141, 120, 121, 122, 123, 124, 125, 126, 127, 128, 163, 164, 165, 166, 167, 168, 169, 170, 171, 172, 173, 174, 175] rfl (by decide +kernel)
set_option maxRecDepth 20000 in
theorem gX9_init_X2_init : GoodIn wsX9_init (wsX2_init) := ggX9_init_X2_init
set_option maxRecDepth 20000 in
theorem ggX9_init_X5_init : GoodIn wsX9_init wsX5_init := goodIn_r _ [74, 75, 2, 3] rfl (by decide +kernel)
set_option maxRecDepth 20000 in
theorem gX9_init_X5_init_n35 : GoodIn wsX9_init (wsX5_init) := ggX9_init_X5_init
set_option maxRecDepth 20000 in
theorem ggX9_init_X8_init : GoodIn wsX9_init wsX8_init := goodIn_r _ [78, 79, 2, 3, 80, 56, 81, 82, 145, 146, 147] rfl (by decide +kernel)
set_option maxRecDepth 20000 in
theorem gX9_init_X8_init : GoodIn wsX9_init (wsX8_init) := ggX9_init_X8_init
set_option maxRecDepth 20000 in
theorem ggX9_init_X3_init : GoodIn wsX9_init wsX3_init := goodIn_r _ [85, 86, 2, 3, 87, 88, 89, 148, 149, 150] rfl (by decide +kernel)
set_option maxRecDepth 20000 in
theorem gX9_init_X3_init : GoodIn wsX9_init (wsX3_init) := ggX9_init_X3_init
set_option maxRecDepth 20000 in
theorem ggX9_init_X0_init : GoodIn wsX9_init wsX0_init := goodIn_r _ [92, 93, 2, 3, 94, 95, 96, 97, 56, 98, 99, 151, 152, 153, 154, 155, 156, 157, 158] rfl (by decide +kernel)
