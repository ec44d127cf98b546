set_option maxRecDepth 20000 in
theorem ggX9_isGap_X4_isOpen : GoodIn wsX9_isGap wsX4_isOpen := goodIn_ca (goodIn_r _ [27, 28, 29, 30, 10, 31, 32, 52] rfl (by decide +kernel)) (goodIn_sub (fun _ h => List.mem_cons_of_mem _ (List.mem_append_right _ h)) (by decide +kernel))
set_option maxRecDepth 20000 in
theorem gX9_isGap_X4_isOpen : GoodIn wsX9_isGap (wsV RX9 139 RX4 yX4_isOpen wsX4_isOpen) := goodIn_app (goodIn_of _ (by decide +kernel)) ggX9_isGap_X4_isOpen
set_option maxRecDepth 20000 in
theorem ggX9_hours_X9_demandCells : GoodIn wsX9_hours wsX9_demandCells := goodIn_ca (goodIn_r _ [5, 6, 7, 8, 9, 10, 11] rfl (by decide +kernel)) (goodIn_sub (fun _ h => List.mem_cons_of_mem _ (List.mem_append_left _ (List.mem_append_left _ (List.mem_append_right _ h)))) (by decide +kernel))
set_option maxRecDepth 20000 in
theorem gX9_hours_X9_demandCells : GoodIn wsX9_hours (va_wsS RX9 132 yX9_demandCells wsX9_demandCells) := goodIn_app (goodIn_of _ (by decide +kernel)) ggX9_hours_X9_demandCells
set_option maxRecDepth 20000 in
theorem ggX9_hours_X8_hoursByDistance : GoodIn wsX9_hours wsX8_hoursByDistance := goodIn_ca (goodIn_r _ [16, 17, 18, 19, 15, 20, 21, 22, 23, 24, 25, 26, 27, 28, 29, 30, 31, 32, 9, 10, 11, 33, 34, 35, 36, 37, 38, 39, 40, 41, 42, 43, 44, 45, 46, 47, 48, 49, 50, 66, 67, 68, 69] rfl (by decide +kernel)) (goodIn_sub (fun _ h => List.mem_cons_of_mem _ (List.mem_append_left _ (List.mem_append_right _ h))) (by decide +kernel))
set_option maxRecDepth 20000 in
theorem gX9_hours_X8_hoursByDistance : GoodIn wsX9_hours (wsV RX9 143 RX8 yX8_hoursByDistance wsX8_hoursByDistance) := goodIn_app (goodIn_of _ (by decide +kernel)) ggX9_hours_X8_hoursByDistance
set_option maxRecDepth 20000 in
theorem ggX9_hours_X9_demandWay : GoodIn wsX9_hours wsX9_demandWay := goodIn_ca (goodIn_r _ [53, 54, 55] rfl (by decide +kernel)) (goodIn_sub (fun _ h => List.mem_cons_of_mem _ (List.mem_append_right _ h)) (by decide +kernel))
set_option maxRecDepth 20000 in
theorem gX9_hours_X9_demandWay : GoodIn wsX9_hours (va_wsS RX9 146 yX9_demandWay wsX9_demandWay) := goodIn_app (goodIn_of _ (by decide +kernel)) ggX9_hours_X9_demandWay
set_option maxRecDepth 20000 in
theorem ggX9_hoursAgain_X9_demandCells : GoodIn wsX9_hoursAgain wsX9_demandCells := goodIn_ca (goodIn_r _ [5, 6, 7, 8, 9, 10, 11] rfl (by decide +kernel)) (goodIn_sub (fun _ h => List.mem_cons_of_mem _ (List.mem_append_left _ (List.mem_append_left _ (List.mem_append_right _ h)))) (by decide +kernel))
set_option maxRecDepth 20000 in
theorem gX9_hoursAgain_X9_demandCells : GoodIn wsX9_hoursAgain (va_wsS RX9 132 yX9_demandCells wsX9_demandCells) := goodIn_app (goodIn_of _ (by decide +kernel)) ggX9_hoursAgain_X9_demandCells
set_option maxRecDepth 20000 in
theorem ggX9_hoursAgain_X8_hoursByNeighbours : GoodIn wsX9_hoursAgain wsX8_hoursByNeighbours := goodIn_ca (goodIn_r _ [16, 17, 18, 19, 15, 20, 21, 22, 23, 24, 25, 26, 27, 28, 29, 30, 31, 9, 10, 11, 32, 33, 34, 35, 36, 37, 38, 39, 40, 41, 42, 43, 44, 45, 46, 47, 48, 64, 65, 66, 67] rfl (by decide +kernel)) (goodIn_sub (fun _ h => List.mem_cons_of_mem _ (List.mem_append_left _ (List.mem_append_right _ h))) (by decide +kernel))
set_option maxRecDepth 20000 in
theorem gX9_hoursAgain_X8_hoursByNeighbours : GoodIn wsX9_hoursAgain (wsV RX9 149 RX8 yX8_hoursByNeighbours wsX8_hoursByNeighbours) := goodIn_app (goodIn_of _ (by decide +kernel)) ggX9_hoursAgain_X8_hoursByNeighbours
set_option maxRecDepth 20000 in
theorem ggX9_hoursAgain_X9_demandWay : GoodIn wsX9_hoursAgain wsX9_demandWay := goodIn_ca (goodIn_r _ [51, 52, 53] rfl (by decide +kernel)) (goodIn_sub (fun _ h => List.mem_cons_of_mem _ (List.mem_append_right _ h)) (by decide +kernel))
set_option maxRecDepth 20000 in
theorem gX9_hoursAgain_X9_demandWay : GoodIn wsX9_hoursAgain (va_wsS RX9 146 yX9_demandWay wsX9_demandWay) := goodIn_app (goodIn_of _ (by decide +kernel)) ggX9_hoursAgain_X9_demandWay
set_option maxRecDepth 20000 in
theorem ggX9_next_X9_demandCells : GoodIn wsX9_next wsX9_demandCells := goodIn_ca (goodIn_r _ [7, 8, 9, 10, 11, 12, 13] rfl (by decide +kernel)) (goodIn_sub (fun _ h => List.mem_cons_of_mem _ (List.mem_append_left _ (List.mem_append_right _ h))) (by decide +kernel))
set_option maxRecDepth 20000 in
theorem gX9_next_X9_demandCells : GoodIn wsX9_next (va_wsS RX9 132 yX9_demandCells wsX9_demandCells) := goodIn_app (goodIn_of _ (by decide +kernel)) ggX9_next_X9_demandCells
set_option maxRecDepth 20000 in
theorem ggX9_next_X8_stepToExit : GoodIn wsX9_next wsX8_stepToExit := goodIn_ca (goodIn_r _ [18, 19, 20, 21, 22, 17, 23, 24, 25, 26, 27, 28, 29, 30, 31, 32, 33, 34, 11, 12, 13, 35, 36, 37, 38, 39, 40, 41, 42, 43, 44, 45, 46, 47, 48, 49, 50, 51, 52, 63, 64, 65, 66] rfl (by decide +kernel)) (goodIn_sub (fun _ h => List.mem_cons_of_mem _ (List.mem_append_right _ h)) (by decide +kernel))
set_option maxRecDepth 20000 in
theorem gX9_next_X8_stepToExit : GoodIn wsX9_next (wsV RX9 152 RX8 yX8_stepToExit wsX8_stepToExit) := goodIn_app (goodIn_of _ (by decide +kernel)) ggX9_next_X8_stepToExit
set_option maxRecDepth 20000 in
theorem ggX9_reached_X9_demandCells : GoodIn wsX9_reached wsX9_demandCells := goodIn_ca (goodIn_r _ [5, 6, 7, 8, 9, 10, 11] rfl (by decide +kernel)) (goodIn_sub (fun _ h => List.mem_cons_of_mem _ (List.mem_append_left _ (List.mem_append_right _ h))) (by decide +kernel))
set_option maxRecDepth 20000 in
theorem gX9_reached_X9_demandCells : GoodIn wsX9_reached (va_wsS RX9 132 yX9_demandCells wsX9_demandCells) := goodIn_app (goodIn_of _ (by decide +kernel)) ggX9_reached_X9_demandCells
set_option maxRecDepth 20000 in
theorem ggX9_reached_X8_cellsReached : GoodIn wsX9_reached wsX8_cellsReached := goodIn_ca (goodIn_r _ [16, 17, 18, 19, 15, 20, 21, 22, 23, 24, 10, 25, 26, 27, 28, 29, 40, 41, 42, 43] rfl (by decide +kernel)) (goodIn_sub (fun _ h => List.mem_cons_of_mem _ (List.mem_append_right _ h)) (by decide +kernel))
set_option maxRecDepth 20000 in
theorem gX9_reached_X8_cellsReached : GoodIn wsX9_reached (wsV RX9 160 RX8 yX8_cellsReached wsX8_cellsReached) := goodIn_app (goodIn_of _ (by decide +kernel)) ggX9_reached_X8_cellsReached
set_option maxRecDepth 20000 in
theorem ggX9_trims_X9_demandCells : GoodIn wsX9_trims wsX9_demandCells := goodIn_ca (goodIn_r _ [5, 6, 7, 8, 9, 10, 11] rfl (by decide +kernel)) (goodIn_sub (fun _ h => List.mem_cons_of_mem _ (List.mem_append_left _ (List.mem_append_right _ h))) (by decide +kernel))
set_option maxRecDepth 20000 in
theorem gX9_trims_X9_demandCells : GoodIn wsX9_trims (va_wsS RX9 132 yX9_demandCells wsX9_demandCells) := goodIn_app (goodIn_of _ (by decide +kernel)) ggX9_trims_X9_demandCells
set_option maxRecDepth 20000 in
theorem ggX9_trims_X8_trimsByNumber : GoodIn wsX9_trims wsX8_trimsByNumber := goodIn_ca (goodIn_r _ [16, 17, 18, 19, 15, 20, 21, 22, 23, 24, 25, 26, 27, 28, 10, 29, 30, 31, 32, 33, 34, 35, 36, 37, 38, 39, 40, 51, 52, 53, 54] rfl (by decide +kernel)) (goodIn_sub (fun _ h => List.mem_cons_of_mem _ (List.mem_append_right _ h)) (by decide +kernel))
set_option maxRecDepth 20000 in
theorem gX9_trims_X8_trimsByNumber : GoodIn wsX9_trims (wsV RX9 163 RX8 yX8_trimsByNumber wsX8_trimsByNumber) := goodIn_app (goodIn_of _ (by decide +kernel)) ggX9_trims_X8_trimsByNumber
set_option maxRecDepth 20000 in
theorem ggX9_trimsAgain_X9_demandCells : GoodIn wsX9_trimsAgain wsX9_demandCells := goodIn_ca (goodIn_r _ [5, 6, 7, 8, 9, 10, 11] rfl (by decide +kernel)) (goodIn_sub (fun _ h => List.mem_cons_of_mem _ (List.mem_append_left _ (List.mem_append_right _ h))) (by decide +kernel))
set_option maxRecDepth 20000 in
theorem gX9_trimsAgain_X9_demandCells : GoodIn wsX9_trimsAgain (va_wsS RX9 132 yX9_demandCells wsX9_demandCells) := goodIn_app (goodIn_of _ (by decide +kernel)) ggX9_trimsAgain_X9_demandCells
