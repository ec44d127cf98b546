set_option maxRecDepth 20000 in
theorem ggX9_hours_X9_demandWay : GoodIn wsX9_hours wsX9_demandWay := goodIn_ca (goodIn_r _ [53, 54, 55] (by decide +kernel) (by decide +kernel)) (goodIn_sub (fun _ h => List.mem_cons_of_mem _ (List.mem_append_right _ h)) (by decide +kernel))
set_option maxRecDepth 20000 in
theorem gX9_hours_X9_demandWay : GoodIn wsX9_hours (va_wsS RX9 146 yX9_demandWay wsX9_demandWay) := goodIn_app (goodIn_of _ (by decide +kernel)) ggX9_hours_X9_demandWay
set_option maxRecDepth 20000 in
theorem ggX9_hoursAgain_X9_demandCells : GoodIn wsX9_hoursAgain wsX9_demandCells := goodIn_ca (goodIn_r _ [5, 6, 7, 8, 9, 10, 11] (by decide +kernel) (by decide +kernel)) (goodIn_sub (fun _ h => List.mem_cons_of_mem _ (List.mem_append_left _ (List.mem_append_left _ (List.mem_append_right _ h)))) (by decide +kernel))
set_option maxRecDepth 20000 in
theorem gX9_hoursAgain_X9_demandCells : GoodIn wsX9_hoursAgain (va_wsS RX9 132 yX9_demandCells wsX9_demandCells) := goodIn_app (goodIn_of _ (by decide +kernel)) ggX9_hoursAgain_X9_demandCells
set_option maxRecDepth 20000 in
theorem ggX9_hoursAgain_X8_hoursByNeighbours : GoodIn wsX9_hoursAgain wsX8_hoursByNeighbours := goodIn_ca (goodIn_r _ [16, 17, 18, 19, 15, 20, 21, 22, 23, 24, 25, 26, 27, 28, 29, 30, 31, 9, 10, 11, 32, 33, 34, 35, 36, 37, 38, 39, 40, 41, 42, 43, 44, 45, 46, 47, 48, 64, 65, 66, 67] (by decide +kernel) (by decide +kernel)) (goodIn_sub (fun _ h => List.mem_cons_of_mem _ (List.mem_append_left _ (List.mem_append_right _ h))) (by decide +kernel))
set_option maxRecDepth 20000 in
theorem gX9_hoursAgain_X8_hoursByNeighbours : GoodIn wsX9_hoursAgain (wsV RX9 149 RX8 yX8_hoursByNeighbours wsX8_hoursByNeighbours) := goodIn_app (goodIn_of _ (by decide +kernel)) ggX9_hoursAgain_X8_hoursByNeighbours
set_option maxRecDepth 20000 in
theorem ggX9_hoursAgain_X9_demandWay : GoodIn wsX9_hoursAgain wsX9_demandWay := goodIn_ca (goodIn_r _ [51, 52, 53] (by decide +kernel) (by decide +kernel)) (goodIn_sub (fun _ h => List.mem_cons_of_mem _ (List.mem_append_right _ h)) (by decide +kernel))
set_option maxRecDepth 20000 in
theorem gX9_hoursAgain_X9_demandWay : GoodIn wsX9_hoursAgain (va_wsS RX9 146 yX9_demandWay wsX9_demandWay) := goodIn_app (goodIn_of _ (by decide +kernel)) ggX9_hoursAgain_X9_demandWay
set_option maxRecDepth 20000 in
theorem ggX9_next_X9_demandCells : GoodIn wsX9_next wsX9_demandCells := goodIn_ca (goodIn_r _ [7, 8, 9, 10, 11, 12, 13] (by decide +kernel) (by decide +kernel)) (goodIn_sub (fun _ h => List.mem_cons_of_mem _ (List.mem_append_left _ (List.mem_append_right _ h))) (by decide +kernel))
set_option maxRecDepth 20000 in
theorem gX9_next_X9_demandCells : GoodIn wsX9_next (va_wsS RX9 132 yX9_demandCells wsX9_demandCells) := goodIn_app (goodIn_of _ (by decide +kernel)) ggX9_next_X9_demandCells
set_option maxRecDepth 20000 in
theorem ggX9_next_X8_stepToExit : GoodIn wsX9_next wsX8_stepToExit := goodIn_ca (goodIn_r _ [18, 19, 20, 21, 22, 17, 23, 24, 25, 26, 27, 28, 29, 30, 31, 32, 33, 34, 11, 12, 13, 35, 36, 37, 38, 39, 40, 41, 42, 43, 44, 45, 46, 47, 48, 49, 50, 51, 52, 63, 64, 65, 66] (by decide +kernel) (by decide +kernel)) (goodIn_sub (fun _ h => List.mem_cons_of_mem _ (List.mem_append_right _ h)) (by decide +kernel))
set_option maxRecDepth 20000 in
theorem gX9_next_X8_stepToExit : GoodIn wsX9_next (wsV RX9 152 RX8 yX8_stepToExit wsX8_stepToExit) := goodIn_app (goodIn_of _ (by decide +kernel)) ggX9_next_X8_stepToExit
set_option maxRecDepth 20000 in
theorem ggX9_reached_X9_demandCells : GoodIn wsX9_reached wsX9_demandCells := goodIn_ca (goodIn_r _ [5, 6, 7, 8, 9, 10, 11] (by decide +kernel) (by decide +kernel)) (goodIn_sub (fun _ h => List.mem_cons_of_mem _ (List.mem_append_left _ (List.mem_append_right _ h))) (by decide +kernel))
set_option maxRecDepth 20000 in
theorem gX9_reached_X9_demandCells : GoodIn wsX9_reached (va_wsS RX9 132 yX9_demandCells wsX9_demandCells) := goodIn_app (goodIn_of _ (by decide +kernel)) ggX9_reached_X9_demandCells
set_option maxRecDepth 20000 in
theorem ggX9_reached_X8_cellsReached : GoodIn wsX9_reached wsX8_cellsReached := goodIn_ca (goodIn_r _ [16, 17, 18, 19, 15, 20, 21, 22, 23, 24, 10, 25, 26, 27, 28, 29, 40, 41, 42, 43] (by decide +kernel) (by decide +kernel)) (goodIn_sub (fun _ h => List.mem_cons_of_mem _ (List.mem_append_right _ h)) (by decide +kernel))
set_option maxRecDepth 20000 in
theorem gX9_reached_X8_cellsReached : GoodIn wsX9_reached (wsV RX9 160 RX8 yX8_cellsReached wsX8_cellsReached) := goodIn_app (goodIn_of _ (by decide +kernel)) ggX9_reached_X8_cellsReached
set_option maxRecDepth 20000 in
theorem ggX9_trims_X9_demandCells : GoodIn wsX9_trims wsX9_demandCells := goodIn_ca (goodIn_r _ [5, 6, 7, 8, 9, 10, 11] (by decide +kernel) (by decide +kernel)) (goodIn_sub (fun _ h => List.mem_cons_of_mem _ (List.mem_append_left _ (List.mem_append_right _ h))) (by decide +kernel))
set_option maxRecDepth 20000 in
theorem gX9_trims_X9_demandCells : GoodIn wsX9_trims (va_wsS RX9 132 yX9_demandCells wsX9_demandCells) := goodIn_app (goodIn_of _ (by decide +kernel)) ggX9_trims_X9_demandCells
set_option maxRecDepth 20000 in
theorem ggX9_trims_X8_trimsByNumber : GoodIn wsX9_trims wsX8_trimsByNumber := goodIn_ca (goodIn_r _ [16, 17, 18, 19, 15, 20, 21, 22, 23, 24, 25, 26, 27, 28, 10, 29, 30, 31, 32, 33, 34, 35, 36, 37, 38, 39, 40, 51, 52, 53, 54] (by decide +kernel) (by decide +kernel)) (goodIn_sub (fun _ h => List.mem_cons_of_mem _ (List.mem_append_right _ h)) (by decide +kernel))
set_option maxRecDepth 20000 in
theorem gX9_trims_X8_trimsByNumber : GoodIn wsX9_trims (wsV RX9 163 RX8 yX8_trimsByNumber wsX8_trimsByNumber) := goodIn_app (goodIn_of _ (by decide +kernel)) ggX9_trims_X8_trimsByNumber
set_option maxRecDepth 20000 in
theorem ggX9_trimsAgain_X9_demandCells : GoodIn wsX9_trimsAgain wsX9_demandCells := goodIn_ca (goodIn_r _ [5, 6, 7, 8, 9, 10, 11] (by decide +kernel) (by decide +kernel)) (goodIn_sub (fun _ h => List.mem_cons_of_mem _ (List.mem_append_left _ (List.mem_append_right _ h))) (by decide +kernel))
set_option maxRecDepth 20000 in
theorem gX9_trimsAgain_X9_demandCells : GoodIn wsX9_trimsAgain (va_wsS RX9 132 yX9_demandCells wsX9_demandCells) := goodIn_app (goodIn_of _ (by decide +kernel)) ggX9_trimsAgain_X9_demandCells
set_option maxRecDepth 20000 in
theorem ggX9_trimsAgain_X8_trimsByNeighbours : GoodIn wsX9_trimsAgain wsX8_trimsByNeighbours := goodIn_ca (goodIn_r _ [16, 17, 18, 19, 15, 20, 21, 22, 23, 24, 25, 26, 27, 28, 29, 30, 31, 9, 10, 11, 32, 33, 34, 35, 36, 37, 38, 39, 40, 41, 42, 43, 44, 45, 46, 47, 48, 59, 60, 61, 62] (by decide +kernel) (by decide +kernel)) (goodIn_sub (fun _ h => List.mem_cons_of_mem _ (List.mem_append_right _ h)) (by decide +kernel))
set_option maxRecDepth 20000 in
theorem gX9_trimsAgain_X8_trimsByNeighbours : GoodIn wsX9_trimsAgain (wsV RX9 166 RX8 yX8_trimsByNeighbours wsX8_trimsByNeighbours) := goodIn_app (goodIn_of _ (by decide +kernel)) ggX9_trimsAgain_X8_trimsByNeighbours
set_option maxRecDepth 20000 in
theorem ggX9_isNeeded_X9_hedgeAsked : GoodIn wsX9_isNeeded wsX9_hedgeAsked := goodIn_ca (goodIn_ca (goodIn_ca (goodIn_r _ [5, 6, 7, 8, 9, 4, 10, 11, 12, 13, 14, 15, 16, 17, 18, 19, 20, 21, 22, 23, 24, 25, 26, 27, 28] (by decide +kernel) (by decide +kernel)) (goodIn_sub (fun _ h => List.mem_cons_of_mem _ (List.mem_append_left _ (List.mem_append_left _ (List.mem_append_right _ h)))) (by decide +kernel))) (goodIn_sub (fun _ h => List.mem_cons_of_mem _ (List.mem_append_left _ (List.mem_append_right _ h))) (by decide +kernel))) (goodIn_sub (fun _ h => List.mem_cons_of_mem _ (List.mem_append_right _ h)) (by decide +kernel))
set_option maxRecDepth 20000 in
theorem gX9_isNeeded_X9_hedgeAsked : GoodIn wsX9_isNeeded (va_wsS RX9 124 yX9_hedgeAsked wsX9_hedgeAsked) := goodIn_app (goodIn_of _ (by decide +kernel)) ggX9_isNeeded_X9_hedgeAsked
set_option maxRecDepth 20000 in
theorem ggX9_isNeeded_X8_leadsThrough : GoodIn wsX9_isNeeded wsX8_leadsThrough := goodIn_ca (goodIn_r _ [33, 34, 35, 36, 32, 37, 38, 39, 40, 41, 15, 42, 43, 44, 45, 46, 47, 48, 49, 50, 61, 62, 63, 64] (by decide +kernel) (by decide +kernel)) (goodIn_sub (fun _ h => List.mem_cons_of_mem _ (List.mem_append_right _ h)) (by decide +kernel))
set_option maxRecDepth 20000 in
theorem gX9_isNeeded_X8_leadsThrough : GoodIn wsX9_isNeeded (wsV RX9 169 RX8 yX8_leadsThrough wsX8_leadsThrough) := goodIn_app (goodIn_of _ (by decide +kernel)) ggX9_isNeeded_X8_leadsThrough
set_option maxRecDepth 20000 in
theorem ggX9_closesIn_X9_hedgeAsked : GoodIn wsX9_closesIn wsX9_hedgeAsked := goodIn_ca (goodIn_ca (goodIn_ca (goodIn_r _ [9, 10, 11, 12, 13, 8, 14, 15, 16, 17, 18, 19, 20, 21, 22, 23, 24, 25, 4, 26, 27, 3, 5, 28, 29] (by decide +kernel) (by decide +kernel)) (goodIn_sub (fun _ h => List.mem_cons_of_mem _ (List.mem_append_left _ (List.mem_append_left _ (List.mem_append_right _ h)))) (by decide +kernel))) (goodIn_sub (fun _ h => List.mem_cons_of_mem _ (List.mem_append_left _ (List.mem_append_right _ h))) (by decide +kernel))) (goodIn_sub (fun _ h => List.mem_cons_of_mem _ (List.mem_append_right _ h)) (by decide +kernel))
set_option maxRecDepth 20000 in
theorem gX9_closesIn_X9_hedgeAsked : GoodIn wsX9_closesIn (va_wsS RX9 124 yX9_hedgeAsked wsX9_hedgeAsked) := goodIn_app (goodIn_of _ (by decide +kernel)) ggX9_closesIn_X9_hedgeAsked
set_option maxRecDepth 20000 in
theorem ggX9_closesIn_X4_leavesOf : GoodIn wsX9_closesIn wsX4_leavesOf := goodIn_ca (goodIn_r _ [33, 34, 54] (by decide +kernel) (by decide +kernel)) (goodIn_sub (fun _ h => List.mem_cons_of_mem _ (List.mem_append_right _ h)) (by decide +kernel))
set_option maxRecDepth 20000 in
theorem gX9_closesIn_X4_leavesOf : GoodIn wsX9_closesIn (wsV RX9 127 RX4 yX4_leavesOf wsX4_leavesOf) := goodIn_app (goodIn_of _ (by decide +kernel)) ggX9_closesIn_X4_leavesOf
set_option maxRecDepth 20000 in
theorem ggX9_summersLeft_X8_leadsThrough : GoodIn wsX9_summersLeft wsX8_leadsThrough := goodIn_ca (goodIn_r _ [6, 7, 8, 9, 5, 10, 11, 12, 13, 14, 15, 16, 17, 18, 19, 20, 21, 22, 23, 24, 35, 36, 37, 38] (by decide +kernel) (by decide +kernel)) (goodIn_sub (fun _ h => List.mem_cons_of_mem _ (List.mem_append_right _ h)) (by decide +kernel))
set_option maxRecDepth 20000 in
theorem gX9_summersLeft_X8_leadsThrough : GoodIn wsX9_summersLeft (wsV RX9 169 RX8 yX8_leadsThrough wsX8_leadsThrough) := goodIn_app (goodIn_of _ (by decide +kernel)) ggX9_summersLeft_X8_leadsThrough
set_option maxRecDepth 20000 in
theorem ggX9_demandCells_X4_isCell : GoodIn wsX9_demandCells wsX4_isCell := goodIn_r _ [6] (by decide +kernel) (by decide +kernel)
set_option maxRecDepth 20000 in
theorem gX9_demandCells_X4_isCell : GoodIn wsX9_demandCells (va_wsS RX9 178 yX4_isCell wsX4_isCell) := goodIn_app (goodIn_of _ (by decide +kernel)) ggX9_demandCells_X4_isCell
set_option maxRecDepth 20000 in
theorem ggX9_hedgeAsked_X9_demandCells : GoodIn wsX9_hedgeAsked wsX9_demandCells := goodIn_ca (goodIn_r _ [6, 7, 8, 9, 10, 11, 12] (by decide +kernel) (by decide +kernel)) (goodIn_sub (fun _ h => List.mem_cons_of_mem _ (List.mem_append_left _ (List.mem_append_right _ h))) (by decide +kernel))
set_option maxRecDepth 20000 in
theorem gX9_hedgeAsked_X9_demandCells : GoodIn wsX9_hedgeAsked (va_wsS RX9 132 yX9_demandCells wsX9_demandCells) := goodIn_app (goodIn_of _ (by decide +kernel)) ggX9_hedgeAsked_X9_demandCells
set_option maxRecDepth 20000 in
theorem ggX9_hedgeAsked_X4_hedgeBetween : GoodIn wsX9_hedgeAsked wsX4_hedgeBetween := goodIn_ca (goodIn_r _ [15, 16, 17, 18, 19, 20, 21, 22, 23, 24] (by decide +kernel) (by decide +kernel)) (goodIn_sub (fun _ h => List.mem_cons_of_mem _ (List.mem_append_right _ h)) (by decide +kernel))
set_option maxRecDepth 20000 in
theorem gX9_hedgeAsked_X4_hedgeBetween : GoodIn wsX9_hedgeAsked (va_wsS RX9 136 yX4_hedgeBetween wsX4_hedgeBetween) := goodIn_app (goodIn_of _ (by decide +kernel)) ggX9_hedgeAsked_X4_hedgeBetween
set_option maxRecDepth 20000 in
theorem ggX9_gardenerOf_X9_gardenerAsked : GoodIn wsX9_gardenerOf wsX9_gardenerAsked := goodIn_ca (goodIn_r _ [8, 9, 10, 3, 11, 12, 13, 14, 15, 16, 17, 28, 29, 30, 31, 32, 33, 34, 35, 36, 37, 38, 39, 40, 41, 42, 43, 44, 45, 46] (by decide +kernel) (by decide +kernel)) (goodIn_sub (fun _ h => List.mem_cons_of_mem _ (List.mem_append_right _ h)) (by decide +kernel))
set_option maxRecDepth 20000 in
theorem gX9_gardenerOf_X9_gardenerAsked : GoodIn wsX9_gardenerOf (wsV RX9 190 RX9 yX9_gardenerAsked wsX9_gardenerAsked) := goodIn_app (goodIn_of _ (by decide +kernel)) ggX9_gardenerOf_X9_gardenerAsked
set_option maxRecDepth 20000 in
theorem ggX9_gardenerOf_X6_bondsOf : GoodIn wsX9_gardenerOf wsX6_bondsOf := goodIn_r _ [21, 22, 23, 38, 39, 40, 41, 42, 43, 44, 45, 46, 47, 48, 49, 50, 51, 52, 53, 54] (by decide +kernel) (by decide +kernel)
set_option maxRecDepth 20000 in
theorem gX9_gardenerOf_X6_bondsOf : GoodIn wsX9_gardenerOf (wsV RX9 200 RX6 yX6_bondsOf wsX6_bondsOf) := goodIn_app (goodIn_of _ (by decide +kernel)) ggX9_gardenerOf_X6_bondsOf
set_option maxRecDepth 20000 in
theorem ggX9_visitorOf_X9_visitorAsked : GoodIn wsX9_visitorOf wsX9_visitorAsked := goodIn_ca (goodIn_r _ [7, 8, 9, 10, 11, 12, 13, 14, 15, 16, 17, 39, 40, 41, 42, 43, 44, 45, 46, 47, 48, 49, 50, 51, 52, 53, 54, 55, 56, 57] (by decide +kernel) (by decide +kernel)) (goodIn_sub (fun _ h => List.mem_cons_of_mem _ (List.mem_append_right _ h)) (by decide +kernel))
set_option maxRecDepth 20000 in
theorem gX9_visitorOf_X9_visitorAsked : GoodIn wsX9_visitorOf (wsV RX9 217 RX9 yX9_visitorAsked wsX9_visitorAsked) := goodIn_app (goodIn_of _ (by decide +kernel)) ggX9_visitorOf_X9_visitorAsked
set_option maxRecDepth 20000 in
theorem ggX9_visitorOf_X7_numberFor : GoodIn wsX9_visitorOf wsX7_numberFor := goodIn_r _ [22, 23, 24, 25, 26, 27, 28, 29, 30, 31, 32, 33, 21, 34, 35, 36, 37, 38, 58, 59, 60, 61, 62, 63, 64, 65] (by decide +kernel) (by decide +kernel)
set_option maxRecDepth 20000 in
theorem gX9_visitorOf_X7_numberFor : GoodIn wsX9_visitorOf (wsV RX9 223 RX7 yX7_numberFor wsX7_numberFor) := goodIn_app (goodIn_of _ (by decide +kernel)) ggX9_visitorOf_X7_numberFor
set_option maxRecDepth 20000 in
theorem ggX9_wouldPay_X9_visitorAsked : GoodIn wsX9_wouldPay wsX9_visitorAsked := goodIn_ca (goodIn_r _ [13, 14, 15, 3, 16, 17, 18, 19, 20, 21, 22, 90, 91, 92, 93, 94, 95, 96, 97, 98, 99, 112, 113, 114, 115, 116, 117, 118, 119, 120] (by decide +kernel) (by decide +kernel)) (goodIn_sub (fun _ h => List.mem_cons_of_mem _ (List.mem_append_left _ (List.mem_append_right _ h))) (by decide +kernel))
set_option maxRecDepth 20000 in
theorem gX9_wouldPay_X9_visitorAsked : GoodIn wsX9_wouldPay (wsV RX9 217 RX9 yX9_visitorAsked wsX9_visitorAsked) := goodIn_app (goodIn_of _ (by decide +kernel)) ggX9_wouldPay_X9_visitorAsked
set_option maxRecDepth 20000 in
theorem ggX9_wouldPay_X6_findGardener : GoodIn wsX9_wouldPay wsX6_findGardener := goodIn_r _ [26, 27, 28, 112, 113, 114, 115, 116, 117, 118, 119, 120] (by decide +kernel) (by decide +kernel)
set_option maxRecDepth 20000 in
theorem gX9_wouldPay_X6_findGardener : GoodIn wsX9_wouldPay (wsV RX9 231 RX6 yX6_findGardener wsX6_findGardener) := goodIn_app (goodIn_of _ (by decide +kernel)) ggX9_wouldPay_X6_findGardener
set_option maxRecDepth 20000 in
theorem ggX9_wouldPay_X8_hoursByDistance : GoodIn wsX9_wouldPay wsX8_hoursByDistance := goodIn_ca (goodIn_r _ [33, 34, 35, 36, 32, 37, 38, 39, 40, 41, 42, 43, 44, 45, 46, 47, 48, 49, 50, 51, 52, 53, 54, 55, 56, 57, 58, 59, 60, 61, 62, 63, 64, 65, 66, 67, 68, 69, 70, 121, 122, 123, 124] (by decide +kernel) (by decide +kernel)) (goodIn_sub (fun _ h => List.mem_cons_of_mem _ (List.mem_append_right _ h)) (by decide +kernel))
set_option maxRecDepth 20000 in
theorem gX9_wouldPay_X8_hoursByDistance : GoodIn wsX9_wouldPay (wsV RX9 143 RX8 yX8_hoursByDistance wsX8_hoursByDistance) := goodIn_app (goodIn_of _ (by decide +kernel)) ggX9_wouldPay_X8_hoursByDistance
set_option maxRecDepth 20000 in
theorem ggX9_wouldPay_X9_demandWay : GoodIn wsX9_wouldPay wsX9_demandWay := goodIn_ca (goodIn_r _ [73, 1, 2] (by decide +kernel) (by decide +kernel)) (goodIn_sub (fun _ h => List.mem_cons_of_mem _ (List.mem_append_left _ (List.mem_append_left _ (List.mem_append_right _ h)))) (by decide +kernel))
set_option maxRecDepth 20000 in
theorem gX9_wouldPay_X9_demandWay : GoodIn wsX9_wouldPay (va_wsS RX9 146 yX9_demandWay wsX9_demandWay) := goodIn_app (goodIn_of _ (by decide +kernel)) ggX9_wouldPay_X9_demandWay
set_option maxRecDepth 20000 in
theorem ggX9_wouldPay_X7_dueAfter : GoodIn wsX9_wouldPay wsX7_dueAfter := goodIn_r _ [78, 79, 80, 81, 82, 83, 77, 84, 85, 86, 87, 88, 7, 89, 100, 101, 102, 103, 104, 105, 106, 107] (by decide +kernel) (by decide +kernel)
set_option maxRecDepth 20000 in
theorem gX9_wouldPay_X7_dueAfter : GoodIn wsX9_wouldPay (wsV RX9 242 RX7 yX7_dueAfter wsX7_dueAfter) := goodIn_app (goodIn_of _ (by decide +kernel)) ggX9_wouldPay_X7_dueAfter
set_option maxRecDepth 20000 in
theorem ggX9_owed_X9_gardenerAsked : GoodIn wsX9_owed wsX9_gardenerAsked := goodIn_ca (goodIn_r _ [6, 7, 8, 1, 9, 10, 11, 12, 13, 14, 15, 39, 40, 41, 42, 43, 44, 45, 46, 47, 48, 49, 50, 51, 52, 53, 54, 55, 56, 57] (by decide +kernel) (by decide +kernel)) (goodIn_sub (fun _ h => List.mem_cons_of_mem _ (List.mem_append_right _ h)) (by decide +kernel))
set_option maxRecDepth 20000 in
theorem gX9_owed_X9_gardenerAsked : GoodIn wsX9_owed (wsV RX9 190 RX9 yX9_gardenerAsked wsX9_gardenerAsked) := goodIn_app (goodIn_of _ (by decide +kernel)) ggX9_owed_X9_gardenerAsked
set_option maxRecDepth 20000 in
theorem ggX9_owed_X6_debtOf : GoodIn wsX9_owed wsX6_debtOf := goodIn_r _ [19, 20, 21, 22, 23, 24, 25, 26, 27, 28, 29, 30, 31, 32, 33, 34, 35, 36, 37, 38, 49, 50, 51, 52, 53, 54, 55, 56, 57, 58, 59, 60, 61, 62, 63, 64, 65] (by decide +kernel) (by decide +kernel)
set_option maxRecDepth 20000 in
theorem gX9_owed_X6_debtOf : GoodIn wsX9_owed (wsV RX9 248 RX6 yX6_debtOf wsX6_debtOf) := goodIn_app (goodIn_of _ (by decide +kernel)) ggX9_owed_X6_debtOf
set_option maxRecDepth 20000 in
theorem ggX9_gardenerAsked_X6_findGardener : GoodIn wsX9_gardenerAsked wsX6_findGardener := goodIn_r _ [8, 9, 10, 21, 22, 23, 24, 25, 26, 27, 28, 29] (by decide +kernel) (by decide +kernel)
