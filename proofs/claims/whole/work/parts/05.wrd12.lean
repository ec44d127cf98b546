set_option maxRecDepth 20000 in
theorem ggX9_trimsAgain_X8_trimsByNeighbours : GoodIn wsX9_trimsAgain wsX8_trimsByNeighbours := goodIn_ca (goodIn_r _ [16, 17, 18, 19, 15, 20, 21, 22, 23, 24, 25, 26, 27, 28, 29, 30, 31, 9, 10, 11, 32, 33, 34, 35, 36, 37, 38, 39, 40, 41, 42, 43, 44, 45, 46, 47, 48, 59, 60, 61, 62] rfl (by decide +kernel)) (goodIn_sub (fun _ h => List.mem_cons_of_mem _ (List.mem_append_right _ h)) (by decide +kernel))
set_option maxRecDepth 20000 in
theorem gX9_trimsAgain_X8_trimsByNeighbours : GoodIn wsX9_trimsAgain (wsV RX9 166 RX8 yX8_trimsByNeighbours wsX8_trimsByNeighbours) := goodIn_app (goodIn_of _ (by decide +kernel)) ggX9_trimsAgain_X8_trimsByNeighbours
set_option maxRecDepth 20000 in
theorem ggX9_isNeeded_X9_hedgeAsked : GoodIn wsX9_isNeeded wsX9_hedgeAsked := goodIn_ca (goodIn_ca (goodIn_ca (goodIn_r _ [5, 6, 7, 8, 9, 4, 10, 11, 12, 13, 14, 15, 16, 17, 18, 19, 20, 21, 22, 23, 24, 25, 26, 27, 28] rfl (by decide +kernel)) (goodIn_sub (fun _ h => List.mem_cons_of_mem _ (List.mem_append_left _ (List.mem_append_left _ (List.mem_append_right _ h)))) (by decide +kernel))) (goodIn_sub (fun _ h => List.mem_cons_of_mem _ (List.mem_append_left _ (List.mem_append_right _ h))) (by decide +kernel))) (goodIn_sub (fun _ h => List.mem_cons_of_mem _ (List.mem_append_right _ h)) (by decide +kernel))
set_option maxRecDepth 20000 in
theorem gX9_isNeeded_X9_hedgeAsked : GoodIn wsX9_isNeeded (va_wsS RX9 124 yX9_hedgeAsked wsX9_hedgeAsked) := goodIn_app (goodIn_of _ (by decide +kernel)) ggX9_isNeeded_X9_hedgeAsked
set_option maxRecDepth 20000 in
theorem ggX9_isNeeded_X8_leadsThrough : GoodIn wsX9_isNeeded wsX8_leadsThrough := goodIn_ca (goodIn_r _ [33, 34, 35, 36, 32, 37, 38, 39, 40, 41, 15, 42, 43, 44, 45, 46, 47, 48, 49, 50, 61, 62, 63, 64] rfl (by decide +kernel)) (goodIn_sub (fun _ h => List.mem_cons_of_mem _ (List.mem_append_right _ h)) (by decide +kernel))
set_option maxRecDepth 20000 in
theorem gX9_isNeeded_X8_leadsThrough : GoodIn wsX9_isNeeded (wsV RX9 169 RX8 yX8_leadsThrough wsX8_leadsThrough) := goodIn_app (goodIn_of _ (by decide +kernel)) ggX9_isNeeded_X8_leadsThrough
set_option maxRecDepth 20000 in
theorem ggX9_closesIn_X9_hedgeAsked : GoodIn wsX9_closesIn wsX9_hedgeAsked := goodIn_ca (goodIn_ca (goodIn_ca (goodIn_r _ [9, 10, 11, 12, 13, 8, 14, 15, 16, 17, 18, 19, 20, 21, 22, 23, 24, 25, 4, 26, 27, 3, 5, 28, 29] rfl (by decide +kernel)) (goodIn_sub (fun _ h => List.mem_cons_of_mem _ (List.mem_append_left _ (List.mem_append_left _ (List.mem_append_right _ h)))) (by decide +kernel))) (goodIn_sub (fun _ h => List.mem_cons_of_mem _ (List.mem_append_left _ (List.mem_append_right _ h))) (by decide +kernel))) (goodIn_sub (fun _ h => List.mem_cons_of_mem _ (List.mem_append_right _ h)) (by decide +kernel))
set_option maxRecDepth 20000 in
theorem gX9_closesIn_X9_hedgeAsked : GoodIn wsX9_closesIn (va_wsS RX9 124 yX9_hedgeAsked wsX9_hedgeAsked) := goodIn_app (goodIn_of _ (by decide +kernel)) ggX9_closesIn_X9_hedgeAsked
set_option maxRecDepth 20000 in
theorem ggX9_closesIn_X4_leavesOf : GoodIn wsX9_closesIn wsX4_leavesOf := goodIn_ca (goodIn_r _ [33, 34, 54] rfl (by decide +kernel)) (goodIn_sub (fun _ h => List.mem_cons_of_mem _ (List.mem_append_right _ h)) (by decide +kernel))
set_option maxRecDepth 20000 in
theorem gX9_closesIn_X4_leavesOf : GoodIn wsX9_closesIn (wsV RX9 127 RX4 yX4_leavesOf wsX4_leavesOf) := goodIn_app (goodIn_of _ (by decide +kernel)) ggX9_closesIn_X4_leavesOf
set_option maxRecDepth 20000 in
theorem ggX9_summersLeft_X8_leadsThrough : GoodIn wsX9_summersLeft wsX8_leadsThrough := goodIn_ca (goodIn_r _ [6, 7, 8, 9, 5, 10, 11, 12, 13, 14, 15, 16, 17, 18, 19, 20, 21, 22, 23, 24, 35, 36, 37, 38] rfl (by decide +kernel)) (goodIn_sub (fun _ h => List.mem_cons_of_mem _ (List.mem_append_right _ h)) (by decide +kernel))
set_option maxRecDepth 20000 in
theorem gX9_summersLeft_X8_leadsThrough : GoodIn wsX9_summersLeft (wsV RX9 169 RX8 yX8_leadsThrough wsX8_leadsThrough) := goodIn_app (goodIn_of _ (by decide +kernel)) ggX9_summersLeft_X8_leadsThrough
set_option maxRecDepth 20000 in
theorem ggX9_demandCells_X4_isCell : GoodIn wsX9_demandCells wsX4_isCell := goodIn_r _ [6] rfl (by decide +kernel)
set_option maxRecDepth 20000 in
theorem gX9_demandCells_X4_isCell : GoodIn wsX9_demandCells (va_wsS RX9 178 yX4_isCell wsX4_isCell) := goodIn_app (goodIn_of _ (by decide +kernel)) ggX9_demandCells_X4_isCell
set_option maxRecDepth 20000 in
theorem ggX9_hedgeAsked_X9_demandCells : GoodIn wsX9_hedgeAsked wsX9_demandCells := goodIn_ca (goodIn_r _ [6, 7, 8, 9, 10, 11, 12] rfl (by decide +kernel)) (goodIn_sub (fun _ h => List.mem_cons_of_mem _ (List.mem_append_left _ (List.mem_append_right _ h))) (by decide +kernel))
set_option maxRecDepth 20000 in
theorem gX9_hedgeAsked_X9_demandCells : GoodIn wsX9_hedgeAsked (va_wsS RX9 132 yX9_demandCells wsX9_demandCells) := goodIn_app (goodIn_of _ (by decide +kernel)) ggX9_hedgeAsked_X9_demandCells
set_option maxRecDepth 20000 in
theorem ggX9_hedgeAsked_X4_hedgeBetween : GoodIn wsX9_hedgeAsked wsX4_hedgeBetween := goodIn_ca (goodIn_r _ [15, 16, 17, 18, 19, 20, 21, 22, 23, 24] rfl (by decide +kernel)) (goodIn_sub (fun _ h => List.mem_cons_of_mem _ (List.mem_append_right _ h)) (by decide +kernel))
set_option maxRecDepth 20000 in
theorem gX9_hedgeAsked_X4_hedgeBetween : GoodIn wsX9_hedgeAsked (va_wsS RX9 136 yX4_hedgeBetween wsX4_hedgeBetween) := goodIn_app (goodIn_of _ (by decide +kernel)) ggX9_hedgeAsked_X4_hedgeBetween
set_option maxRecDepth 20000 in
theorem ggX9_gardenerOf_X9_gardenerAsked : GoodIn wsX9_gardenerOf wsX9_gardenerAsked := goodIn_ca (goodIn_r _ [8, 9, 10, 3, 11, 12, 13, 14, 15, 16, 17, 28, 29, 30, 31, 32, 33, 34, 35, 36, 37, 38, 39, 40, 41, 42, 43, 44, 45, 46] rfl (by decide +kernel)) (goodIn_sub (fun _ h => List.mem_cons_of_mem _ (List.mem_append_right _ h)) (by decide +kernel))
set_option maxRecDepth 20000 in
theorem gX9_gardenerOf_X9_gardenerAsked : GoodIn wsX9_gardenerOf (wsV RX9 190 RX9 yX9_gardenerAsked wsX9_gardenerAsked) := goodIn_app (goodIn_of _ (by decide +kernel)) ggX9_gardenerOf_X9_gardenerAsked
set_option maxRecDepth 20000 in
theorem ggX9_gardenerOf_X6_bondsOf : GoodIn wsX9_gardenerOf wsX6_bondsOf := goodIn_r _ [21, 22, 23, 38, 39, 40, 41, 42, 43, 44, 45, 46, 47, 48, 49, 50, 51, 52, 53, 54] rfl (by decide +kernel)
set_option maxRecDepth 20000 in
theorem gX9_gardenerOf_X6_bondsOf : GoodIn wsX9_gardenerOf (wsV RX9 200 RX6 yX6_bondsOf wsX6_bondsOf) := goodIn_app (goodIn_of _ (by decide +kernel)) ggX9_gardenerOf_X6_bondsOf
set_option maxRecDepth 20000 in
theorem ggX9_visitorOf_X9_visitorAsked : GoodIn wsX9_visitorOf wsX9_visitorAsked := goodIn_ca (goodIn_r _ [7, 8, 9, 10, 11, 12, 13, 14, 15, 16, 17, 39, 40, 41, 42, 43, 44, 45, 46, 47, 48, 49, 50, 51, 52, 53, 54, 55, 56, 57] rfl (by decide +kernel)) (goodIn_sub (fun _ h => List.mem_cons_of_mem _ (List.mem_append_right _ h)) (by decide +kernel))
set_option maxRecDepth 20000 in
theorem gX9_visitorOf_X9_visitorAsked : GoodIn wsX9_visitorOf (wsV RX9 217 RX9 yX9_visitorAsked wsX9_visitorAsked) := goodIn_app (goodIn_of _ (by decide +kernel)) ggX9_visitorOf_X9_visitorAsked
set_option maxRecDepth 20000 in
theorem ggX9_visitorOf_X7_numberFor : GoodIn wsX9_visitorOf wsX7_numberFor := goodIn_r _ [22, 23, 24, 25, 26, 27, 28, 29, 30, 31, 32, 33, 21, 34, 35, 36, 37, 38, 58, 59, 60, 61, 62, 63, 64, 65] rfl (by decide +kernel)
set_option maxRecDepth 20000 in
theorem gX9_visitorOf_X7_numberFor : GoodIn wsX9_visitorOf (wsV RX9 223 RX7 yX7_numberFor wsX7_numberFor) := goodIn_app (goodIn_of _ (by decide +kernel)) ggX9_visitorOf_X7_numberFor
set_option maxRecDepth 20000 in
theorem ggX9_wouldPay_X9_visitorAsked : GoodIn wsX9_wouldPay wsX9_visitorAsked := goodIn_ca (goodIn_r _ [13, 14, 15, 3, 16, 17, 18, 19, 20, 21, 22, 90, 91, 92, 93, 94, 95, 96, 97, 98, 99, 112, 113, 114, 115, 116, 117, 118, 119, 120] rfl (by decide +kernel)) (goodIn_sub (fun _ h => List.mem_cons_of_mem _ (List.mem_append_left _ (List.mem_append_right _ h))) (by decide +kernel))
