set_option maxRecDepth 20000 in
theorem gX10_leaves_X10_throwing : GoodIn wsX10_leaves (wsV RX10 50 RX10 yX10_throwing wsX10_throwing) := goodIn_app (goodIn_of _ (by decide +kernel)) ggX10_leaves_X10_throwing
set_option maxRecDepth 20000 in
theorem ggX10_isGap_X10_areCells : GoodIn wsX10_isGap wsX10_areCells := goodIn_r _ [5, 6, 7, 8, 4, 9, 10, 11, 12, 13, 29, 30, 31, 32, 33, 34, 35, 36, 37, 38, 39, 40, 41, 42, 43, 44, 45, 46, 47, 48, 49] rfl (by decide +kernel)
set_option maxRecDepth 20000 in
theorem gX10_isGap_X10_areCells : GoodIn wsX10_isGap (wsV RX10 174 RX10 yX10_areCells wsX10_areCells) := goodIn_app (goodIn_of _ (by decide +kernel)) ggX10_isGap_X10_areCells
set_option maxRecDepth 20000 in
theorem ggX10_isGap_X10_hedgeAt : GoodIn wsX10_isGap wsX10_hedgeAt := goodIn_r _ [16, 17, 18, 19, 20, 21, 22, 23] rfl (by decide +kernel)
set_option maxRecDepth 20000 in
theorem gX10_isGap_X10_hedgeAt : GoodIn wsX10_isGap (va_wsS RX10 77 yX10_hedgeAt wsX10_hedgeAt) := goodIn_app (goodIn_of _ (by decide +kernel)) ggX10_isGap_X10_hedgeAt
set_option maxRecDepth 20000 in
theorem ggX10_isGap_X10_isGapAt : GoodIn wsX10_isGap wsX10_isGapAt := goodIn_ca (goodIn_r _ [27, 28, 29, 30, 31, 32, 33, 34, 35, 36, 37, 38, 39, 40, 41, 42, 43, 44, 45, 46, 47, 48, 49] rfl (by decide +kernel)) (goodIn_sub (fun _ h => List.mem_cons_of_mem _ (List.mem_append_right _ h)) (by decide +kernel))
set_option maxRecDepth 20000 in
theorem gX10_isGap_X10_isGapAt : GoodIn wsX10_isGap (wsV RX10 80 RX10 yX10_isGapAt wsX10_isGapAt) := goodIn_app (goodIn_of _ (by decide +kernel)) ggX10_isGap_X10_isGapAt
set_option maxRecDepth 20000 in
theorem ggX10_hours_X10_areCells : GoodIn wsX10_hours wsX10_areCells := goodIn_r _ [5, 6, 7, 8, 4, 9, 10, 11, 12, 13, 46, 47, 48, 49, 50, 51, 52, 53, 54, 55, 56, 57, 58, 59, 60, 61, 62, 63, 64, 65, 66] rfl (by decide +kernel)
set_option maxRecDepth 20000 in
theorem gX10_hours_X10_areCells : GoodIn wsX10_hours (wsV RX10 174 RX10 yX10_areCells wsX10_areCells) := goodIn_app (goodIn_of _ (by decide +kernel)) ggX10_hours_X10_areCells
set_option maxRecDepth 20000 in
theorem ggX10_hours_X10_hoursOf : GoodIn wsX10_hours wsX10_hoursOf := goodIn_ca (goodIn_r _ [17, 18, 19, 20, 21, 4, 22, 23, 24, 25, 26, 27, 28, 29, 30, 11, 12, 13, 31, 32, 33, 34, 35, 36, 37, 38, 39, 40, 41, 46, 47, 48, 49, 50, 51, 52, 53, 54, 55, 56, 57, 58, 59, 60, 61, 62, 63, 64, 65, 66] rfl (by decide +kernel)) (goodIn_sub (fun _ h => List.mem_cons_of_mem _ (List.mem_append_right _ h)) (by decide +kernel))
set_option maxRecDepth 20000 in
theorem gX10_hours_X10_hoursOf : GoodIn wsX10_hours (wsV RX10 142 RX10 yX10_hoursOf wsX10_hoursOf) := goodIn_app (goodIn_of _ (by decide +kernel)) ggX10_hours_X10_hoursOf
set_option maxRecDepth 20000 in
theorem ggX10_hours_X10_throwing : GoodIn wsX10_hours wsX10_throwing := goodIn_r _ [45, 6, 46, 47, 48, 49, 50, 51, 52, 53, 54, 55, 56, 57, 58, 59, 60, 61, 62, 63, 64, 65, 66] rfl (by decide +kernel)
set_option maxRecDepth 20000 in
theorem gX10_hours_X10_throwing : GoodIn wsX10_hours (wsV RX10 50 RX10 yX10_throwing wsX10_throwing) := goodIn_app (goodIn_of _ (by decide +kernel)) ggX10_hours_X10_throwing
set_option maxRecDepth 20000 in
theorem ggX10_hoursAgain_X10_hours : GoodIn wsX10_hoursAgain wsX10_hours := goodIn_ca (goodIn_r _ [5, 6, 7, 8, 4, 9, 10, 11, 12, 13, 14, 15, 16, 17, 18, 19, 20, 21, 22, 23, 24, 25, 26, 27, 28, 29, 30, 31, 32, 33, 34, 35, 36, 37, 38, 39, 40, 41, 42, 43, 44, 45, 46, 47, 48, 49, 50, 51, 52, 53, 54, 55, 56, 57, 58, 59, 60, 61, 62, 63, 64, 65, 66, 67, 68, 69, 70] rfl (by decide +kernel)) (goodIn_sub (fun _ h => List.mem_cons_of_mem _ (List.mem_append_right _ h)) (by decide +kernel))
set_option maxRecDepth 20000 in
theorem gX10_hoursAgain_X10_hours : GoodIn wsX10_hoursAgain (wsV RX10 177 RX10 yX10_hours wsX10_hours) := goodIn_app (goodIn_of _ (by decide +kernel)) ggX10_hoursAgain_X10_hours
set_option maxRecDepth 20000 in
theorem ggX10_next_X10_areCells : GoodIn wsX10_next wsX10_areCells := goodIn_r _ [6, 7, 8, 9, 5, 10, 11, 12, 13, 14, 42, 43, 44, 45, 46, 47, 48, 49, 50, 51, 52, 53, 54, 55, 56, 57, 58, 59, 60, 61, 62] rfl (by decide +kernel)
set_option maxRecDepth 20000 in
theorem gX10_next_X10_areCells : GoodIn wsX10_next (wsV RX10 174 RX10 yX10_areCells wsX10_areCells) := goodIn_app (goodIn_of _ (by decide +kernel)) ggX10_next_X10_areCells
set_option maxRecDepth 20000 in
theorem ggX10_next_X10_laysWays : GoodIn wsX10_next wsX10_laysWays := goodIn_ca (goodIn_r _ [18, 1, 19, 20, 21, 22, 23, 24, 5, 25, 26, 12, 13, 14, 27, 28, 29, 30, 31, 32, 33, 34, 35, 36, 37, 42, 43, 44, 45, 46, 47, 48, 49, 50, 51, 52, 53, 54, 55, 56, 57, 58, 59, 60, 61, 62] rfl (by decide +kernel)) (goodIn_sub (fun _ h => List.mem_cons_of_mem _ (List.mem_append_right _ h)) (by decide +kernel))
set_option maxRecDepth 20000 in
theorem gX10_next_X10_laysWays : GoodIn wsX10_next (wsV RX10 84 RX10 yX10_laysWays wsX10_laysWays) := goodIn_app (goodIn_of _ (by decide +kernel)) ggX10_next_X10_laysWays
set_option maxRecDepth 20000 in
theorem ggX10_next_X10_throwing : GoodIn wsX10_next wsX10_throwing := goodIn_r _ [41, 7, 42, 43, 44, 45, 46, 47, 48, 49, 50, 51, 52, 53, 54, 55, 56, 57, 58, 59, 60, 61, 62] rfl (by decide +kernel)
set_option maxRecDepth 20000 in
theorem gX10_next_X10_throwing : GoodIn wsX10_next (wsV RX10 50 RX10 yX10_throwing wsX10_throwing) := goodIn_app (goodIn_of _ (by decide +kernel)) ggX10_next_X10_throwing
set_option maxRecDepth 20000 in
theorem ggX10_next_X10_hedgeAt : GoodIn wsX10_next wsX10_hedgeAt := goodIn_r _ [29, 19, 20, 21, 22, 30, 31, 32] rfl (by decide +kernel)
set_option maxRecDepth 20000 in
theorem gX10_next_X10_hedgeAt : GoodIn wsX10_next (va_wsS RX10 77 yX10_hedgeAt wsX10_hedgeAt) := goodIn_app (goodIn_of _ (by decide +kernel)) ggX10_next_X10_hedgeAt
set_option maxRecDepth 20000 in
theorem ggX10_next_X10_isGapAt : GoodIn wsX10_next wsX10_isGapAt := goodIn_ca (goodIn_r _ [36, 37, 42, 43, 44, 45, 46, 47, 48, 49, 50, 51, 52, 53, 54, 55, 56, 57, 58, 59, 60, 61, 62] rfl (by decide +kernel)) (goodIn_sub (fun _ h => List.mem_cons_of_mem _ (List.mem_append_right _ h)) (by decide +kernel))
set_option maxRecDepth 20000 in
theorem gX10_next_X10_isGapAt : GoodIn wsX10_next (wsV RX10 80 RX10 yX10_isGapAt wsX10_isGapAt) := goodIn_app (goodIn_of _ (by decide +kernel)) ggX10_next_X10_isGapAt
set_option maxRecDepth 20000 in
theorem ggX10_reached_X10_areCells : GoodIn wsX10_reached wsX10_areCells := goodIn_r _ [5, 6, 7, 8, 4, 9, 10, 11, 12, 13, 42, 43, 44, 45, 46, 47, 48, 49, 50, 51, 52, 53, 54, 55, 56, 57, 58, 59, 60, 61, 62] rfl (by decide +kernel)
set_option maxRecDepth 20000 in
theorem gX10_reached_X10_areCells : GoodIn wsX10_reached (wsV RX10 174 RX10 yX10_areCells wsX10_areCells) := goodIn_app (goodIn_of _ (by decide +kernel)) ggX10_reached_X10_areCells
set_option maxRecDepth 20000 in
theorem ggX10_reached_X10_reachedFrom : GoodIn wsX10_reached wsX10_reachedFrom := goodIn_ca (goodIn_r _ [17, 18, 19, 20, 21, 4, 22, 23, 24, 25, 26, 27, 28, 29, 30, 11, 12, 13, 31, 32, 33, 34, 35, 36, 37, 38, 39, 40, 41, 42, 43, 44, 45, 46, 47, 48, 49, 50, 51, 52, 53, 54, 55, 56, 57, 58, 59, 60, 61, 62] rfl (by decide +kernel)) (goodIn_sub (fun _ h => List.mem_cons_of_mem _ (List.mem_append_right _ h)) (by decide +kernel))
set_option maxRecDepth 20000 in
theorem gX10_reached_X10_reachedFrom : GoodIn wsX10_reached (wsV RX10 145 RX10 yX10_reachedFrom wsX10_reachedFrom) := goodIn_app (goodIn_of _ (by decide +kernel)) ggX10_reached_X10_reachedFrom
set_option maxRecDepth 20000 in
theorem ggX10_trims_X10_areCells : GoodIn wsX10_trims wsX10_areCells := goodIn_r _ [6, 7, 8, 9, 5, 10, 11, 12, 13, 14, 38, 39, 40, 41, 42, 43, 44, 45, 46, 47, 48, 49, 50, 51, 52, 53, 54, 55, 56, 57, 58] rfl (by decide +kernel)
set_option maxRecDepth 20000 in
theorem gX10_trims_X10_areCells : GoodIn wsX10_trims (wsV RX10 174 RX10 yX10_areCells wsX10_areCells) := goodIn_app (goodIn_of _ (by decide +kernel)) ggX10_trims_X10_areCells
