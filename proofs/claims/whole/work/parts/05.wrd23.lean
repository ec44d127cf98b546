set_option maxRecDepth 20000 in
theorem ggX10_trims_X10_laysWays : GoodIn wsX10_trims wsX10_laysWays := goodIn_ca (goodIn_r _ [18, 1, 19, 20, 21, 22, 23, 24, 5, 25, 26, 12, 13, 14, 27, 28, 29, 30, 31, 32, 33, 34, 35, 36, 37, 38, 39, 40, 41, 42, 43, 44, 45, 46, 47, 48, 49, 50, 51, 52, 53, 54, 55, 56, 57, 58] rfl (by decide +kernel)) (goodIn_sub (fun _ h => List.mem_cons_of_mem _ (List.mem_append_right _ h)) (by decide +kernel))
set_option maxRecDepth 20000 in
theorem gX10_trims_X10_laysWays : GoodIn wsX10_trims (wsV RX10 84 RX10 yX10_laysWays wsX10_laysWays) := goodIn_app (goodIn_of _ (by decide +kernel)) ggX10_trims_X10_laysWays
set_option maxRecDepth 20000 in
theorem ggX10_trimsAgain_X10_trims : GoodIn wsX10_trimsAgain wsX10_trims := goodIn_ca (goodIn_r _ [5, 6, 7, 8, 9, 4, 10, 11, 12, 13, 14, 15, 16, 17, 18, 19, 20, 21, 22, 23, 24, 25, 26, 27, 28, 29, 30, 31, 32, 33, 34, 35, 36, 37, 38, 39, 40, 41, 42, 43, 44, 45, 46, 47, 48, 49, 50, 51, 52, 53, 54, 55, 56, 57, 58, 59, 60, 61, 62] rfl (by decide +kernel)) (goodIn_sub (fun _ h => List.mem_cons_of_mem _ (List.mem_append_right _ h)) (by decide +kernel))
set_option maxRecDepth 20000 in
theorem gX10_trimsAgain_X10_trims : GoodIn wsX10_trimsAgain (wsV RX10 180 RX10 yX10_trims wsX10_trims) := goodIn_app (goodIn_of _ (by decide +kernel)) ggX10_trimsAgain_X10_trims
set_option maxRecDepth 20000 in
theorem ggX10_isNeeded_X10_areCells : GoodIn wsX10_isNeeded wsX10_areCells := goodIn_r _ [6, 7, 8, 9, 5, 10, 11, 12, 13, 14, 46, 47, 48, 49, 50, 51, 52, 53, 54, 55, 56, 57, 58, 59, 60, 61, 62, 63, 64, 65, 66] rfl (by decide +kernel)
set_option maxRecDepth 20000 in
theorem gX10_isNeeded_X10_areCells : GoodIn wsX10_isNeeded (wsV RX10 174 RX10 yX10_areCells wsX10_areCells) := goodIn_app (goodIn_of _ (by decide +kernel)) ggX10_isNeeded_X10_areCells
set_option maxRecDepth 20000 in
theorem ggX10_isNeeded_X10_hedgeAt : GoodIn wsX10_isNeeded wsX10_hedgeAt := goodIn_r _ [17, 18, 19, 20, 21, 22, 23, 24] rfl (by decide +kernel)
set_option maxRecDepth 20000 in
theorem gX10_isNeeded_X10_hedgeAt : GoodIn wsX10_isNeeded (va_wsS RX10 77 yX10_hedgeAt wsX10_hedgeAt) := goodIn_app (goodIn_of _ (by decide +kernel)) ggX10_isNeeded_X10_hedgeAt
set_option maxRecDepth 20000 in
theorem ggX10_isNeeded_X10_throwing : GoodIn wsX10_isNeeded wsX10_throwing := goodIn_r _ [28, 7, 46, 47, 48, 49, 50, 51, 52, 53, 54, 55, 56, 57, 58, 59, 60, 61, 62, 63, 64, 65, 66] rfl (by decide +kernel)
set_option maxRecDepth 20000 in
theorem gX10_isNeeded_X10_throwing : GoodIn wsX10_isNeeded (wsV RX10 50 RX10 yX10_throwing wsX10_throwing) := goodIn_app (goodIn_of _ (by decide +kernel)) ggX10_isNeeded_X10_throwing
set_option maxRecDepth 20000 in
theorem ggX10_isNeeded_X10_isGapAt : GoodIn wsX10_isNeeded wsX10_isGapAt := goodIn_ca (goodIn_r _ [32, 1, 46, 47, 48, 49, 50, 51, 52, 53, 54, 55, 56, 57, 58, 59, 60, 61, 62, 63, 64, 65, 66] rfl (by decide +kernel)) (goodIn_sub (fun _ h => List.mem_cons_of_mem _ (List.mem_append_right _ h)) (by decide +kernel))
set_option maxRecDepth 20000 in
theorem gX10_isNeeded_X10_isGapAt : GoodIn wsX10_isNeeded (wsV RX10 80 RX10 yX10_isGapAt wsX10_isGapAt) := goodIn_app (goodIn_of _ (by decide +kernel)) ggX10_isNeeded_X10_isGapAt
set_option maxRecDepth 20000 in
theorem ggX10_isNeeded_X10_hoursOf : GoodIn wsX10_isNeeded wsX10_hoursOf := goodIn_ca (goodIn_r _ [36, 37, 38, 39, 40, 5, 41, 18, 19, 20, 21, 42, 43, 44, 45, 12, 13, 14, 15, 16, 17, 22, 23, 24, 29, 30, 31, 32, 1, 46, 47, 48, 49, 50, 51, 52, 53, 54, 55, 56, 57, 58, 59, 60, 61, 62, 63, 64, 65, 66] rfl (by decide +kernel)) (goodIn_sub (fun _ h => List.mem_cons_of_mem _ (List.mem_append_right _ h)) (by decide +kernel))
set_option maxRecDepth 20000 in
theorem gX10_isNeeded_X10_hoursOf : GoodIn wsX10_isNeeded (wsV RX10 142 RX10 yX10_hoursOf wsX10_hoursOf) := goodIn_app (goodIn_of _ (by decide +kernel)) ggX10_isNeeded_X10_hoursOf
set_option maxRecDepth 20000 in
theorem ggX10_closesIn_X10_areCells : GoodIn wsX10_closesIn wsX10_areCells := goodIn_r _ [10, 11, 12, 13, 9, 14, 15, 16, 17, 18, 29, 30, 31, 32, 33, 34, 35, 36, 37, 38, 39, 40, 41, 42, 43, 44, 45, 46, 47, 48, 49] rfl (by decide +kernel)
set_option maxRecDepth 20000 in
theorem gX10_closesIn_X10_areCells : GoodIn wsX10_closesIn (wsV RX10 174 RX10 yX10_areCells wsX10_areCells) := goodIn_app (goodIn_of _ (by decide +kernel)) ggX10_closesIn_X10_areCells
set_option maxRecDepth 20000 in
theorem ggX10_closesIn_X10_hedgeAt : GoodIn wsX10_closesIn wsX10_hedgeAt := goodIn_r _ [21, 22, 23, 4, 24, 2, 3, 5] rfl (by decide +kernel)
set_option maxRecDepth 20000 in
theorem gX10_closesIn_X10_hedgeAt : GoodIn wsX10_closesIn (va_wsS RX10 77 yX10_hedgeAt wsX10_hedgeAt) := goodIn_app (goodIn_of _ (by decide +kernel)) ggX10_closesIn_X10_hedgeAt
set_option maxRecDepth 20000 in
theorem ggX10_closesIn_X10_throwing : GoodIn wsX10_closesIn wsX10_throwing := goodIn_r _ [28, 11, 29, 30, 31, 32, 33, 34, 35, 36, 37, 38, 39, 40, 41, 42, 43, 44, 45, 46, 47, 48, 49] rfl (by decide +kernel)
set_option maxRecDepth 20000 in
theorem gX10_closesIn_X10_throwing : GoodIn wsX10_closesIn (wsV RX10 50 RX10 yX10_throwing wsX10_throwing) := goodIn_app (goodIn_of _ (by decide +kernel)) ggX10_closesIn_X10_throwing
set_option maxRecDepth 20000 in
theorem ggX10_summersLeft_X10_hoursOf : GoodIn wsX10_summersLeft wsX10_hoursOf := goodIn_ca (goodIn_r _ [7, 8, 9, 10, 11, 6, 12, 13, 14, 15, 16, 17, 18, 19, 20, 21, 22, 23, 24, 25, 26, 27, 28, 29, 30, 31, 32, 33, 2, 34, 35, 36, 37, 38, 39, 40, 41, 42, 43, 44, 45, 46, 47, 48, 49, 50, 51, 52, 53, 54] rfl (by decide +kernel)) (goodIn_sub (fun _ h => List.mem_cons_of_mem _ (List.mem_append_right _ h)) (by decide +kernel))
set_option maxRecDepth 20000 in
theorem gX10_summersLeft_X10_hoursOf : GoodIn wsX10_summersLeft (wsV RX10 142 RX10 yX10_hoursOf wsX10_hoursOf) := goodIn_app (goodIn_of _ (by decide +kernel)) ggX10_summersLeft_X10_hoursOf
set_option maxRecDepth 20000 in
theorem ggX10_lasts_X10_visitorAt : GoodIn wsX10_lasts wsX10_visitorAt := goodIn_r _ [5] rfl (by decide +kernel)
set_option maxRecDepth 20000 in
theorem gX10_lasts_X10_visitorAt : GoodIn wsX10_lasts (va_wsS RX10 126 yX10_visitorAt wsX10_visitorAt) := goodIn_app (goodIn_of _ (by decide +kernel)) ggX10_lasts_X10_visitorAt
set_option maxRecDepth 20000 in
theorem ggX10_lasting_X10_lasts : GoodIn wsX10_lasting wsX10_lasts := goodIn_ca (goodIn_r _ [6, 1, 7, 8, 5, 9, 10, 11, 12, 13, 14, 15, 16, 17, 18, 19, 20, 21, 22, 23, 24, 25, 26, 27, 28, 29, 30] rfl (by decide +kernel)) (goodIn_sub (fun _ h => List.mem_cons_of_mem _ (List.mem_append_right _ h)) (by decide +kernel))
set_option maxRecDepth 20000 in
theorem gX10_lasting_X10_lasts : GoodIn wsX10_lasting (wsV RX10 183 RX10 yX10_lasts wsX10_lasts) := goodIn_app (goodIn_of _ (by decide +kernel)) ggX10_lasting_X10_lasts
set_option maxRecDepth 20000 in
theorem ggX10_lasting_X10_visitorAt : GoodIn wsX10_lasting wsX10_visitorAt := goodIn_r _ [9] rfl (by decide +kernel)
set_option maxRecDepth 20000 in
theorem gX10_lasting_X10_visitorAt : GoodIn wsX10_lasting (va_wsS RX10 126 yX10_visitorAt wsX10_visitorAt) := goodIn_app (goodIn_of _ (by decide +kernel)) ggX10_lasting_X10_visitorAt
set_option maxRecDepth 20000 in
theorem ggX10_gardenerOf_X10_isGardener : GoodIn wsX10_gardenerOf wsX10_isGardener := goodIn_ca (goodIn_r _ [7, 2, 8, 9, 6, 10, 29, 30, 31, 32, 33, 34, 35, 36, 37, 38, 39, 40, 41, 42, 43, 44, 45, 46, 47, 48, 49] rfl (by decide +kernel)) (goodIn_sub (fun _ h => List.mem_cons_of_mem _ (List.mem_append_right _ h)) (by decide +kernel))
set_option maxRecDepth 20000 in
theorem gX10_gardenerOf_X10_isGardener : GoodIn wsX10_gardenerOf (wsV RX10 117 RX10 yX10_isGardener wsX10_isGardener) := goodIn_app (goodIn_of _ (by decide +kernel)) ggX10_gardenerOf_X10_isGardener
set_option maxRecDepth 20000 in
theorem ggX10_gardenerOf_X10_throwing : GoodIn wsX10_gardenerOf wsX10_throwing := goodIn_r _ [14, 1, 29, 30, 31, 32, 33, 34, 35, 36, 37, 38, 39, 40, 41, 42, 43, 44, 45, 46, 47, 48, 49] rfl (by decide +kernel)
