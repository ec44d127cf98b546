set_option maxRecDepth 20000 in
theorem ggX10_hedgeIt_X10_in : GoodIn wsX10_hedgeIt wsX10_in := goodIn_r _ [6] rfl (by decide +kernel)
set_option maxRecDepth 20000 in
theorem gX10_hedgeIt_X10_in : GoodIn wsX10_hedgeIt (va_wsS RX10 59 yX10_in wsX10_in) := goodIn_app (goodIn_of _ (by decide +kernel)) ggX10_hedgeIt_X10_in
set_option maxRecDepth 20000 in
theorem ggX10_hedgeIt_X10_refuse : GoodIn wsX10_hedgeIt wsX10_refuse := goodIn_r _ [10, 11, 12, 13, 14, 15, 16, 5, 17, 18, 37, 38, 39, 40, 41, 42, 43, 44, 45, 46, 47, 48, 49, 50, 51, 52, 53, 54, 55, 56, 57] rfl (by decide +kernel)
set_option maxRecDepth 20000 in
theorem gX10_hedgeIt_X10_refuse : GoodIn wsX10_hedgeIt (wsV RX10 91 RX10 yX10_refuse wsX10_refuse) := goodIn_app (goodIn_of _ (by decide +kernel)) ggX10_hedgeIt_X10_refuse
set_option maxRecDepth 20000 in
theorem ggX10_hedgeIt_X10_areNeighbours : GoodIn wsX10_hedgeIt wsX10_areNeighbours := goodIn_r _ [22, 23, 24, 25, 26, 27, 28, 5, 29, 30, 3, 4, 6, 7, 8, 9, 10, 11, 12, 13, 14, 15, 16, 17, 18, 31, 32, 33, 34, 35, 36, 37, 38, 39, 40, 41, 42, 43, 44, 45, 46, 47, 48, 49, 50, 51, 52, 53, 54, 55, 56, 57] rfl (by decide +kernel)
set_option maxRecDepth 20000 in
theorem gX10_hedgeIt_X10_areNeighbours : GoodIn wsX10_hedgeIt (wsV RX10 96 RX10 yX10_areNeighbours wsX10_areNeighbours) := goodIn_app (goodIn_of _ (by decide +kernel)) ggX10_hedgeIt_X10_areNeighbours
set_option maxRecDepth 20000 in
theorem ggX10_hedgeIt_X10_hedgeAt : GoodIn wsX10_hedgeIt wsX10_hedgeAt := goodIn_r _ [33, 34, 35, 25, 36, 23, 24, 26] rfl (by decide +kernel)
set_option maxRecDepth 20000 in
theorem gX10_hedgeIt_X10_hedgeAt : GoodIn wsX10_hedgeIt (va_wsS RX10 77 yX10_hedgeAt wsX10_hedgeAt) := goodIn_app (goodIn_of _ (by decide +kernel)) ggX10_hedgeIt_X10_hedgeAt
set_option maxRecDepth 20000 in
theorem ggX10_hedge_X10_starts : GoodIn wsX10_hedge wsX10_starts := goodIn_ca (goodIn_r _ [5, 6, 7, 8, 52, 53, 54, 55, 56, 57, 58, 59, 60, 61, 62, 63, 64, 65, 66, 67, 68, 69, 70, 71, 72] rfl (by decide +kernel)) (goodIn_sub (fun _ h => List.mem_cons_of_mem _ (List.mem_append_right _ h)) (by decide +kernel))
set_option maxRecDepth 20000 in
theorem gX10_hedge_X10_starts : GoodIn wsX10_hedge (wsV RX10 100 RX10 yX10_starts wsX10_starts) := goodIn_app (goodIn_of _ (by decide +kernel)) ggX10_hedge_X10_starts
set_option maxRecDepth 20000 in
theorem ggX10_hedge_X10_hedgeIt : GoodIn wsX10_hedge wsX10_hedgeIt := goodIn_ca (goodIn_r _ [12, 13, 8, 14, 15, 4, 16, 17, 18, 19, 20, 21, 22, 23, 24, 25, 26, 27, 6, 28, 29, 30, 31, 32, 33, 34, 35, 36, 37, 38, 39, 40, 41, 42, 43, 44, 45, 52, 53, 54, 55, 56, 57, 58, 59, 60, 61, 62, 63, 64, 65, 66, 67, 68, 69, 70, 71, 72] rfl (by decide +kernel)) (goodIn_sub (fun _ h => List.mem_cons_of_mem _ (List.mem_append_right _ h)) (by decide +kernel))
set_option maxRecDepth 20000 in
theorem gX10_hedge_X10_hedgeIt : GoodIn wsX10_hedge (wsV RX10 103 RX10 yX10_hedgeIt wsX10_hedgeIt) := goodIn_app (goodIn_of _ (by decide +kernel)) ggX10_hedge_X10_hedgeIt
set_option maxRecDepth 20000 in
theorem ggX10_hedge_X10_changed : GoodIn wsX10_hedge wsX10_changed := goodIn_ca (goodIn_r _ [49, 6, 50, 51, 7, 52, 53, 54, 55, 56, 57, 58, 59, 60, 61, 62, 63, 64, 65, 66, 67, 68, 69, 70, 71, 72] rfl (by decide +kernel)) (goodIn_sub (fun _ h => List.mem_cons_of_mem _ (List.mem_append_right _ h)) (by decide +kernel))
set_option maxRecDepth 20000 in
theorem gX10_hedge_X10_changed : GoodIn wsX10_hedge (wsV RX10 107 RX10 yX10_changed wsX10_changed) := goodIn_app (goodIn_of _ (by decide +kernel)) ggX10_hedge_X10_changed
set_option maxRecDepth 20000 in
theorem ggX10_summerIt_X10_gaps : GoodIn wsX10_summerIt wsX10_gaps := goodIn_ca (goodIn_r _ [10, 11, 12, 13, 9, 14, 1, 15, 16, 17, 18, 19, 20, 21, 22, 23, 24, 25, 26, 27, 28, 29, 30, 31, 32, 33, 34, 35] rfl (by decide +kernel)) (goodIn_sub (fun _ h => List.mem_cons_of_mem _ (List.mem_append_right _ h)) (by decide +kernel))
set_option maxRecDepth 20000 in
theorem gX10_summerIt_X10_gaps : GoodIn wsX10_summerIt (wsV RX10 110 RX10 yX10_gaps wsX10_gaps) := goodIn_app (goodIn_of _ (by decide +kernel)) ggX10_summerIt_X10_gaps
set_option maxRecDepth 20000 in
theorem ggX10_summer_X10_starts : GoodIn wsX10_summer wsX10_starts := goodIn_ca (goodIn_r _ [5, 6, 7, 8, 31, 32, 33, 34, 35, 36, 37, 38, 39, 40, 41, 42, 43, 44, 45, 46, 47, 48, 49, 50, 51] rfl (by decide +kernel)) (goodIn_sub (fun _ h => List.mem_cons_of_mem _ (List.mem_append_right _ h)) (by decide +kernel))
set_option maxRecDepth 20000 in
theorem gX10_summer_X10_starts : GoodIn wsX10_summer (wsV RX10 100 RX10 yX10_starts wsX10_starts) := goodIn_app (goodIn_of _ (by decide +kernel)) ggX10_summer_X10_starts
set_option maxRecDepth 20000 in
theorem ggX10_summer_X10_summerIt : GoodIn wsX10_summer wsX10_summerIt := goodIn_ca (goodIn_r _ [12, 8, 13, 14, 15, 16, 17, 18, 19, 4, 20, 21, 22, 23, 24, 31, 32, 33, 34, 35, 36, 37, 38, 39, 40, 41, 42, 43, 44, 45, 46, 47, 48, 49, 50, 51] rfl (by decide +kernel)) (goodIn_sub (fun _ h => List.mem_cons_of_mem _ (List.mem_append_right _ h)) (by decide +kernel))
set_option maxRecDepth 20000 in
theorem gX10_summer_X10_summerIt : GoodIn wsX10_summer (wsV RX10 114 RX10 yX10_summerIt wsX10_summerIt) := goodIn_app (goodIn_of _ (by decide +kernel)) ggX10_summer_X10_summerIt
set_option maxRecDepth 20000 in
theorem ggX10_summer_X10_changed : GoodIn wsX10_summer wsX10_changed := goodIn_ca (goodIn_r _ [28, 6, 29, 30, 7, 31, 32, 33, 34, 35, 36, 37, 38, 39, 40, 41, 42, 43, 44, 45, 46, 47, 48, 49, 50, 51] rfl (by decide +kernel)) (goodIn_sub (fun _ h => List.mem_cons_of_mem _ (List.mem_append_right _ h)) (by decide +kernel))
set_option maxRecDepth 20000 in
theorem gX10_summer_X10_changed : GoodIn wsX10_summer (wsV RX10 107 RX10 yX10_changed wsX10_changed) := goodIn_app (goodIn_of _ (by decide +kernel)) ggX10_summer_X10_changed
set_option maxRecDepth 20000 in
theorem ggX10_trimIt_X10_isGardener : GoodIn wsX10_trimIt wsX10_isGardener := goodIn_ca (goodIn_r _ [6, 1, 7, 8, 5, 9, 43, 44, 45, 46, 47, 48, 49, 50, 51, 52, 53, 54, 55, 56, 57, 58, 59, 60, 61, 62, 63] rfl (by decide +kernel)) (goodIn_sub (fun _ h => List.mem_cons_of_mem _ (List.mem_append_right _ h)) (by decide +kernel))
set_option maxRecDepth 20000 in
theorem gX10_trimIt_X10_isGardener : GoodIn wsX10_trimIt (wsV RX10 117 RX10 yX10_isGardener wsX10_isGardener) := goodIn_app (goodIn_of _ (by decide +kernel)) ggX10_trimIt_X10_isGardener
set_option maxRecDepth 20000 in
theorem ggX10_trimIt_X10_refuse : GoodIn wsX10_trimIt wsX10_refuse := goodIn_r _ [13, 14, 15, 16, 17, 18, 19, 5, 20, 21, 43, 44, 45, 46, 47, 48, 49, 50, 51, 52, 53, 54, 55, 56, 57, 58, 59, 60, 61, 62, 63] rfl (by decide +kernel)
set_option maxRecDepth 20000 in
theorem gX10_trimIt_X10_refuse : GoodIn wsX10_trimIt (wsV RX10 91 RX10 yX10_refuse wsX10_refuse) := goodIn_app (goodIn_of _ (by decide +kernel)) ggX10_trimIt_X10_refuse
set_option maxRecDepth 20000 in
theorem ggX10_trimIt_X10_areNeighbours : GoodIn wsX10_trimIt wsX10_areNeighbours := goodIn_r _ [25, 26, 27, 28, 29, 30, 31, 5, 32, 33, 7, 8, 9, 10, 11, 12, 13, 14, 15, 16, 17, 18, 19, 20, 21, 34, 35, 36, 37, 38, 39, 43, 44, 45, 46, 47, 48, 49, 50, 51, 52, 53, 54, 55, 56, 57, 58, 59, 60, 61, 62, 63] rfl (by decide +kernel)
set_option maxRecDepth 20000 in
theorem gX10_trimIt_X10_areNeighbours : GoodIn wsX10_trimIt (wsV RX10 96 RX10 yX10_areNeighbours wsX10_areNeighbours) := goodIn_app (goodIn_of _ (by decide +kernel)) ggX10_trimIt_X10_areNeighbours
set_option maxRecDepth 20000 in
theorem ggX10_trimIt_X10_hedgeAt : GoodIn wsX10_trimIt wsX10_hedgeAt := goodIn_r _ [36, 37, 38, 28, 39, 26, 27, 29] rfl (by decide +kernel)
set_option maxRecDepth 20000 in
theorem gX10_trimIt_X10_hedgeAt : GoodIn wsX10_trimIt (va_wsS RX10 77 yX10_hedgeAt wsX10_hedgeAt) := goodIn_app (goodIn_of _ (by decide +kernel)) ggX10_trimIt_X10_hedgeAt
