set_option maxRecDepth 20000 in
theorem ggX10_trimIt_X10_gardenerAt : GoodIn wsX10_trimIt wsX10_gardenerAt := goodIn_r _ [42] rfl (by decide +kernel)
set_option maxRecDepth 20000 in
theorem gX10_trimIt_X10_gardenerAt : GoodIn wsX10_trimIt (va_wsS RX10 120 yX10_gardenerAt wsX10_gardenerAt) := goodIn_app (goodIn_of _ (by decide +kernel)) ggX10_trimIt_X10_gardenerAt
set_option maxRecDepth 20000 in
theorem ggX10_trim_X10_starts : GoodIn wsX10_trim wsX10_starts := goodIn_ca (goodIn_r _ [5, 6, 7, 8, 58, 59, 60, 61, 62, 63, 64, 65, 66, 67, 68, 69, 70, 71, 72, 73, 74, 75, 76, 77, 78] rfl (by decide +kernel)) (goodIn_sub (fun _ h => List.mem_cons_of_mem _ (List.mem_append_right _ h)) (by decide +kernel))
set_option maxRecDepth 20000 in
theorem gX10_trim_X10_starts : GoodIn wsX10_trim (wsV RX10 100 RX10 yX10_starts wsX10_starts) := goodIn_app (goodIn_of _ (by decide +kernel)) ggX10_trim_X10_starts
set_option maxRecDepth 20000 in
theorem ggX10_trim_X10_trimIt : GoodIn wsX10_trim wsX10_trimIt := goodIn_ca (goodIn_r _ [12, 8, 13, 14, 15, 4, 16, 17, 18, 19, 20, 21, 22, 23, 24, 25, 26, 27, 28, 29, 30, 6, 31, 32, 33, 34, 35, 36, 37, 38, 39, 40, 41, 42, 43, 44, 45, 46, 47, 48, 49, 50, 51, 58, 59, 60, 61, 62, 63, 64, 65, 66, 67, 68, 69, 70, 71, 72, 73, 74, 75, 76, 77, 78] rfl (by decide +kernel)) (goodIn_sub (fun _ h => List.mem_cons_of_mem _ (List.mem_append_right _ h)) (by decide +kernel))
set_option maxRecDepth 20000 in
theorem gX10_trim_X10_trimIt : GoodIn wsX10_trim (wsV RX10 123 RX10 yX10_trimIt wsX10_trimIt) := goodIn_app (goodIn_of _ (by decide +kernel)) ggX10_trim_X10_trimIt
set_option maxRecDepth 20000 in
theorem ggX10_trim_X10_changed : GoodIn wsX10_trim wsX10_changed := goodIn_ca (goodIn_r _ [55, 6, 56, 57, 7, 58, 59, 60, 61, 62, 63, 64, 65, 66, 67, 68, 69, 70, 71, 72, 73, 74, 75, 76, 77, 78] rfl (by decide +kernel)) (goodIn_sub (fun _ h => List.mem_cons_of_mem _ (List.mem_append_right _ h)) (by decide +kernel))
set_option maxRecDepth 20000 in
theorem gX10_trim_X10_changed : GoodIn wsX10_trim (wsV RX10 107 RX10 yX10_changed wsX10_changed) := goodIn_app (goodIn_of _ (by decide +kernel)) ggX10_trim_X10_changed
set_option maxRecDepth 20000 in
theorem ggX10_meets_X10_visitorAt : GoodIn wsX10_meets wsX10_visitorAt := goodIn_r _ [5] rfl (by decide +kernel)
set_option maxRecDepth 20000 in
theorem gX10_meets_X10_visitorAt : GoodIn wsX10_meets (va_wsS RX10 126 yX10_visitorAt wsX10_visitorAt) := goodIn_app (goodIn_of _ (by decide +kernel)) ggX10_meets_X10_visitorAt
set_option maxRecDepth 20000 in
theorem ggX10_minotaurIt_X10_in : GoodIn wsX10_minotaurIt wsX10_in := goodIn_r _ [7] rfl (by decide +kernel)
set_option maxRecDepth 20000 in
theorem gX10_minotaurIt_X10_in : GoodIn wsX10_minotaurIt (va_wsS RX10 59 yX10_in wsX10_in) := goodIn_app (goodIn_of _ (by decide +kernel)) ggX10_minotaurIt_X10_in
set_option maxRecDepth 20000 in
theorem ggX10_minotaurIt_X10_refuse : GoodIn wsX10_minotaurIt wsX10_refuse := goodIn_r _ [11, 12, 13, 14, 15, 16, 17, 6, 18, 19, 27, 28, 29, 30, 31, 32, 33, 34, 35, 36, 37, 38, 39, 40, 41, 42, 43, 44, 45, 46, 47] rfl (by decide +kernel)
set_option maxRecDepth 20000 in
theorem gX10_minotaurIt_X10_refuse : GoodIn wsX10_minotaurIt (wsV RX10 91 RX10 yX10_refuse wsX10_refuse) := goodIn_app (goodIn_of _ (by decide +kernel)) ggX10_minotaurIt_X10_refuse
set_option maxRecDepth 20000 in
theorem ggX10_minotaurIt_X10_meets : GoodIn wsX10_minotaurIt wsX10_meets := goodIn_ca (goodIn_r _ [23, 3, 24, 25, 6, 26, 27, 28, 29, 30, 31, 32, 33, 34, 35, 36, 37, 38, 39, 40, 41, 42, 43, 44, 45, 46, 47] rfl (by decide +kernel)) (goodIn_sub (fun _ h => List.mem_cons_of_mem _ (List.mem_append_right _ h)) (by decide +kernel))
set_option maxRecDepth 20000 in
theorem gX10_minotaurIt_X10_meets : GoodIn wsX10_minotaurIt (wsV RX10 131 RX10 yX10_meets wsX10_meets) := goodIn_app (goodIn_of _ (by decide +kernel)) ggX10_minotaurIt_X10_meets
set_option maxRecDepth 20000 in
theorem ggX10_minotaurIt_X10_visitorAt : GoodIn wsX10_minotaurIt wsX10_visitorAt := goodIn_r _ [26] rfl (by decide +kernel)
set_option maxRecDepth 20000 in
theorem gX10_minotaurIt_X10_visitorAt : GoodIn wsX10_minotaurIt (va_wsS RX10 126 yX10_visitorAt wsX10_visitorAt) := goodIn_app (goodIn_of _ (by decide +kernel)) ggX10_minotaurIt_X10_visitorAt
set_option maxRecDepth 20000 in
theorem ggX10_minotaur_X10_starts : GoodIn wsX10_minotaur wsX10_starts := goodIn_ca (goodIn_r _ [5, 6, 7, 8, 42, 43, 44, 45, 46, 47, 48, 49, 50, 51, 52, 53, 54, 55, 56, 57, 58, 59, 60, 61, 62] rfl (by decide +kernel)) (goodIn_sub (fun _ h => List.mem_cons_of_mem _ (List.mem_append_right _ h)) (by decide +kernel))
set_option maxRecDepth 20000 in
theorem gX10_minotaur_X10_starts : GoodIn wsX10_minotaur (wsV RX10 100 RX10 yX10_starts wsX10_starts) := goodIn_app (goodIn_of _ (by decide +kernel)) ggX10_minotaur_X10_starts
set_option maxRecDepth 20000 in
theorem ggX10_minotaur_X10_minotaurIt : GoodIn wsX10_minotaur wsX10_minotaurIt := goodIn_ca (goodIn_r _ [12, 13, 14, 8, 15, 16, 4, 17, 18, 19, 20, 21, 22, 23, 24, 25, 26, 27, 28, 6, 29, 30, 31, 32, 33, 34, 35, 42, 43, 44, 45, 46, 47, 48, 49, 50, 51, 52, 53, 54, 55, 56, 57, 58, 59, 60, 61, 62] rfl (by decide +kernel)) (goodIn_sub (fun _ h => List.mem_cons_of_mem _ (List.mem_append_right _ h)) (by decide +kernel))
set_option maxRecDepth 20000 in
theorem gX10_minotaur_X10_minotaurIt : GoodIn wsX10_minotaur (wsV RX10 134 RX10 yX10_minotaurIt wsX10_minotaurIt) := goodIn_app (goodIn_of _ (by decide +kernel)) ggX10_minotaur_X10_minotaurIt
set_option maxRecDepth 20000 in
theorem ggX10_minotaur_X10_changed : GoodIn wsX10_minotaur wsX10_changed := goodIn_ca (goodIn_r _ [39, 6, 40, 41, 7, 42, 43, 44, 45, 46, 47, 48, 49, 50, 51, 52, 53, 54, 55, 56, 57, 58, 59, 60, 61, 62] rfl (by decide +kernel)) (goodIn_sub (fun _ h => List.mem_cons_of_mem _ (List.mem_append_right _ h)) (by decide +kernel))
set_option maxRecDepth 20000 in
theorem gX10_minotaur_X10_changed : GoodIn wsX10_minotaur (wsV RX10 107 RX10 yX10_changed wsX10_changed) := goodIn_app (goodIn_of _ (by decide +kernel)) ggX10_minotaur_X10_changed
set_option maxRecDepth 20000 in
theorem ggX10_gardenerIt_X10_in : GoodIn wsX10_gardenerIt wsX10_in := goodIn_r _ [6] rfl (by decide +kernel)
set_option maxRecDepth 20000 in
theorem gX10_gardenerIt_X10_in : GoodIn wsX10_gardenerIt (va_wsS RX10 59 yX10_in wsX10_in) := goodIn_app (goodIn_of _ (by decide +kernel)) ggX10_gardenerIt_X10_in
set_option maxRecDepth 20000 in
theorem ggX10_gardenerIt_X10_refuse : GoodIn wsX10_gardenerIt wsX10_refuse := goodIn_r _ [10, 11, 12, 13, 14, 15, 16, 5, 17, 18, 22, 23, 24, 25, 26, 27, 28, 29, 30, 31, 32, 33, 34, 35, 36, 37, 38, 39, 40, 41, 42] rfl (by decide +kernel)
set_option maxRecDepth 20000 in
theorem gX10_gardenerIt_X10_refuse : GoodIn wsX10_gardenerIt (wsV RX10 91 RX10 yX10_refuse wsX10_refuse) := goodIn_app (goodIn_of _ (by decide +kernel)) ggX10_gardenerIt_X10_refuse
set_option maxRecDepth 20000 in
theorem ggX10_gardenerIt_X10_gardenerAt : GoodIn wsX10_gardenerIt wsX10_gardenerAt := goodIn_r _ [21] rfl (by decide +kernel)
set_option maxRecDepth 20000 in
theorem gX10_gardenerIt_X10_gardenerAt : GoodIn wsX10_gardenerIt (va_wsS RX10 120 yX10_gardenerAt wsX10_gardenerAt) := goodIn_app (goodIn_of _ (by decide +kernel)) ggX10_gardenerIt_X10_gardenerAt
set_option maxRecDepth 20000 in
theorem ggX10_gardener_X10_starts : GoodIn wsX10_gardener wsX10_starts := goodIn_ca (goodIn_r _ [5, 6, 7, 8, 37, 38, 39, 40, 41, 42, 43, 44, 45, 46, 47, 48, 49, 50, 51, 52, 53, 54, 55, 56, 57] rfl (by decide +kernel)) (goodIn_sub (fun _ h => List.mem_cons_of_mem _ (List.mem_append_right _ h)) (by decide +kernel))
set_option maxRecDepth 20000 in
theorem gX10_gardener_X10_starts : GoodIn wsX10_gardener (wsV RX10 100 RX10 yX10_starts wsX10_starts) := goodIn_app (goodIn_of _ (by decide +kernel)) ggX10_gardener_X10_starts
