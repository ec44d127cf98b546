set_option maxRecDepth 20000 in
theorem ggX10_gardener_X10_gardenerIt : GoodIn wsX10_gardener wsX10_gardenerIt := goodIn_ca (goodIn_r _ [12, 13, 8, 14, 15, 4, 16, 17, 18, 19, 20, 21, 22, 23, 24, 25, 26, 27, 6, 28, 29, 30, 37, 38, 39, 40, 41, 42, 43, 44, 45, 46, 47, 48, 49, 50, 51, 52, 53, 54, 55, 56, 57] rfl (by decide +kernel)) (goodIn_sub (fun _ h => List.mem_cons_of_mem _ (List.mem_append_right _ h)) (by decide +kernel))
set_option maxRecDepth 20000 in
theorem gX10_gardener_X10_gardenerIt : GoodIn wsX10_gardener (wsV RX10 139 RX10 yX10_gardenerIt wsX10_gardenerIt) := goodIn_app (goodIn_of _ (by decide +kernel)) ggX10_gardener_X10_gardenerIt
set_option maxRecDepth 20000 in
theorem ggX10_gardener_X10_changed : GoodIn wsX10_gardener wsX10_changed := goodIn_ca (goodIn_r _ [34, 6, 35, 36, 7, 37, 38, 39, 40, 41, 42, 43, 44, 45, 46, 47, 48, 49, 50, 51, 52, 53, 54, 55, 56, 57] rfl (by decide +kernel)) (goodIn_sub (fun _ h => List.mem_cons_of_mem _ (List.mem_append_right _ h)) (by decide +kernel))
set_option maxRecDepth 20000 in
theorem gX10_gardener_X10_changed : GoodIn wsX10_gardener (wsV RX10 107 RX10 yX10_changed wsX10_changed) := goodIn_app (goodIn_of _ (by decide +kernel)) ggX10_gardener_X10_changed
set_option maxRecDepth 20000 in
theorem ggX10_visitorIt_X10_in : GoodIn wsX10_visitorIt wsX10_in := goodIn_r _ [6] rfl (by decide +kernel)
set_option maxRecDepth 20000 in
theorem gX10_visitorIt_X10_in : GoodIn wsX10_visitorIt (va_wsS RX10 59 yX10_in wsX10_in) := goodIn_app (goodIn_of _ (by decide +kernel)) ggX10_visitorIt_X10_in
set_option maxRecDepth 20000 in
theorem ggX10_visitorIt_X10_refuse : GoodIn wsX10_visitorIt wsX10_refuse := goodIn_r _ [10, 11, 12, 13, 14, 15, 16, 5, 17, 18, 56, 57, 58, 59, 60, 61, 62, 63, 64, 65, 66, 67, 68, 69, 70, 71, 72, 73, 74, 75, 76] rfl (by decide +kernel)
set_option maxRecDepth 20000 in
theorem gX10_visitorIt_X10_refuse : GoodIn wsX10_visitorIt (wsV RX10 91 RX10 yX10_refuse wsX10_refuse) := goodIn_app (goodIn_of _ (by decide +kernel)) ggX10_visitorIt_X10_refuse
set_option maxRecDepth 20000 in
theorem ggX10_visitorIt_X10_hoursOf : GoodIn wsX10_visitorIt wsX10_hoursOf := goodIn_ca (goodIn_r _ [22, 23, 24, 25, 26, 5, 27, 28, 29, 30, 31, 32, 33, 34, 35, 3, 4, 6, 36, 37, 38, 39, 40, 41, 42, 43, 44, 45, 2, 56, 57, 58, 59, 60, 61, 62, 63, 64, 65, 66, 67, 68, 69, 70, 71, 72, 73, 74, 75, 76] rfl (by decide +kernel)) (goodIn_sub (fun _ h => List.mem_cons_of_mem _ (List.mem_append_right _ h)) (by decide +kernel))
set_option maxRecDepth 20000 in
theorem gX10_visitorIt_X10_hoursOf : GoodIn wsX10_visitorIt (wsV RX10 142 RX10 yX10_hoursOf wsX10_hoursOf) := goodIn_app (goodIn_of _ (by decide +kernel)) ggX10_visitorIt_X10_hoursOf
set_option maxRecDepth 20000 in
theorem ggX10_visitorIt_X10_reachedFrom : GoodIn wsX10_visitorIt wsX10_reachedFrom := goodIn_ca (goodIn_r _ [49, 23, 24, 25, 26, 5, 27, 28, 29, 30, 31, 32, 33, 34, 35, 3, 4, 6, 36, 37, 38, 39, 40, 41, 42, 43, 44, 45, 2, 56, 57, 58, 59, 60, 61, 62, 63, 64, 65, 66, 67, 68, 69, 70, 71, 72, 73, 74, 75, 76] rfl (by decide +kernel)) (goodIn_sub (fun _ h => List.mem_cons_of_mem _ (List.mem_append_right _ h)) (by decide +kernel))
set_option maxRecDepth 20000 in
theorem gX10_visitorIt_X10_reachedFrom : GoodIn wsX10_visitorIt (wsV RX10 145 RX10 yX10_reachedFrom wsX10_reachedFrom) := goodIn_app (goodIn_of _ (by decide +kernel)) ggX10_visitorIt_X10_reachedFrom
set_option maxRecDepth 20000 in
theorem ggX10_visitorIt_X10_ones : GoodIn wsX10_visitorIt wsX10_ones := goodIn_r _ [52] rfl (by decide +kernel)
set_option maxRecDepth 20000 in
theorem gX10_visitorIt_X10_ones : GoodIn wsX10_visitorIt (va_wsS RX10 148 yX10_ones wsX10_ones) := goodIn_app (goodIn_of _ (by decide +kernel)) ggX10_visitorIt_X10_ones
set_option maxRecDepth 20000 in
theorem ggX10_visitorIt_X10_visitorAt : GoodIn wsX10_visitorIt wsX10_visitorAt := goodIn_r _ [55] rfl (by decide +kernel)
set_option maxRecDepth 20000 in
theorem gX10_visitorIt_X10_visitorAt : GoodIn wsX10_visitorIt (va_wsS RX10 126 yX10_visitorAt wsX10_visitorAt) := goodIn_app (goodIn_of _ (by decide +kernel)) ggX10_visitorIt_X10_visitorAt
set_option maxRecDepth 20000 in
theorem ggX10_visitor_X10_starts : GoodIn wsX10_visitor wsX10_starts := goodIn_ca (goodIn_r _ [5, 6, 7, 8, 71, 72, 73, 74, 75, 76, 77, 78, 79, 80, 81, 82, 83, 84, 85, 86, 87, 88, 89, 90, 91] rfl (by decide +kernel)) (goodIn_sub (fun _ h => List.mem_cons_of_mem _ (List.mem_append_right _ h)) (by decide +kernel))
set_option maxRecDepth 20000 in
theorem gX10_visitor_X10_starts : GoodIn wsX10_visitor (wsV RX10 100 RX10 yX10_starts wsX10_starts) := goodIn_app (goodIn_of _ (by decide +kernel)) ggX10_visitor_X10_starts
set_option maxRecDepth 20000 in
theorem ggX10_visitor_X10_visitorIt : GoodIn wsX10_visitor wsX10_visitorIt := goodIn_ca (goodIn_r _ [12, 13, 8, 14, 15, 4, 16, 17, 18, 19, 20, 21, 22, 23, 24, 25, 26, 27, 6, 28, 29, 30, 31, 32, 33, 34, 35, 36, 37, 38, 39, 40, 41, 42, 43, 44, 45, 46, 47, 48, 49, 50, 51, 52, 53, 54, 55, 56, 57, 58, 59, 60, 61, 62, 63, 64, 71, 72, 73, 74, 75, 76, 77, 78, 79, 80, 81, 82, 83, 84, 85, 86, 87, 88, 89, 90, 91] rfl (by decide +kernel)) (goodIn_sub (fun _ h => List.mem_cons_of_mem _ (List.mem_append_right _ h)) (by decide +kernel))
set_option maxRecDepth 20000 in
theorem gX10_visitor_X10_visitorIt : GoodIn wsX10_visitor (wsV RX10 151 RX10 yX10_visitorIt wsX10_visitorIt) := goodIn_app (goodIn_of _ (by decide +kernel)) ggX10_visitor_X10_visitorIt
set_option maxRecDepth 20000 in
theorem ggX10_visitor_X10_changed : GoodIn wsX10_visitor wsX10_changed := goodIn_ca (goodIn_r _ [68, 6, 69, 70, 7, 71, 72, 73, 74, 75, 76, 77, 78, 79, 80, 81, 82, 83, 84, 85, 86, 87, 88, 89, 90, 91] rfl (by decide +kernel)) (goodIn_sub (fun _ h => List.mem_cons_of_mem _ (List.mem_append_right _ h)) (by decide +kernel))
set_option maxRecDepth 20000 in
theorem gX10_visitor_X10_changed : GoodIn wsX10_visitor (wsV RX10 107 RX10 yX10_changed wsX10_changed) := goodIn_app (goodIn_of _ (by decide +kernel)) ggX10_visitor_X10_changed
set_option maxRecDepth 20000 in
theorem ggX10_bondIt_X10_isGardener : GoodIn wsX10_bondIt wsX10_isGardener := goodIn_ca (goodIn_r _ [7, 1, 8, 9, 6, 10, 37, 38, 39, 40, 41, 42, 43, 44, 45, 46, 47, 48, 49, 50, 51, 52, 53, 54, 55, 56, 57] rfl (by decide +kernel)) (goodIn_sub (fun _ h => List.mem_cons_of_mem _ (List.mem_append_right _ h)) (by decide +kernel))
set_option maxRecDepth 20000 in
theorem gX10_bondIt_X10_isGardener : GoodIn wsX10_bondIt (wsV RX10 117 RX10 yX10_isGardener wsX10_isGardener) := goodIn_app (goodIn_of _ (by decide +kernel)) ggX10_bondIt_X10_isGardener
set_option maxRecDepth 20000 in
theorem ggX10_bondIt_X10_refuse : GoodIn wsX10_bondIt wsX10_refuse := goodIn_r _ [14, 15, 16, 17, 18, 19, 20, 6, 21, 22, 37, 38, 39, 40, 41, 42, 43, 44, 45, 46, 47, 48, 49, 50, 51, 52, 53, 54, 55, 56, 57] rfl (by decide +kernel)
set_option maxRecDepth 20000 in
theorem gX10_bondIt_X10_refuse : GoodIn wsX10_bondIt (wsV RX10 91 RX10 yX10_refuse wsX10_refuse) := goodIn_app (goodIn_of _ (by decide +kernel)) ggX10_bondIt_X10_refuse
set_option maxRecDepth 20000 in
theorem ggX10_bondIt_X10_isVisitor : GoodIn wsX10_bondIt wsX10_isVisitor := goodIn_ca (goodIn_r _ [26, 1, 8, 9, 6, 10, 37, 38, 39, 40, 41, 42, 43, 44, 45, 46, 47, 48, 49, 50, 51, 52, 53, 54, 55, 56, 57] rfl (by decide +kernel)) (goodIn_sub (fun _ h => List.mem_cons_of_mem _ (List.mem_append_right _ h)) (by decide +kernel))
set_option maxRecDepth 20000 in
theorem gX10_bondIt_X10_isVisitor : GoodIn wsX10_bondIt (wsV RX10 154 RX10 yX10_isVisitor wsX10_isVisitor) := goodIn_app (goodIn_of _ (by decide +kernel)) ggX10_bondIt_X10_isVisitor
set_option maxRecDepth 20000 in
theorem ggX10_bondIt_X10_in : GoodIn wsX10_bondIt wsX10_in := goodIn_r _ [10] rfl (by decide +kernel)
