set_option maxRecDepth 20000 in
theorem gX10_bondIt_X10_in : GoodIn wsX10_bondIt (va_wsS RX10 59 yX10_in wsX10_in) := goodIn_app (goodIn_of _ (by decide +kernel)) ggX10_bondIt_X10_in
set_option maxRecDepth 20000 in
theorem ggX10_bondIt_X10_visitorAt : GoodIn wsX10_bondIt wsX10_visitorAt := goodIn_r _ [29] rfl (by decide +kernel)
set_option maxRecDepth 20000 in
theorem gX10_bondIt_X10_visitorAt : GoodIn wsX10_bondIt (va_wsS RX10 126 yX10_visitorAt wsX10_visitorAt) := goodIn_app (goodIn_of _ (by decide +kernel)) ggX10_bondIt_X10_visitorAt
set_option maxRecDepth 20000 in
theorem ggX10_bondIt_X10_meets : GoodIn wsX10_bondIt wsX10_meets := goodIn_ca (goodIn_r _ [33, 1, 27, 28, 6, 29, 37, 38, 39, 40, 41, 42, 43, 44, 45, 46, 47, 48, 49, 50, 51, 52, 53, 54, 55, 56, 57] rfl (by decide +kernel)) (goodIn_sub (fun _ h => List.mem_cons_of_mem _ (List.mem_append_right _ h)) (by decide +kernel))
set_option maxRecDepth 20000 in
theorem gX10_bondIt_X10_meets : GoodIn wsX10_bondIt (wsV RX10 131 RX10 yX10_meets wsX10_meets) := goodIn_app (goodIn_of _ (by decide +kernel)) ggX10_bondIt_X10_meets
set_option maxRecDepth 20000 in
theorem ggX10_bondIt_X10_gardenerAt : GoodIn wsX10_bondIt wsX10_gardenerAt := goodIn_r _ [36] rfl (by decide +kernel)
set_option maxRecDepth 20000 in
theorem gX10_bondIt_X10_gardenerAt : GoodIn wsX10_bondIt (va_wsS RX10 120 yX10_gardenerAt wsX10_gardenerAt) := goodIn_app (goodIn_of _ (by decide +kernel)) ggX10_bondIt_X10_gardenerAt
set_option maxRecDepth 20000 in
theorem ggX10_bond_X10_starts : GoodIn wsX10_bond wsX10_starts := goodIn_ca (goodIn_r _ [5, 6, 7, 8, 52, 53, 54, 55, 56, 57, 58, 59, 60, 61, 62, 63, 64, 65, 66, 67, 68, 69, 70, 71, 72] rfl (by decide +kernel)) (goodIn_sub (fun _ h => List.mem_cons_of_mem _ (List.mem_append_right _ h)) (by decide +kernel))
set_option maxRecDepth 20000 in
theorem gX10_bond_X10_starts : GoodIn wsX10_bond (wsV RX10 100 RX10 yX10_starts wsX10_starts) := goodIn_app (goodIn_of _ (by decide +kernel)) ggX10_bond_X10_starts
set_option maxRecDepth 20000 in
theorem ggX10_bond_X10_bondIt : GoodIn wsX10_bond wsX10_bondIt := goodIn_ca (goodIn_r _ [12, 8, 13, 14, 15, 16, 4, 17, 18, 19, 20, 21, 22, 23, 24, 25, 26, 27, 28, 29, 30, 31, 6, 32, 33, 34, 35, 36, 37, 38, 39, 40, 41, 42, 43, 44, 45, 52, 53, 54, 55, 56, 57, 58, 59, 60, 61, 62, 63, 64, 65, 66, 67, 68, 69, 70, 71, 72] rfl (by decide +kernel)) (goodIn_sub (fun _ h => List.mem_cons_of_mem _ (List.mem_append_right _ h)) (by decide +kernel))
set_option maxRecDepth 20000 in
theorem gX10_bond_X10_bondIt : GoodIn wsX10_bond (wsV RX10 159 RX10 yX10_bondIt wsX10_bondIt) := goodIn_app (goodIn_of _ (by decide +kernel)) ggX10_bond_X10_bondIt
set_option maxRecDepth 20000 in
theorem ggX10_bond_X10_changed : GoodIn wsX10_bond wsX10_changed := goodIn_ca (goodIn_r _ [49, 6, 50, 51, 7, 52, 53, 54, 55, 56, 57, 58, 59, 60, 61, 62, 63, 64, 65, 66, 67, 68, 69, 70, 71, 72] rfl (by decide +kernel)) (goodIn_sub (fun _ h => List.mem_cons_of_mem _ (List.mem_append_right _ h)) (by decide +kernel))
set_option maxRecDepth 20000 in
theorem gX10_bond_X10_changed : GoodIn wsX10_bond (wsV RX10 107 RX10 yX10_changed wsX10_changed) := goodIn_app (goodIn_of _ (by decide +kernel)) ggX10_bond_X10_changed
set_option maxRecDepth 20000 in
theorem ggX10_lostOf_X10_visitorAt : GoodIn wsX10_lostOf wsX10_visitorAt := goodIn_r _ [9] rfl (by decide +kernel)
set_option maxRecDepth 20000 in
theorem gX10_lostOf_X10_visitorAt : GoodIn wsX10_lostOf (va_wsS RX10 126 yX10_visitorAt wsX10_visitorAt) := goodIn_app (goodIn_of _ (by decide +kernel)) ggX10_lostOf_X10_visitorAt
set_option maxRecDepth 20000 in
theorem ggX10_pays_X10_visitorAt : GoodIn wsX10_pays wsX10_visitorAt := goodIn_r _ [9] rfl (by decide +kernel)
set_option maxRecDepth 20000 in
theorem gX10_pays_X10_visitorAt : GoodIn wsX10_pays (va_wsS RX10 126 yX10_visitorAt wsX10_visitorAt) := goodIn_app (goodIn_of _ (by decide +kernel)) ggX10_pays_X10_visitorAt
set_option maxRecDepth 20000 in
theorem ggX10_pays_X10_gardenerAt : GoodIn wsX10_pays wsX10_gardenerAt := goodIn_r _ [12] rfl (by decide +kernel)
set_option maxRecDepth 20000 in
theorem gX10_pays_X10_gardenerAt : GoodIn wsX10_pays (va_wsS RX10 120 yX10_gardenerAt wsX10_gardenerAt) := goodIn_app (goodIn_of _ (by decide +kernel)) ggX10_pays_X10_gardenerAt
set_option maxRecDepth 20000 in
theorem ggX10_walkIt_X10_isVisitor : GoodIn wsX10_walkIt wsX10_isVisitor := goodIn_ca (goodIn_r _ [7, 1, 8, 9, 6, 10, 58, 59, 60, 61, 62, 63, 64, 65, 66, 67, 68, 69, 70, 71, 72, 73, 74, 75, 76, 77, 78] rfl (by decide +kernel)) (goodIn_sub (fun _ h => List.mem_cons_of_mem _ (List.mem_append_right _ h)) (by decide +kernel))
set_option maxRecDepth 20000 in
theorem gX10_walkIt_X10_isVisitor : GoodIn wsX10_walkIt (wsV RX10 154 RX10 yX10_isVisitor wsX10_isVisitor) := goodIn_app (goodIn_of _ (by decide +kernel)) ggX10_walkIt_X10_isVisitor
set_option maxRecDepth 20000 in
theorem ggX10_walkIt_X10_refuse : GoodIn wsX10_walkIt wsX10_refuse := goodIn_r _ [14, 15, 16, 17, 18, 19, 20, 6, 21, 22, 58, 59, 60, 61, 62, 63, 64, 65, 66, 67, 68, 69, 70, 71, 72, 73, 74, 75, 76, 77, 78] rfl (by decide +kernel)
set_option maxRecDepth 20000 in
theorem gX10_walkIt_X10_refuse : GoodIn wsX10_walkIt (wsV RX10 91 RX10 yX10_refuse wsX10_refuse) := goodIn_app (goodIn_of _ (by decide +kernel)) ggX10_walkIt_X10_refuse
set_option maxRecDepth 20000 in
theorem ggX10_walkIt_X10_in : GoodIn wsX10_walkIt wsX10_in := goodIn_r _ [10] rfl (by decide +kernel)
set_option maxRecDepth 20000 in
theorem gX10_walkIt_X10_in : GoodIn wsX10_walkIt (va_wsS RX10 59 yX10_in wsX10_in) := goodIn_app (goodIn_of _ (by decide +kernel)) ggX10_walkIt_X10_in
set_option maxRecDepth 20000 in
theorem ggX10_walkIt_X10_visitorAt : GoodIn wsX10_walkIt wsX10_visitorAt := goodIn_r _ [25] rfl (by decide +kernel)
set_option maxRecDepth 20000 in
theorem gX10_walkIt_X10_visitorAt : GoodIn wsX10_walkIt (va_wsS RX10 126 yX10_visitorAt wsX10_visitorAt) := goodIn_app (goodIn_of _ (by decide +kernel)) ggX10_walkIt_X10_visitorAt
set_option maxRecDepth 20000 in
theorem ggX10_walkIt_X10_nextTo : GoodIn wsX10_walkIt wsX10_nextTo := goodIn_r _ [28, 2, 8, 9, 6, 10] rfl (by decide +kernel)
set_option maxRecDepth 20000 in
theorem gX10_walkIt_X10_nextTo : GoodIn wsX10_walkIt (va_wsS RX10 74 yX10_nextTo wsX10_nextTo) := goodIn_app (goodIn_of _ (by decide +kernel)) ggX10_walkIt_X10_nextTo
set_option maxRecDepth 20000 in
theorem ggX10_walkIt_X10_hedgeAt : GoodIn wsX10_walkIt wsX10_hedgeAt := goodIn_r _ [31, 32, 33, 34, 35, 36, 37, 38] rfl (by decide +kernel)
set_option maxRecDepth 20000 in
theorem gX10_walkIt_X10_hedgeAt : GoodIn wsX10_walkIt (va_wsS RX10 77 yX10_hedgeAt wsX10_hedgeAt) := goodIn_app (goodIn_of _ (by decide +kernel)) ggX10_walkIt_X10_hedgeAt
set_option maxRecDepth 20000 in
theorem ggX10_walkIt_X10_isGapAt : GoodIn wsX10_walkIt wsX10_isGapAt := goodIn_ca (goodIn_r _ [42, 1, 58, 59, 60, 61, 62, 63, 64, 65, 66, 67, 68, 69, 70, 71, 72, 73, 74, 75, 76, 77, 78] rfl (by decide +kernel)) (goodIn_sub (fun _ h => List.mem_cons_of_mem _ (List.mem_append_right _ h)) (by decide +kernel))
set_option maxRecDepth 20000 in
theorem gX10_walkIt_X10_isGapAt : GoodIn wsX10_walkIt (wsV RX10 80 RX10 yX10_isGapAt wsX10_isGapAt) := goodIn_app (goodIn_of _ (by decide +kernel)) ggX10_walkIt_X10_isGapAt
set_option maxRecDepth 20000 in
theorem ggX10_walkIt_X10_meets : GoodIn wsX10_walkIt wsX10_meets := goodIn_ca (goodIn_r _ [46, 1, 23, 24, 6, 25, 58, 59, 60, 61, 62, 63, 64, 65, 66, 67, 68, 69, 70, 71, 72, 73, 74, 75, 76, 77, 78] rfl (by decide +kernel)) (goodIn_sub (fun _ h => List.mem_cons_of_mem _ (List.mem_append_right _ h)) (by decide +kernel))
set_option maxRecDepth 20000 in
theorem gX10_walkIt_X10_meets : GoodIn wsX10_walkIt (wsV RX10 131 RX10 yX10_meets wsX10_meets) := goodIn_app (goodIn_of _ (by decide +kernel)) ggX10_walkIt_X10_meets
set_option maxRecDepth 20000 in
theorem ggX10_walkIt_X10_lostOf : GoodIn wsX10_walkIt wsX10_lostOf := goodIn_ca (goodIn_r _ [50, 1, 36, 37, 34, 38, 23, 24, 6, 25, 58, 59, 60, 61, 62, 63, 64, 65, 66, 67, 68, 69, 70, 71, 72, 73, 74, 75, 76, 77, 78] rfl (by decide +kernel)) (goodIn_sub (fun _ h => List.mem_cons_of_mem _ (List.mem_append_right _ h)) (by decide +kernel))
