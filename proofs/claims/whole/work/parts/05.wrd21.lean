set_option maxRecDepth 20000 in
theorem gX10_walkIt_X10_lostOf : GoodIn wsX10_walkIt (wsV RX10 162 RX10 yX10_lostOf wsX10_lostOf) := goodIn_app (goodIn_of _ (by decide +kernel)) ggX10_walkIt_X10_lostOf
set_option maxRecDepth 20000 in
theorem ggX10_walkIt_X10_pays : GoodIn wsX10_walkIt wsX10_pays := goodIn_ca (goodIn_r _ [54, 1, 32, 33, 34, 35, 23, 24, 6, 25, 55, 56, 57, 58, 59, 60, 61, 62, 63, 64, 65, 66, 67, 68, 69, 70, 71, 72, 73, 74, 75, 76, 77, 78] rfl (by decide +kernel)) (goodIn_sub (fun _ h => List.mem_cons_of_mem _ (List.mem_append_right _ h)) (by decide +kernel))
set_option maxRecDepth 20000 in
theorem gX10_walkIt_X10_pays : GoodIn wsX10_walkIt (wsV RX10 165 RX10 yX10_pays wsX10_pays) := goodIn_app (goodIn_of _ (by decide +kernel)) ggX10_walkIt_X10_pays
set_option maxRecDepth 20000 in
theorem ggX10_walkIt_X10_gardenerAt : GoodIn wsX10_walkIt wsX10_gardenerAt := goodIn_r _ [57] rfl (by decide +kernel)
set_option maxRecDepth 20000 in
theorem gX10_walkIt_X10_gardenerAt : GoodIn wsX10_walkIt (va_wsS RX10 120 yX10_gardenerAt wsX10_gardenerAt) := goodIn_app (goodIn_of _ (by decide +kernel)) ggX10_walkIt_X10_gardenerAt
set_option maxRecDepth 20000 in
theorem ggX10_walk_X10_starts : GoodIn wsX10_walk wsX10_starts := goodIn_ca (goodIn_r _ [5, 6, 7, 8, 73, 74, 75, 76, 77, 78, 79, 80, 81, 82, 83, 84, 85, 86, 87, 88, 89, 90, 91, 92, 93] rfl (by decide +kernel)) (goodIn_sub (fun _ h => List.mem_cons_of_mem _ (List.mem_append_right _ h)) (by decide +kernel))
set_option maxRecDepth 20000 in
theorem gX10_walk_X10_starts : GoodIn wsX10_walk (wsV RX10 100 RX10 yX10_starts wsX10_starts) := goodIn_app (goodIn_of _ (by decide +kernel)) ggX10_walk_X10_starts
set_option maxRecDepth 20000 in
theorem ggX10_walk_X10_walkIt : GoodIn wsX10_walk wsX10_walkIt := goodIn_ca (goodIn_r _ [12, 8, 13, 14, 15, 16, 4, 17, 18, 19, 20, 21, 22, 23, 24, 25, 26, 27, 28, 29, 30, 31, 6, 32, 33, 34, 35, 36, 37, 38, 39, 40, 41, 42, 43, 44, 45, 46, 47, 48, 49, 50, 51, 52, 53, 54, 55, 56, 57, 58, 59, 60, 61, 62, 63, 64, 65, 66, 73, 74, 75, 76, 77, 78, 79, 80, 81, 82, 83, 84, 85, 86, 87, 88, 89, 90, 91, 92, 93] rfl (by decide +kernel)) (goodIn_sub (fun _ h => List.mem_cons_of_mem _ (List.mem_append_right _ h)) (by decide +kernel))
set_option maxRecDepth 20000 in
theorem gX10_walk_X10_walkIt : GoodIn wsX10_walk (wsV RX10 168 RX10 yX10_walkIt wsX10_walkIt) := goodIn_app (goodIn_of _ (by decide +kernel)) ggX10_walk_X10_walkIt
set_option maxRecDepth 20000 in
theorem ggX10_walk_X10_changed : GoodIn wsX10_walk wsX10_changed := goodIn_ca (goodIn_r _ [70, 6, 71, 72, 7, 73, 74, 75, 76, 77, 78, 79, 80, 81, 82, 83, 84, 85, 86, 87, 88, 89, 90, 91, 92, 93] rfl (by decide +kernel)) (goodIn_sub (fun _ h => List.mem_cons_of_mem _ (List.mem_append_right _ h)) (by decide +kernel))
set_option maxRecDepth 20000 in
theorem gX10_walk_X10_changed : GoodIn wsX10_walk (wsV RX10 107 RX10 yX10_changed wsX10_changed) := goodIn_app (goodIn_of _ (by decide +kernel)) ggX10_walk_X10_changed
set_option maxRecDepth 20000 in
theorem ggX10_restIt_X10_isVisitor : GoodIn wsX10_restIt wsX10_isVisitor := goodIn_ca (goodIn_r _ [7, 1, 8, 9, 6, 10, 26, 27, 28, 29, 30, 31, 32, 33, 34, 35, 36, 37, 38, 39, 40, 41, 42, 43, 44, 45, 46] rfl (by decide +kernel)) (goodIn_sub (fun _ h => List.mem_cons_of_mem _ (List.mem_append_right _ h)) (by decide +kernel))
set_option maxRecDepth 20000 in
theorem gX10_restIt_X10_isVisitor : GoodIn wsX10_restIt (wsV RX10 154 RX10 yX10_isVisitor wsX10_isVisitor) := goodIn_app (goodIn_of _ (by decide +kernel)) ggX10_restIt_X10_isVisitor
set_option maxRecDepth 20000 in
theorem ggX10_restIt_X10_refuse : GoodIn wsX10_restIt wsX10_refuse := goodIn_r _ [14, 15, 16, 17, 18, 19, 20, 6, 21, 22, 26, 27, 28, 29, 30, 31, 32, 33, 34, 35, 36, 37, 38, 39, 40, 41, 42, 43, 44, 45, 46] rfl (by decide +kernel)
set_option maxRecDepth 20000 in
theorem gX10_restIt_X10_refuse : GoodIn wsX10_restIt (wsV RX10 91 RX10 yX10_refuse wsX10_refuse) := goodIn_app (goodIn_of _ (by decide +kernel)) ggX10_restIt_X10_refuse
set_option maxRecDepth 20000 in
theorem ggX10_restIt_X10_in : GoodIn wsX10_restIt wsX10_in := goodIn_r _ [10] rfl (by decide +kernel)
set_option maxRecDepth 20000 in
theorem gX10_restIt_X10_in : GoodIn wsX10_restIt (va_wsS RX10 59 yX10_in wsX10_in) := goodIn_app (goodIn_of _ (by decide +kernel)) ggX10_restIt_X10_in
set_option maxRecDepth 20000 in
theorem ggX10_restIt_X10_visitorAt : GoodIn wsX10_restIt wsX10_visitorAt := goodIn_r _ [25] rfl (by decide +kernel)
set_option maxRecDepth 20000 in
theorem gX10_restIt_X10_visitorAt : GoodIn wsX10_restIt (va_wsS RX10 126 yX10_visitorAt wsX10_visitorAt) := goodIn_app (goodIn_of _ (by decide +kernel)) ggX10_restIt_X10_visitorAt
set_option maxRecDepth 20000 in
theorem ggX10_rest_X10_starts : GoodIn wsX10_rest wsX10_starts := goodIn_ca (goodIn_r _ [5, 6, 7, 8, 41, 42, 43, 44, 45, 46, 47, 48, 49, 50, 51, 52, 53, 54, 55, 56, 57, 58, 59, 60, 61] rfl (by decide +kernel)) (goodIn_sub (fun _ h => List.mem_cons_of_mem _ (List.mem_append_right _ h)) (by decide +kernel))
set_option maxRecDepth 20000 in
theorem gX10_rest_X10_starts : GoodIn wsX10_rest (wsV RX10 100 RX10 yX10_starts wsX10_starts) := goodIn_app (goodIn_of _ (by decide +kernel)) ggX10_rest_X10_starts
set_option maxRecDepth 20000 in
theorem ggX10_rest_X10_restIt : GoodIn wsX10_rest wsX10_restIt := goodIn_ca (goodIn_r _ [12, 8, 13, 14, 15, 16, 4, 17, 18, 19, 20, 21, 22, 23, 24, 25, 26, 27, 28, 29, 30, 31, 6, 32, 33, 34, 41, 42, 43, 44, 45, 46, 47, 48, 49, 50, 51, 52, 53, 54, 55, 56, 57, 58, 59, 60, 61] rfl (by decide +kernel)) (goodIn_sub (fun _ h => List.mem_cons_of_mem _ (List.mem_append_right _ h)) (by decide +kernel))
set_option maxRecDepth 20000 in
theorem gX10_rest_X10_restIt : GoodIn wsX10_rest (wsV RX10 171 RX10 yX10_restIt wsX10_restIt) := goodIn_app (goodIn_of _ (by decide +kernel)) ggX10_rest_X10_restIt
set_option maxRecDepth 20000 in
theorem ggX10_rest_X10_changed : GoodIn wsX10_rest wsX10_changed := goodIn_ca (goodIn_r _ [38, 6, 39, 40, 7, 41, 42, 43, 44, 45, 46, 47, 48, 49, 50, 51, 52, 53, 54, 55, 56, 57, 58, 59, 60, 61] rfl (by decide +kernel)) (goodIn_sub (fun _ h => List.mem_cons_of_mem _ (List.mem_append_right _ h)) (by decide +kernel))
set_option maxRecDepth 20000 in
theorem gX10_rest_X10_changed : GoodIn wsX10_rest (wsV RX10 107 RX10 yX10_changed wsX10_changed) := goodIn_app (goodIn_of _ (by decide +kernel)) ggX10_rest_X10_changed
set_option maxRecDepth 20000 in
theorem ggX10_areCells_X10_isCell : GoodIn wsX10_areCells wsX10_isCell := goodIn_r _ [5, 6, 7, 8, 4, 9] rfl (by decide +kernel)
set_option maxRecDepth 20000 in
theorem gX10_areCells_X10_isCell : GoodIn wsX10_areCells (va_wsS RX10 88 yX10_isCell wsX10_isCell) := goodIn_app (goodIn_of _ (by decide +kernel)) ggX10_areCells_X10_isCell
set_option maxRecDepth 20000 in
theorem ggX10_leaves_X10_areCells : GoodIn wsX10_leaves wsX10_areCells := goodIn_r _ [6, 7, 8, 9, 5, 10, 11, 12, 13, 14, 29, 30, 31, 32, 33, 34, 35, 36, 37, 38, 39, 40, 41, 42, 43, 44, 45, 46, 47, 48, 49] rfl (by decide +kernel)
set_option maxRecDepth 20000 in
theorem gX10_leaves_X10_areCells : GoodIn wsX10_leaves (wsV RX10 174 RX10 yX10_areCells wsX10_areCells) := goodIn_app (goodIn_of _ (by decide +kernel)) ggX10_leaves_X10_areCells
set_option maxRecDepth 20000 in
theorem ggX10_leaves_X10_hedgeAt : GoodIn wsX10_leaves wsX10_hedgeAt := goodIn_r _ [17, 18, 19, 20, 21, 22, 23, 24] rfl (by decide +kernel)
set_option maxRecDepth 20000 in
theorem gX10_leaves_X10_hedgeAt : GoodIn wsX10_leaves (va_wsS RX10 77 yX10_hedgeAt wsX10_hedgeAt) := goodIn_app (goodIn_of _ (by decide +kernel)) ggX10_leaves_X10_hedgeAt
set_option maxRecDepth 20000 in
theorem ggX10_leaves_X10_throwing : GoodIn wsX10_leaves wsX10_throwing := goodIn_r _ [28, 7, 29, 30, 31, 32, 33, 34, 35, 36, 37, 38, 39, 40, 41, 42, 43, 44, 45, 46, 47, 48, 49] rfl (by decide +kernel)
