set_option maxRecDepth 20000 in
theorem ggX10_owed_X10_isGardener : GoodIn wsX10_owed wsX10_isGardener := goodIn_ca (goodIn_r _ [6, 7, 8, 9, 5, 10, 34, 35, 36, 37, 38, 39, 40, 41, 42, 43, 44, 45, 46, 47, 48, 49, 50, 51, 52, 53, 54] rfl (by decide +kernel)) (goodIn_sub (fun _ h => List.mem_cons_of_mem _ (List.mem_append_right _ h)) (by decide +kernel))
set_option maxRecDepth 20000 in
theorem gX10_owed_X10_isGardener : GoodIn wsX10_owed (wsV RX10 117 RX10 yX10_isGardener wsX10_isGardener) := goodIn_app (goodIn_of _ (by decide +kernel)) ggX10_owed_X10_isGardener
set_option maxRecDepth 20000 in
theorem ggX10_owed_X10_owedBy : GoodIn wsX10_owed wsX10_owedBy := goodIn_ca (goodIn_r _ [14, 7, 15, 16, 5, 17, 18, 19, 20, 21, 22, 23, 24, 25, 26, 27, 28, 29, 34, 35, 36, 37, 38, 39, 40, 41, 42, 43, 44, 45, 46, 47, 48, 49, 50, 51, 52, 53, 54] rfl (by decide +kernel)) (goodIn_sub (fun _ h => List.mem_cons_of_mem _ (List.mem_append_right _ h)) (by decide +kernel))
set_option maxRecDepth 20000 in
theorem gX10_owed_X10_owedBy : GoodIn wsX10_owed (wsV RX10 189 RX10 yX10_owedBy wsX10_owedBy) := goodIn_app (goodIn_of _ (by decide +kernel)) ggX10_owed_X10_owedBy
set_option maxRecDepth 20000 in
theorem ggX10_owed_X10_throwing : GoodIn wsX10_owed wsX10_throwing := goodIn_r _ [33, 1, 34, 35, 36, 37, 38, 39, 40, 41, 42, 43, 44, 45, 46, 47, 48, 49, 50, 51, 52, 53, 54] rfl (by decide +kernel)
set_option maxRecDepth 20000 in
theorem gX10_owed_X10_throwing : GoodIn wsX10_owed (wsV RX10 50 RX10 yX10_throwing wsX10_throwing) := goodIn_app (goodIn_of _ (by decide +kernel)) ggX10_owed_X10_throwing
set_option maxRecDepth 20000 in
theorem ggX10_measured_X10_visitorAt : GoodIn wsX10_measured wsX10_visitorAt := goodIn_r _ [5] rfl (by decide +kernel)
set_option maxRecDepth 20000 in
theorem gX10_measured_X10_visitorAt : GoodIn wsX10_measured (va_wsS RX10 126 yX10_visitorAt wsX10_visitorAt) := goodIn_app (goodIn_of _ (by decide +kernel)) ggX10_measured_X10_visitorAt
set_option maxRecDepth 20000 in
theorem ggX10_measured_X10_lostOf : GoodIn wsX10_measured wsX10_lostOf := goodIn_ca (goodIn_r _ [9, 1, 10, 11, 12, 13, 2, 3, 4, 5, 14, 15, 16, 17, 18, 19, 20, 21, 22, 23, 24, 25, 26, 27, 28, 29, 30, 31, 32, 33, 34] rfl (by decide +kernel)) (goodIn_sub (fun _ h => List.mem_cons_of_mem _ (List.mem_append_right _ h)) (by decide +kernel))
set_option maxRecDepth 20000 in
theorem gX10_measured_X10_lostOf : GoodIn wsX10_measured (wsV RX10 162 RX10 yX10_lostOf wsX10_lostOf) := goodIn_app (goodIn_of _ (by decide +kernel)) ggX10_measured_X10_lostOf
set_option maxRecDepth 20000 in
theorem ggX10_ranked_X10_in : GoodIn wsX10_ranked wsX10_in := goodIn_r _ [7] rfl (by decide +kernel)
set_option maxRecDepth 20000 in
theorem gX10_ranked_X10_in : GoodIn wsX10_ranked (va_wsS RX10 59 yX10_in wsX10_in) := goodIn_app (goodIn_of _ (by decide +kernel)) ggX10_ranked_X10_in
set_option maxRecDepth 20000 in
theorem ggX10_ranked_X10_throwing : GoodIn wsX10_ranked wsX10_throwing := goodIn_r _ [11, 1, 27, 28, 29, 30, 31, 32, 33, 34, 35, 36, 37, 38, 39, 40, 41, 42, 43, 44, 45, 46, 47] rfl (by decide +kernel)
set_option maxRecDepth 20000 in
theorem gX10_ranked_X10_throwing : GoodIn wsX10_ranked (wsV RX10 50 RX10 yX10_throwing wsX10_throwing) := goodIn_app (goodIn_of _ (by decide +kernel)) ggX10_ranked_X10_throwing
set_option maxRecDepth 20000 in
theorem ggX10_ranked_X10_measured : GoodIn wsX10_ranked wsX10_measured := goodIn_ca (goodIn_r _ [15, 3, 16, 17, 6, 18, 19, 20, 21, 22, 23, 24, 25, 26, 27, 28, 29, 30, 31, 32, 33, 34, 35, 36, 37, 38, 39, 40, 41, 42, 43, 44, 45, 46, 47] rfl (by decide +kernel)) (goodIn_sub (fun _ h => List.mem_cons_of_mem _ (List.mem_append_right _ h)) (by decide +kernel))
set_option maxRecDepth 20000 in
theorem gX10_ranked_X10_measured : GoodIn wsX10_ranked (wsV RX10 192 RX10 yX10_measured wsX10_measured) := goodIn_app (goodIn_of _ (by decide +kernel)) ggX10_ranked_X10_measured
set_option maxRecDepth 20000 in
theorem ggX10_richest_X10_gardenerAt : GoodIn wsX10_richest wsX10_gardenerAt := goodIn_r _ [6] rfl (by decide +kernel)
set_option maxRecDepth 20000 in
theorem gX10_richest_X10_gardenerAt : GoodIn wsX10_richest (va_wsS RX10 120 yX10_gardenerAt wsX10_gardenerAt) := goodIn_app (goodIn_of _ (by decide +kernel)) ggX10_richest_X10_gardenerAt
set_option maxRecDepth 20000 in
theorem ggX10_richest_X10_owedBy : GoodIn wsX10_richest wsX10_owedBy := goodIn_ca (goodIn_r _ [10, 2, 11, 12, 5, 13, 14, 15, 16, 17, 18, 19, 20, 21, 22, 23, 24, 25, 30, 31, 32, 33, 34, 35, 36, 37, 38, 39, 40, 41, 42, 43, 44, 45, 46, 47, 48, 49, 50] rfl (by decide +kernel)) (goodIn_sub (fun _ h => List.mem_cons_of_mem _ (List.mem_append_right _ h)) (by decide +kernel))
set_option maxRecDepth 20000 in
theorem gX10_richest_X10_owedBy : GoodIn wsX10_richest (wsV RX10 189 RX10 yX10_owedBy wsX10_owedBy) := goodIn_app (goodIn_of _ (by decide +kernel)) ggX10_richest_X10_owedBy
set_option maxRecDepth 20000 in
theorem ggX10_richest_X10_throwing : GoodIn wsX10_richest wsX10_throwing := goodIn_r _ [29, 1, 30, 31, 32, 33, 34, 35, 36, 37, 38, 39, 40, 41, 42, 43, 44, 45, 46, 47, 48, 49, 50] rfl (by decide +kernel)
set_option maxRecDepth 20000 in
theorem gX10_richest_X10_throwing : GoodIn wsX10_richest (wsV RX10 50 RX10 yX10_throwing wsX10_throwing) := goodIn_app (goodIn_of _ (by decide +kernel)) ggX10_richest_X10_throwing
set_option maxRecDepth 20000 in
theorem ggX10_append_X10_throwing : GoodIn wsX10_append wsX10_throwing := goodIn_r _ [8, 1, 9, 10, 11, 12, 13, 14, 15, 16, 17, 18, 19, 20, 21, 22, 23, 24, 25, 26, 27, 28, 29] rfl (by decide +kernel)
set_option maxRecDepth 20000 in
theorem gX10_append_X10_throwing : GoodIn wsX10_append (wsV RX10 50 RX10 yX10_throwing wsX10_throwing) := goodIn_app (goodIn_of _ (by decide +kernel)) ggX10_append_X10_throwing
set_option maxRecDepth 20000 in
theorem ggX10_digit_X10_here : GoodIn wsX10_digit wsX10_here := goodIn_ca (goodIn_r _ [8, 9, 10, 11, 19, 20, 21, 22, 23, 24, 25, 26, 27, 28, 29, 30, 31, 32, 33, 34, 35, 36, 37, 38, 39] rfl (by decide +kernel)) (goodIn_sub (fun _ h => List.mem_cons_of_mem _ (List.mem_append_right _ h)) (by decide +kernel))
set_option maxRecDepth 20000 in
theorem gX10_digit_X10_here : GoodIn wsX10_digit (wsV RX10 208 RX10 yX10_here wsX10_here) := goodIn_app (goodIn_of _ (by decide +kernel)) ggX10_digit_X10_here
set_option maxRecDepth 20000 in
theorem ggX10_digit_X10_in : GoodIn wsX10_digit wsX10_in := goodIn_r _ [14] rfl (by decide +kernel)
set_option maxRecDepth 20000 in
theorem gX10_digit_X10_in : GoodIn wsX10_digit (va_wsS RX10 59 yX10_in wsX10_in) := goodIn_app (goodIn_of _ (by decide +kernel)) ggX10_digit_X10_in
set_option maxRecDepth 20000 in
theorem ggX10_digit_X10_expects : GoodIn wsX10_digit wsX10_expects := goodIn_r _ [18, 3, 9, 19, 20, 21, 22, 23, 24, 25, 26, 27, 28, 29, 30, 31, 32, 33, 34, 35, 36, 37, 38, 39] rfl (by decide +kernel)
set_option maxRecDepth 20000 in
theorem gX10_digit_X10_expects : GoodIn wsX10_digit (wsV RX10 215 RX10 yX10_expects wsX10_expects) := goodIn_app (goodIn_of _ (by decide +kernel)) ggX10_digit_X10_expects
set_option maxRecDepth 20000 in
theorem ggX10_number_X10_digit : GoodIn wsX10_number wsX10_digit := goodIn_ca (goodIn_r _ [8, 2, 3, 1, 9, 10, 11, 7, 12, 13, 14, 15, 16, 17, 18, 19, 20, 21, 22, 23, 24, 25, 26, 27, 28, 29, 30, 31, 32, 33, 34, 35, 36, 37, 38, 39, 40, 41, 42, 43] rfl (by decide +kernel)) (goodIn_sub (fun _ h => List.mem_cons_of_mem _ (List.mem_append_right _ h)) (by decide +kernel))
set_option maxRecDepth 20000 in
theorem gX10_number_X10_digit : GoodIn wsX10_number (wsV RX10 219 RX10 yX10_digit wsX10_digit) := goodIn_app (goodIn_of _ (by decide +kernel)) ggX10_number_X10_digit
set_option maxRecDepth 20000 in
theorem ggX10_number_X10_here : GoodIn wsX10_number wsX10_here := goodIn_ca (goodIn_r _ [12, 13, 14, 15, 23, 24, 25, 26, 27, 28, 29, 30, 31, 32, 33, 34, 35, 36, 37, 38, 39, 40, 41, 42, 43] rfl (by decide +kernel)) (goodIn_sub (fun _ h => List.mem_cons_of_mem _ (List.mem_append_right _ h)) (by decide +kernel))
