set_option maxRecDepth 20000 in
theorem gX10_number_X10_here : GoodIn wsX10_number (wsV RX10 208 RX10 yX10_here wsX10_here) := goodIn_app (goodIn_of _ (by decide +kernel)) ggX10_number_X10_here
set_option maxRecDepth 20000 in
theorem ggX10_number_X10_in : GoodIn wsX10_number wsX10_in := goodIn_r _ [18] rfl (by decide +kernel)
set_option maxRecDepth 20000 in
theorem gX10_number_X10_in : GoodIn wsX10_number (va_wsS RX10 59 yX10_in wsX10_in) := goodIn_app (goodIn_of _ (by decide +kernel)) ggX10_number_X10_in
set_option maxRecDepth 20000 in
theorem ggX10_cells_X10_number : GoodIn wsX10_cells wsX10_number := goodIn_ca (goodIn_r _ [6, 7, 8, 9, 10, 11, 12, 5, 13, 14, 15, 16, 17, 18, 19, 20, 21, 22, 23, 24, 25, 26, 27, 28, 29, 30, 31, 32, 33, 34, 35, 36, 37, 38, 39, 40, 41, 42, 43, 44, 45, 46, 47, 48] rfl (by decide +kernel)) (goodIn_sub (fun _ h => List.mem_cons_of_mem _ (List.mem_append_right _ h)) (by decide +kernel))
set_option maxRecDepth 20000 in
theorem gX10_cells_X10_number : GoodIn wsX10_cells (wsV RX10 222 RX10 yX10_number wsX10_number) := goodIn_app (goodIn_of _ (by decide +kernel)) ggX10_cells_X10_number
set_option maxRecDepth 20000 in
theorem ggX10_cells_X10_here : GoodIn wsX10_cells wsX10_here := goodIn_ca (goodIn_r _ [17, 18, 19, 20, 28, 29, 30, 31, 32, 33, 34, 35, 36, 37, 38, 39, 40, 41, 42, 43, 44, 45, 46, 47, 48] rfl (by decide +kernel)) (goodIn_sub (fun _ h => List.mem_cons_of_mem _ (List.mem_append_right _ h)) (by decide +kernel))
set_option maxRecDepth 20000 in
theorem gX10_cells_X10_here : GoodIn wsX10_cells (wsV RX10 208 RX10 yX10_here wsX10_here) := goodIn_app (goodIn_of _ (by decide +kernel)) ggX10_cells_X10_here
set_option maxRecDepth 20000 in
theorem ggX10_cells_X10_expects : GoodIn wsX10_cells wsX10_expects := goodIn_r _ [27, 7, 18, 28, 29, 30, 31, 32, 33, 34, 35, 36, 37, 38, 39, 40, 41, 42, 43, 44, 45, 46, 47, 48] rfl (by decide +kernel)
set_option maxRecDepth 20000 in
theorem gX10_cells_X10_expects : GoodIn wsX10_cells (wsV RX10 215 RX10 yX10_expects wsX10_expects) := goodIn_app (goodIn_of _ (by decide +kernel)) ggX10_cells_X10_expects
set_option maxRecDepth 20000 in
theorem ggX10_readOrder_X10_here : GoodIn wsX10_readOrder wsX10_here := goodIn_ca (goodIn_r _ [8, 3, 9, 10, 36, 37, 38, 39, 40, 41, 42, 43, 44, 45, 46, 47, 48, 49, 50, 51, 52, 53, 54, 55, 56] rfl (by decide +kernel)) (goodIn_sub (fun _ h => List.mem_cons_of_mem _ (List.mem_append_right _ h)) (by decide +kernel))
set_option maxRecDepth 20000 in
theorem gX10_readOrder_X10_here : GoodIn wsX10_readOrder (wsV RX10 208 RX10 yX10_here wsX10_here) := goodIn_app (goodIn_of _ (by decide +kernel)) ggX10_readOrder_X10_here
set_option maxRecDepth 20000 in
theorem ggX10_readOrder_X10_expects : GoodIn wsX10_readOrder wsX10_expects := goodIn_r _ [14, 15, 3, 36, 37, 38, 39, 40, 41, 42, 43, 44, 45, 46, 47, 48, 49, 50, 51, 52, 53, 54, 55, 56] rfl (by decide +kernel)
set_option maxRecDepth 20000 in
theorem gX10_readOrder_X10_expects : GoodIn wsX10_readOrder (wsV RX10 215 RX10 yX10_expects wsX10_expects) := goodIn_app (goodIn_of _ (by decide +kernel)) ggX10_readOrder_X10_expects
set_option maxRecDepth 20000 in
theorem ggX10_readOrder_X10_cells : GoodIn wsX10_readOrder wsX10_cells := goodIn_ca (goodIn_r _ [19, 2, 20, 21, 22, 7, 23, 15, 24, 25, 26, 27, 28, 29, 4, 5, 6, 8, 3, 9, 10, 30, 31, 32, 11, 12, 13, 14, 36, 37, 38, 39, 40, 41, 42, 43, 44, 45, 46, 47, 48, 49, 50, 51, 52, 53, 54, 55, 56] rfl (by decide +kernel)) (goodIn_sub (fun _ h => List.mem_cons_of_mem _ (List.mem_append_right _ h)) (by decide +kernel))
set_option maxRecDepth 20000 in
theorem gX10_readOrder_X10_cells : GoodIn wsX10_readOrder (wsV RX10 228 RX10 yX10_cells wsX10_cells) := goodIn_app (goodIn_of _ (by decide +kernel)) ggX10_readOrder_X10_cells
set_option maxRecDepth 20000 in
theorem ggX10_readOrder_X10_digit : GoodIn wsX10_readOrder wsX10_digit := goodIn_ca (goodIn_r _ [29, 24, 25, 15, 4, 5, 6, 7, 8, 3, 9, 10, 30, 31, 32, 11, 12, 13, 14, 36, 37, 38, 39, 40, 41, 42, 43, 44, 45, 46, 47, 48, 49, 50, 51, 52, 53, 54, 55, 56] rfl (by decide +kernel)) (goodIn_sub (fun _ h => List.mem_cons_of_mem _ (List.mem_append_right _ h)) (by decide +kernel))
set_option maxRecDepth 20000 in
theorem gX10_readOrder_X10_digit : GoodIn wsX10_readOrder (wsV RX10 219 RX10 yX10_digit wsX10_digit) := goodIn_app (goodIn_of _ (by decide +kernel)) ggX10_readOrder_X10_digit
set_option maxRecDepth 20000 in
theorem ggX10_readOrder_X10_number : GoodIn wsX10_readOrder wsX10_number := goodIn_ca (goodIn_r _ [23, 15, 24, 25, 26, 27, 28, 7, 29, 4, 5, 6, 8, 3, 9, 10, 30, 31, 32, 11, 12, 13, 14, 36, 37, 38, 39, 40, 41, 42, 43, 44, 45, 46, 47, 48, 49, 50, 51, 52, 53, 54, 55, 56] rfl (by decide +kernel)) (goodIn_sub (fun _ h => List.mem_cons_of_mem _ (List.mem_append_right _ h)) (by decide +kernel))
set_option maxRecDepth 20000 in
theorem gX10_readOrder_X10_number : GoodIn wsX10_readOrder (wsV RX10 222 RX10 yX10_number wsX10_number) := goodIn_app (goodIn_of _ (by decide +kernel)) ggX10_readOrder_X10_number
set_option maxRecDepth 20000 in
theorem ggX10_readOrder_X10_directionOf : GoodIn wsX10_readOrder wsX10_directionOf := goodIn_r _ [35] rfl (by decide +kernel)
set_option maxRecDepth 20000 in
theorem gX10_readOrder_X10_directionOf : GoodIn wsX10_readOrder (va_wsS RX10 232 yX10_directionOf wsX10_directionOf) := goodIn_app (goodIn_of _ (by decide +kernel)) ggX10_readOrder_X10_directionOf
set_option maxRecDepth 20000 in
theorem ggX10_does_X10_hedgeIt : GoodIn wsX10_does wsX10_hedgeIt := goodIn_ca (goodIn_r _ [6, 7, 8, 9, 10, 5, 11, 12, 13, 14, 15, 16, 17, 18, 19, 20, 21, 22, 23, 24, 25, 26, 27, 28, 29, 30, 31, 32, 33, 34, 35, 36, 37, 38, 39, 40, 41, 131, 132, 133, 134, 135, 136, 137, 138, 139, 140, 141, 142, 143, 144, 145, 146, 147, 148, 149, 150, 151] rfl (by decide +kernel)) (goodIn_sub (fun _ h => List.mem_cons_of_mem _ (List.mem_append_right _ h)) (by decide +kernel))
set_option maxRecDepth 20000 in
theorem gX10_does_X10_hedgeIt : GoodIn wsX10_does (wsV RX10 103 RX10 yX10_hedgeIt wsX10_hedgeIt) := goodIn_app (goodIn_of _ (by decide +kernel)) ggX10_does_X10_hedgeIt
set_option maxRecDepth 20000 in
theorem ggX10_does_X10_summerIt : GoodIn wsX10_does wsX10_summerIt := goodIn_ca (goodIn_r _ [45, 8, 39, 40, 30, 41, 46, 47, 48, 5, 49, 50, 51, 52, 53, 131, 132, 133, 134, 135, 136, 137, 138, 139, 140, 141, 142, 143, 144, 145, 146, 147, 148, 149, 150, 151] rfl (by decide +kernel)) (goodIn_sub (fun _ h => List.mem_cons_of_mem _ (List.mem_append_right _ h)) (by decide +kernel))
set_option maxRecDepth 20000 in
theorem gX10_does_X10_summerIt : GoodIn wsX10_does (wsV RX10 114 RX10 yX10_summerIt wsX10_summerIt) := goodIn_app (goodIn_of _ (by decide +kernel)) ggX10_does_X10_summerIt
set_option maxRecDepth 20000 in
theorem ggX10_does_X10_trimIt : GoodIn wsX10_does wsX10_trimIt := goodIn_ca (goodIn_r _ [57, 8, 58, 59, 60, 5, 61, 9, 10, 11, 12, 13, 14, 15, 16, 17, 18, 19, 20, 21, 22, 23, 24, 25, 26, 27, 28, 29, 30, 31, 32, 33, 34, 35, 36, 37, 38, 39, 40, 41, 62, 63, 64, 131, 132, 133, 134, 135, 136, 137, 138, 139, 140, 141, 142, 143, 144, 145, 146, 147, 148, 149, 150, 151] rfl (by decide +kernel)) (goodIn_sub (fun _ h => List.mem_cons_of_mem _ (List.mem_append_right _ h)) (by decide +kernel))
set_option maxRecDepth 20000 in
theorem gX10_does_X10_trimIt : GoodIn wsX10_does (wsV RX10 123 RX10 yX10_trimIt wsX10_trimIt) := goodIn_app (goodIn_of _ (by decide +kernel)) ggX10_does_X10_trimIt
set_option maxRecDepth 20000 in
theorem ggX10_does_X10_minotaurIt : GoodIn wsX10_does wsX10_minotaurIt := goodIn_ca (goodIn_r _ [68, 69, 35, 8, 9, 10, 5, 11, 12, 13, 14, 15, 16, 17, 18, 19, 20, 21, 22, 23, 70, 71, 72, 73, 74, 75, 76, 131, 132, 133, 134, 135, 136, 137, 138, 139, 140, 141, 142, 143, 144, 145, 146, 147, 148, 149, 150, 151] rfl (by decide +kernel)) (goodIn_sub (fun _ h => List.mem_cons_of_mem _ (List.mem_append_right _ h)) (by decide +kernel))
