set_option maxRecDepth 20000 in
theorem ggX10_commands_X10_changed : GoodIn wsX10_commands wsX10_changed := goodIn_ca (goodIn_r _ [179, 7, 180, 181, 9, 182, 183, 184, 185, 186, 187, 188, 189, 190, 191, 192, 193, 194, 195, 196, 197, 198, 199, 200, 201, 202] rfl (by decide +kernel)) (goodIn_sub (fun _ h => List.mem_cons_of_mem _ (List.mem_append_right _ h)) (by decide +kernel))
set_option maxRecDepth 20000 in
theorem gX10_commands_X10_changed : GoodIn wsX10_commands (wsV RX10 107 RX10 yX10_changed wsX10_changed) := goodIn_app (goodIn_of _ (by decide +kernel)) ggX10_commands_X10_changed
set_option maxRecDepth 20000 in
theorem ggX10_reason_X10_in : GoodIn wsX10_reason wsX10_in := goodIn_r _ [9] rfl (by decide +kernel)
set_option maxRecDepth 20000 in
theorem gX10_reason_X10_in : GoodIn wsX10_reason (va_wsS RX10 59 yX10_in wsX10_in) := goodIn_app (goodIn_of _ (by decide +kernel)) ggX10_reason_X10_in
set_option maxRecDepth 20000 in
theorem ggX10_reason_X10_throwing : GoodIn wsX10_reason wsX10_throwing := goodIn_r _ [13, 1, 14, 15, 16, 17, 18, 19, 20, 21, 22, 23, 24, 25, 26, 27, 28, 29, 30, 31, 32, 33, 34] rfl (by decide +kernel)
set_option maxRecDepth 20000 in
theorem gX10_reason_X10_throwing : GoodIn wsX10_reason (wsV RX10 50 RX10 yX10_throwing wsX10_throwing) := goodIn_app (goodIn_of _ (by decide +kernel)) ggX10_reason_X10_throwing
set_option maxRecDepth 20000 in
theorem ggX10_writesNumber_X10_sign : GoodIn wsX10_writesNumber wsX10_sign := goodIn_ca (goodIn_r _ [5, 6, 7, 8, 9, 10, 11, 12, 13, 14, 15, 16, 17, 18, 19, 20, 21, 22, 23, 24, 25, 26, 27, 28] rfl (by decide +kernel)) (goodIn_sub (fun _ h => List.mem_cons_of_mem _ (List.mem_append_right _ h)) (by decide +kernel))
set_option maxRecDepth 20000 in
theorem gX10_writesNumber_X10_sign : GoodIn wsX10_writesNumber (wsV RX10 246 RX10 yX10_sign wsX10_sign) := goodIn_app (goodIn_of _ (by decide +kernel)) ggX10_writesNumber_X10_sign
set_option maxRecDepth 20000 in
theorem ggX10_line_X10_isVisitor : GoodIn wsX10_line wsX10_isVisitor := goodIn_ca (goodIn_r _ [8, 3, 9, 10, 7, 11, 28, 29, 30, 31, 32, 33, 34, 35, 36, 37, 38, 39, 40, 41, 42, 43, 44, 45, 46, 47, 48] rfl (by decide +kernel)) (goodIn_sub (fun _ h => List.mem_cons_of_mem _ (List.mem_append_left _ (List.mem_append_right _ h))) (by decide +kernel))
set_option maxRecDepth 20000 in
theorem gX10_line_X10_isVisitor : GoodIn wsX10_line (wsV RX10 154 RX10 yX10_isVisitor wsX10_isVisitor) := goodIn_app (goodIn_of _ (by decide +kernel)) ggX10_line_X10_isVisitor
set_option maxRecDepth 20000 in
theorem ggX10_line_X10_throwing : GoodIn wsX10_line wsX10_throwing := goodIn_r _ [15, 1, 28, 29, 30, 31, 32, 33, 34, 35, 36, 37, 38, 39, 40, 41, 42, 43, 44, 45, 46, 47, 48] rfl (by decide +kernel)
set_option maxRecDepth 20000 in
theorem gX10_line_X10_throwing : GoodIn wsX10_line (wsV RX10 50 RX10 yX10_throwing wsX10_throwing) := goodIn_app (goodIn_of _ (by decide +kernel)) ggX10_line_X10_throwing
set_option maxRecDepth 20000 in
theorem ggX10_line_X10_visitorAt : GoodIn wsX10_line wsX10_visitorAt := goodIn_r _ [18] rfl (by decide +kernel)
set_option maxRecDepth 20000 in
theorem gX10_line_X10_visitorAt : GoodIn wsX10_line (va_wsS RX10 126 yX10_visitorAt wsX10_visitorAt) := goodIn_app (goodIn_of _ (by decide +kernel)) ggX10_line_X10_visitorAt
set_option maxRecDepth 20000 in
theorem ggX10_line_X10_sign : GoodIn wsX10_line wsX10_sign := goodIn_ca (goodIn_r _ [22, 23, 2, 28, 29, 30, 31, 32, 33, 34, 35, 36, 37, 38, 39, 40, 41, 42, 43, 44, 45, 46, 47, 48] rfl (by decide +kernel)) (goodIn_sub (fun _ h => List.mem_cons_of_mem _ (List.mem_append_left _ (List.mem_append_right _ h))) (by decide +kernel))
set_option maxRecDepth 20000 in
theorem gX10_line_X10_sign : GoodIn wsX10_line (wsV RX10 246 RX10 yX10_sign wsX10_sign) := goodIn_app (goodIn_of _ (by decide +kernel)) ggX10_line_X10_sign
set_option maxRecDepth 20000 in
theorem ggX10_line_X10_writesNumber : GoodIn wsX10_line wsX10_writesNumber := goodIn_ca (goodIn_ca (goodIn_r _ [27, 19, 20, 21, 7, 22, 23, 2, 28, 29, 30, 31, 32, 33, 34, 35, 36, 37, 38, 39, 40, 41, 42, 43, 44, 45, 46, 47, 48] rfl (by decide +kernel)) (goodIn_sub (fun _ h => List.mem_cons_of_mem _ (List.mem_append_right _ h)) (by decide +kernel))) (goodIn_sub (fun _ h => List.mem_cons_of_mem _ (List.mem_append_left _ (List.mem_append_right _ h))) (by decide +kernel))
set_option maxRecDepth 20000 in
theorem gX10_line_X10_writesNumber : GoodIn wsX10_line (wsV RX10 249 RX10 yX10_writesNumber wsX10_writesNumber) := goodIn_app (goodIn_of _ (by decide +kernel)) ggX10_line_X10_writesNumber
set_option maxRecDepth 20000 in
theorem ggX10_visitorsIn_X10_visitorAt : GoodIn wsX10_visitorsIn wsX10_visitorAt := goodIn_r _ [5] rfl (by decide +kernel)
set_option maxRecDepth 20000 in
theorem gX10_visitorsIn_X10_visitorAt : GoodIn wsX10_visitorsIn (va_wsS RX10 126 yX10_visitorAt wsX10_visitorAt) := goodIn_app (goodIn_of _ (by decide +kernel)) ggX10_visitorsIn_X10_visitorAt
set_option maxRecDepth 20000 in
theorem ggX10_row_X10_in : GoodIn wsX10_row wsX10_in := goodIn_r _ [8] rfl (by decide +kernel)
set_option maxRecDepth 20000 in
theorem gX10_row_X10_in : GoodIn wsX10_row (va_wsS RX10 59 yX10_in wsX10_in) := goodIn_app (goodIn_of _ (by decide +kernel)) ggX10_row_X10_in
set_option maxRecDepth 20000 in
theorem ggX10_row_X10_throwing : GoodIn wsX10_row wsX10_throwing := goodIn_r _ [12, 1, 39, 40, 41, 42, 43, 44, 45, 46, 47, 48, 49, 50, 51, 52, 53, 54, 55, 56, 57, 58, 59] rfl (by decide +kernel)
set_option maxRecDepth 20000 in
theorem gX10_row_X10_throwing : GoodIn wsX10_row (wsV RX10 50 RX10 yX10_throwing wsX10_throwing) := goodIn_app (goodIn_of _ (by decide +kernel)) ggX10_row_X10_throwing
set_option maxRecDepth 20000 in
theorem ggX10_row_X10_hedgeAt : GoodIn wsX10_row wsX10_hedgeAt := goodIn_r _ [15, 16, 17, 18, 19, 20, 21, 22] rfl (by decide +kernel)
set_option maxRecDepth 20000 in
theorem gX10_row_X10_hedgeAt : GoodIn wsX10_row (va_wsS RX10 77 yX10_hedgeAt wsX10_hedgeAt) := goodIn_app (goodIn_of _ (by decide +kernel)) ggX10_row_X10_hedgeAt
set_option maxRecDepth 20000 in
theorem ggX10_row_X10_isGapAt : GoodIn wsX10_row wsX10_isGapAt := goodIn_ca (goodIn_r _ [26, 4, 39, 40, 41, 42, 43, 44, 45, 46, 47, 48, 49, 50, 51, 52, 53, 54, 55, 56, 57, 58, 59] rfl (by decide +kernel)) (goodIn_sub (fun _ h => List.mem_cons_of_mem _ (List.mem_append_right _ h)) (by decide +kernel))
set_option maxRecDepth 20000 in
theorem gX10_row_X10_isGapAt : GoodIn wsX10_row (wsV RX10 80 RX10 yX10_isGapAt wsX10_isGapAt) := goodIn_app (goodIn_of _ (by decide +kernel)) ggX10_row_X10_isGapAt
set_option maxRecDepth 20000 in
theorem ggX10_row_X10_sign : GoodIn wsX10_row wsX10_sign := goodIn_ca (goodIn_r _ [30, 31, 3, 39, 40, 41, 42, 43, 44, 45, 46, 47, 48, 49, 50, 51, 52, 53, 54, 55, 56, 57, 58, 59] rfl (by decide +kernel)) (goodIn_sub (fun _ h => List.mem_cons_of_mem _ (List.mem_append_right _ h)) (by decide +kernel))
set_option maxRecDepth 20000 in
theorem gX10_row_X10_sign : GoodIn wsX10_row (wsV RX10 246 RX10 yX10_sign wsX10_sign) := goodIn_app (goodIn_of _ (by decide +kernel)) ggX10_row_X10_sign
set_option maxRecDepth 20000 in
theorem ggX10_row_X10_visitorsIn : GoodIn wsX10_row wsX10_visitorsIn := goodIn_ca (goodIn_r _ [35, 4, 36, 37, 7, 38, 39, 40, 41, 42, 43, 44, 45, 46, 47, 48, 49, 50, 51, 52, 53, 54, 55, 56, 57, 58, 59] rfl (by decide +kernel)) (goodIn_sub (fun _ h => List.mem_cons_of_mem _ (List.mem_append_right _ h)) (by decide +kernel))
set_option maxRecDepth 20000 in
theorem gX10_row_X10_visitorsIn : GoodIn wsX10_row (wsV RX10 252 RX10 yX10_visitorsIn wsX10_visitorsIn) := goodIn_app (goodIn_of _ (by decide +kernel)) ggX10_row_X10_visitorsIn
set_option maxRecDepth 20000 in
theorem ggX10_character_X10_in : GoodIn wsX10_character wsX10_in := goodIn_r _ [7] rfl (by decide +kernel)
set_option maxRecDepth 20000 in
theorem gX10_character_X10_in : GoodIn wsX10_character (va_wsS RX10 59 yX10_in wsX10_in) := goodIn_app (goodIn_of _ (by decide +kernel)) ggX10_character_X10_in
