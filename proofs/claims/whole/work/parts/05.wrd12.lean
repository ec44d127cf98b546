set_option maxRecDepth 20000 in
theorem gX10_does_X10_minotaurIt : GoodIn wsX10_does (wsV RX10 134 RX10 yX10_minotaurIt wsX10_minotaurIt) := goodIn_app (goodIn_of _ (by decide +kernel)) ggX10_does_X10_minotaurIt
set_option maxRecDepth 20000 in
theorem ggX10_does_X10_gardenerIt : GoodIn wsX10_does wsX10_gardenerIt := goodIn_ca (goodIn_r _ [80, 81, 8, 9, 10, 5, 11, 12, 13, 14, 15, 16, 17, 18, 19, 20, 21, 22, 23, 62, 63, 64, 131, 132, 133, 134, 135, 136, 137, 138, 139, 140, 141, 142, 143, 144, 145, 146, 147, 148, 149, 150, 151] (by decide +kernel) (by decide +kernel)) (goodIn_sub (fun _ h => List.mem_cons_of_mem _ (List.mem_append_right _ h)) (by decide +kernel))
set_option maxRecDepth 20000 in
theorem gX10_does_X10_gardenerIt : GoodIn wsX10_does (wsV RX10 139 RX10 yX10_gardenerIt wsX10_gardenerIt) := goodIn_app (goodIn_of _ (by decide +kernel)) ggX10_does_X10_gardenerIt
set_option maxRecDepth 20000 in
theorem ggX10_does_X10_visitorIt : GoodIn wsX10_does wsX10_visitorIt := goodIn_ca (goodIn_r _ [85, 81, 8, 9, 10, 5, 11, 12, 13, 14, 15, 16, 17, 18, 19, 20, 21, 22, 23, 86, 87, 88, 89, 90, 91, 92, 93, 94, 39, 40, 30, 41, 95, 96, 97, 98, 36, 37, 38, 28, 29, 31, 50, 51, 52, 53, 99, 100, 101, 102, 103, 104, 105, 74, 75, 76, 131, 132, 133, 134, 135, 136, 137, 138, 139, 140, 141, 142, 143, 144, 145, 146, 147, 148, 149, 150, 151] (by decide +kernel) (by decide +kernel)) (goodIn_sub (fun _ h => List.mem_cons_of_mem _ (List.mem_append_right _ h)) (by decide +kernel))
set_option maxRecDepth 20000 in
theorem gX10_does_X10_visitorIt : GoodIn wsX10_does (wsV RX10 151 RX10 yX10_visitorIt wsX10_visitorIt) := goodIn_app (goodIn_of _ (by decide +kernel)) ggX10_does_X10_visitorIt
set_option maxRecDepth 20000 in
theorem ggX10_does_X10_bondIt : GoodIn wsX10_does wsX10_bondIt := goodIn_ca (goodIn_r _ [109, 8, 110, 58, 59, 60, 5, 61, 9, 10, 11, 12, 13, 14, 15, 16, 17, 18, 19, 20, 21, 22, 23, 111, 112, 113, 114, 74, 75, 76, 70, 71, 72, 73, 62, 63, 64, 131, 132, 133, 134, 135, 136, 137, 138, 139, 140, 141, 142, 143, 144, 145, 146, 147, 148, 149, 150, 151] (by decide +kernel) (by decide +kernel)) (goodIn_sub (fun _ h => List.mem_cons_of_mem _ (List.mem_append_right _ h)) (by decide +kernel))
set_option maxRecDepth 20000 in
theorem gX10_does_X10_bondIt : GoodIn wsX10_does (wsV RX10 159 RX10 yX10_bondIt wsX10_bondIt) := goodIn_app (goodIn_of _ (by decide +kernel)) ggX10_does_X10_bondIt
set_option maxRecDepth 20000 in
theorem ggX10_does_X10_walkIt : GoodIn wsX10_does wsX10_walkIt := goodIn_ca (goodIn_r _ [118, 8, 98, 111, 112, 113, 5, 114, 9, 10, 11, 12, 13, 14, 15, 16, 17, 18, 19, 20, 21, 22, 23, 74, 75, 76, 95, 96, 97, 36, 37, 38, 39, 40, 30, 41, 28, 29, 31, 50, 51, 52, 53, 70, 71, 72, 73, 119, 120, 121, 122, 123, 124, 125, 126, 62, 63, 64, 131, 132, 133, 134, 135, 136, 137, 138, 139, 140, 141, 142, 143, 144, 145, 146, 147, 148, 149, 150, 151] (by decide +kernel) (by decide +kernel)) (goodIn_sub (fun _ h => List.mem_cons_of_mem _ (List.mem_append_right _ h)) (by decide +kernel))
set_option maxRecDepth 20000 in
theorem gX10_does_X10_walkIt : GoodIn wsX10_does (wsV RX10 168 RX10 yX10_walkIt wsX10_walkIt) := goodIn_app (goodIn_of _ (by decide +kernel)) ggX10_does_X10_walkIt
set_option maxRecDepth 20000 in
theorem ggX10_does_X10_restIt : GoodIn wsX10_does wsX10_restIt := goodIn_ca (goodIn_r _ [130, 8, 7, 111, 112, 113, 5, 114, 9, 10, 11, 12, 13, 14, 15, 16, 17, 18, 19, 20, 21, 22, 23, 74, 75, 76, 131, 132, 133, 134, 135, 136, 137, 138, 139, 140, 141, 142, 143, 144, 145, 146, 147, 148, 149, 150, 151] (by decide +kernel) (by decide +kernel)) (goodIn_sub (fun _ h => List.mem_cons_of_mem _ (List.mem_append_right _ h)) (by decide +kernel))
set_option maxRecDepth 20000 in
theorem gX10_does_X10_restIt : GoodIn wsX10_does (wsV RX10 171 RX10 yX10_restIt wsX10_restIt) := goodIn_app (goodIn_of _ (by decide +kernel)) ggX10_does_X10_restIt
set_option maxRecDepth 20000 in
theorem ggX10_commands_X10_starts : GoodIn wsX10_commands wsX10_starts := goodIn_ca (goodIn_r _ [15, 7, 9, 8, 182, 183, 184, 185, 186, 187, 188, 189, 190, 191, 192, 193, 194, 195, 196, 197, 198, 199, 200, 201, 202] (by decide +kernel) (by decide +kernel)) (goodIn_sub (fun _ h => List.mem_cons_of_mem _ (List.mem_append_right _ h)) (by decide +kernel))
set_option maxRecDepth 20000 in
theorem gX10_commands_X10_starts : GoodIn wsX10_commands (wsV RX10 100 RX10 yX10_starts wsX10_starts) := goodIn_app (goodIn_of _ (by decide +kernel)) ggX10_commands_X10_starts
set_option maxRecDepth 20000 in
theorem ggX10_commands_X10_readOrder : GoodIn wsX10_commands wsX10_readOrder := goodIn_ca (goodIn_r _ [19, 4, 20, 3, 21, 22, 23, 14, 24, 2, 25, 26, 27, 28, 29, 5, 30, 31, 32, 33, 34, 35, 36, 37, 38, 39, 40, 41, 42, 43, 44, 45, 46, 47, 48, 49, 182, 183, 184, 185, 186, 187, 188, 189, 190, 191, 192, 193, 194, 195, 196, 197, 198, 199, 200, 201, 202] (by decide +kernel) (by decide +kernel)) (goodIn_sub (fun _ h => List.mem_cons_of_mem _ (List.mem_append_right _ h)) (by decide +kernel))
set_option maxRecDepth 20000 in
theorem gX10_commands_X10_readOrder : GoodIn wsX10_commands (wsV RX10 235 RX10 yX10_readOrder wsX10_readOrder) := goodIn_app (goodIn_of _ (by decide +kernel)) ggX10_commands_X10_readOrder
set_option maxRecDepth 20000 in
theorem ggX10_commands_X10_here : GoodIn wsX10_commands wsX10_here := goodIn_ca (goodIn_r _ [24, 3, 2, 25, 182, 183, 184, 185, 186, 187, 188, 189, 190, 191, 192, 193, 194, 195, 196, 197, 198, 199, 200, 201, 202] (by decide +kernel) (by decide +kernel)) (goodIn_sub (fun _ h => List.mem_cons_of_mem _ (List.mem_append_right _ h)) (by decide +kernel))
set_option maxRecDepth 20000 in
theorem gX10_commands_X10_here : GoodIn wsX10_commands (wsV RX10 208 RX10 yX10_here wsX10_here) := goodIn_app (goodIn_of _ (by decide +kernel)) ggX10_commands_X10_here
set_option maxRecDepth 20000 in
theorem ggX10_commands_X10_expects : GoodIn wsX10_commands wsX10_expects := goodIn_r _ [29, 5, 3, 182, 183, 184, 185, 186, 187, 188, 189, 190, 191, 192, 193, 194, 195, 196, 197, 198, 199, 200, 201, 202] (by decide +kernel) (by decide +kernel)
set_option maxRecDepth 20000 in
theorem gX10_commands_X10_expects : GoodIn wsX10_commands (wsV RX10 215 RX10 yX10_expects wsX10_expects) := goodIn_app (goodIn_of _ (by decide +kernel)) ggX10_commands_X10_expects
set_option maxRecDepth 20000 in
theorem ggX10_commands_X10_throwing : GoodIn wsX10_commands wsX10_throwing := goodIn_r _ [53, 7, 182, 183, 184, 185, 186, 187, 188, 189, 190, 191, 192, 193, 194, 195, 196, 197, 198, 199, 200, 201, 202] (by decide +kernel) (by decide +kernel)
set_option maxRecDepth 20000 in
theorem gX10_commands_X10_throwing : GoodIn wsX10_commands (wsV RX10 50 RX10 yX10_throwing wsX10_throwing) := goodIn_app (goodIn_of _ (by decide +kernel)) ggX10_commands_X10_throwing
set_option maxRecDepth 20000 in
theorem ggX10_commands_X10_does : GoodIn wsX10_commands wsX10_does := goodIn_ca (goodIn_r _ [57, 20, 58, 59, 60, 14, 61, 62, 8, 44, 45, 46, 63, 64, 65, 66, 67, 68, 10, 50, 51, 52, 53, 7, 69, 70, 71, 72, 73, 74, 75, 76, 77, 78, 79, 80, 81, 82, 83, 84, 85, 86, 87, 88, 89, 90, 91, 92, 93, 94, 95, 96, 97, 98, 99, 100, 101, 102, 103, 104, 105, 106, 107, 108, 109, 110, 111, 112, 113, 114, 115, 116, 117, 118, 119, 120, 121, 122, 123, 124, 125, 126, 127, 128, 129, 130, 131, 132, 133, 134, 135, 136, 137, 138, 139, 140, 141, 142, 143, 144, 145, 146, 147, 148, 149, 150, 151, 152, 153, 154, 155, 156, 157, 158, 159, 160, 161, 162, 163, 164, 165, 166, 167, 168, 169, 170, 171, 172, 173, 174, 175, 182, 183, 184, 185, 186, 187, 188, 189, 190, 191, 192, 193, 194, 195, 196, 197, 198, 199, 200, 201, 202] (by decide +kernel) (by decide +kernel)) (goodIn_sub (fun _ h => List.mem_cons_of_mem _ (List.mem_append_right _ h)) (by decide +kernel))
set_option maxRecDepth 20000 in
theorem gX10_commands_X10_does : GoodIn wsX10_commands (wsV RX10 238 RX10 yX10_does wsX10_does) := goodIn_app (goodIn_of _ (by decide +kernel)) ggX10_commands_X10_does
set_option maxRecDepth 20000 in
theorem ggX10_commands_X10_changed : GoodIn wsX10_commands wsX10_changed := goodIn_ca (goodIn_r _ [179, 7, 180, 181, 9, 182, 183, 184, 185, 186, 187, 188, 189, 190, 191, 192, 193, 194, 195, 196, 197, 198, 199, 200, 201, 202] (by decide +kernel) (by decide +kernel)) (goodIn_sub (fun _ h => List.mem_cons_of_mem _ (List.mem_append_right _ h)) (by decide +kernel))
set_option maxRecDepth 20000 in
theorem gX10_commands_X10_changed : GoodIn wsX10_commands (wsV RX10 107 RX10 yX10_changed wsX10_changed) := goodIn_app (goodIn_of _ (by decide +kernel)) ggX10_commands_X10_changed
set_option maxRecDepth 20000 in
theorem ggX10_reason_X10_in : GoodIn wsX10_reason wsX10_in := goodIn_r _ [9] (by decide +kernel) (by decide +kernel)
set_option maxRecDepth 20000 in
theorem gX10_reason_X10_in : GoodIn wsX10_reason (va_wsS RX10 59 yX10_in wsX10_in) := goodIn_app (goodIn_of _ (by decide +kernel)) ggX10_reason_X10_in
set_option maxRecDepth 20000 in
theorem ggX10_reason_X10_throwing : GoodIn wsX10_reason wsX10_throwing := goodIn_r _ [13, 1, 14, 15, 16, 17, 18, 19, 20, 21, 22, 23, 24, 25, 26, 27, 28, 29, 30, 31, 32, 33, 34] (by decide +kernel) (by decide +kernel)
set_option maxRecDepth 20000 in
theorem gX10_reason_X10_throwing : GoodIn wsX10_reason (wsV RX10 50 RX10 yX10_throwing wsX10_throwing) := goodIn_app (goodIn_of _ (by decide +kernel)) ggX10_reason_X10_throwing
set_option maxRecDepth 20000 in
theorem ggX10_writesNumber_X10_sign : GoodIn wsX10_writesNumber wsX10_sign := goodIn_ca (goodIn_r _ [5, 6, 7, 8, 9, 10, 11, 12, 13, 14, 15, 16, 17, 18, 19, 20, 21, 22, 23, 24, 25, 26, 27, 28] (by decide +kernel) (by decide +kernel)) (goodIn_sub (fun _ h => List.mem_cons_of_mem _ (List.mem_append_right _ h)) (by decide +kernel))
set_option maxRecDepth 20000 in
theorem gX10_writesNumber_X10_sign : GoodIn wsX10_writesNumber (wsV RX10 246 RX10 yX10_sign wsX10_sign) := goodIn_app (goodIn_of _ (by decide +kernel)) ggX10_writesNumber_X10_sign
set_option maxRecDepth 20000 in
theorem ggX10_line_X10_isVisitor : GoodIn wsX10_line wsX10_isVisitor := goodIn_ca (goodIn_r _ [8, 3, 9, 10, 7, 11, 28, 29, 30, 31, 32, 33, 34, 35, 36, 37, 38, 39, 40, 41, 42, 43, 44, 45, 46, 47, 48] (by decide +kernel) (by decide +kernel)) (goodIn_sub (fun _ h => List.mem_cons_of_mem _ (List.mem_append_left _ (List.mem_append_right _ h))) (by decide +kernel))
set_option maxRecDepth 20000 in
theorem gX10_line_X10_isVisitor : GoodIn wsX10_line (wsV RX10 154 RX10 yX10_isVisitor wsX10_isVisitor) := goodIn_app (goodIn_of _ (by decide +kernel)) ggX10_line_X10_isVisitor
set_option maxRecDepth 20000 in
theorem ggX10_line_X10_throwing : GoodIn wsX10_line wsX10_throwing := goodIn_r _ [15, 1, 28, 29, 30, 31, 32, 33, 34, 35, 36, 37, 38, 39, 40, 41, 42, 43, 44, 45, 46, 47, 48] (by decide +kernel) (by decide +kernel)
set_option maxRecDepth 20000 in
theorem gX10_line_X10_throwing : GoodIn wsX10_line (wsV RX10 50 RX10 yX10_throwing wsX10_throwing) := goodIn_app (goodIn_of _ (by decide +kernel)) ggX10_line_X10_throwing
set_option maxRecDepth 20000 in
theorem ggX10_line_X10_visitorAt : GoodIn wsX10_line wsX10_visitorAt := goodIn_r _ [18] (by decide +kernel) (by decide +kernel)
set_option maxRecDepth 20000 in
theorem gX10_line_X10_visitorAt : GoodIn wsX10_line (va_wsS RX10 126 yX10_visitorAt wsX10_visitorAt) := goodIn_app (goodIn_of _ (by decide +kernel)) ggX10_line_X10_visitorAt
set_option maxRecDepth 20000 in
theorem ggX10_line_X10_sign : GoodIn wsX10_line wsX10_sign := goodIn_ca (goodIn_r _ [22, 23, 2, 28, 29, 30, 31, 32, 33, 34, 35, 36, 37, 38, 39, 40, 41, 42, 43, 44, 45, 46, 47, 48] (by decide +kernel) (by decide +kernel)) (goodIn_sub (fun _ h => List.mem_cons_of_mem _ (List.mem_append_left _ (List.mem_append_right _ h))) (by decide +kernel))
set_option maxRecDepth 20000 in
theorem gX10_line_X10_sign : GoodIn wsX10_line (wsV RX10 246 RX10 yX10_sign wsX10_sign) := goodIn_app (goodIn_of _ (by decide +kernel)) ggX10_line_X10_sign
set_option maxRecDepth 20000 in
theorem ggX10_line_X10_writesNumber : GoodIn wsX10_line wsX10_writesNumber := goodIn_ca (goodIn_ca (goodIn_r _ [27, 19, 20, 21, 7, 22, 23, 2, 28, 29, 30, 31, 32, 33, 34, 35, 36, 37, 38, 39, 40, 41, 42, 43, 44, 45, 46, 47, 48] (by decide +kernel) (by decide +kernel)) (goodIn_sub (fun _ h => List.mem_cons_of_mem _ (List.mem_append_right _ h)) (by decide +kernel))) (goodIn_sub (fun _ h => List.mem_cons_of_mem _ (List.mem_append_left _ (List.mem_append_right _ h))) (by decide +kernel))
set_option maxRecDepth 20000 in
theorem gX10_line_X10_writesNumber : GoodIn wsX10_line (wsV RX10 249 RX10 yX10_writesNumber wsX10_writesNumber) := goodIn_app (goodIn_of _ (by decide +kernel)) ggX10_line_X10_writesNumber
set_option maxRecDepth 20000 in
theorem ggX10_visitorsIn_X10_visitorAt : GoodIn wsX10_visitorsIn wsX10_visitorAt := goodIn_r _ [5] (by decide +kernel) (by decide +kernel)
set_option maxRecDepth 20000 in
theorem gX10_visitorsIn_X10_visitorAt : GoodIn wsX10_visitorsIn (va_wsS RX10 126 yX10_visitorAt wsX10_visitorAt) := goodIn_app (goodIn_of _ (by decide +kernel)) ggX10_visitorsIn_X10_visitorAt
set_option maxRecDepth 20000 in
theorem ggX10_row_X10_in : GoodIn wsX10_row wsX10_in := goodIn_r _ [8] (by decide +kernel) (by decide +kernel)
set_option maxRecDepth 20000 in
theorem gX10_row_X10_in : GoodIn wsX10_row (va_wsS RX10 59 yX10_in wsX10_in) := goodIn_app (goodIn_of _ (by decide +kernel)) ggX10_row_X10_in
set_option maxRecDepth 20000 in
theorem ggX10_row_X10_throwing : GoodIn wsX10_row wsX10_throwing := goodIn_r _ [12, 1, 39, 40, 41, 42, 43, 44, 45, 46, 47, 48, 49, 50, 51, 52, 53, 54, 55, 56, 57, 58, 59] (by decide +kernel) (by decide +kernel)
set_option maxRecDepth 20000 in
theorem gX10_row_X10_throwing : GoodIn wsX10_row (wsV RX10 50 RX10 yX10_throwing wsX10_throwing) := goodIn_app (goodIn_of _ (by decide +kernel)) ggX10_row_X10_throwing
set_option maxRecDepth 20000 in
theorem ggX10_row_X10_hedgeAt : GoodIn wsX10_row wsX10_hedgeAt := goodIn_r _ [15, 16, 17, 18, 19, 20, 21, 22] (by decide +kernel) (by decide +kernel)
set_option maxRecDepth 20000 in
theorem gX10_row_X10_hedgeAt : GoodIn wsX10_row (va_wsS RX10 77 yX10_hedgeAt wsX10_hedgeAt) := goodIn_app (goodIn_of _ (by decide +kernel)) ggX10_row_X10_hedgeAt
set_option maxRecDepth 20000 in
theorem ggX10_row_X10_isGapAt : GoodIn wsX10_row wsX10_isGapAt := goodIn_ca (goodIn_r _ [26, 4, 39, 40, 41, 42, 43, 44, 45, 46, 47, 48, 49, 50, 51, 52, 53, 54, 55, 56, 57, 58, 59] (by decide +kernel) (by decide +kernel)) (goodIn_sub (fun _ h => List.mem_cons_of_mem _ (List.mem_append_right _ h)) (by decide +kernel))
set_option maxRecDepth 20000 in
theorem gX10_row_X10_isGapAt : GoodIn wsX10_row (wsV RX10 80 RX10 yX10_isGapAt wsX10_isGapAt) := goodIn_app (goodIn_of _ (by decide +kernel)) ggX10_row_X10_isGapAt
set_option maxRecDepth 20000 in
theorem ggX10_row_X10_sign : GoodIn wsX10_row wsX10_sign := goodIn_ca (goodIn_r _ [30, 31, 3, 39, 40, 41, 42, 43, 44, 45, 46, 47, 48, 49, 50, 51, 52, 53, 54, 55, 56, 57, 58, 59] (by decide +kernel) (by decide +kernel)) (goodIn_sub (fun _ h => List.mem_cons_of_mem _ (List.mem_append_right _ h)) (by decide +kernel))
set_option maxRecDepth 20000 in
theorem gX10_row_X10_sign : GoodIn wsX10_row (wsV RX10 246 RX10 yX10_sign wsX10_sign) := goodIn_app (goodIn_of _ (by decide +kernel)) ggX10_row_X10_sign
set_option maxRecDepth 20000 in
theorem ggX10_row_X10_visitorsIn : GoodIn wsX10_row wsX10_visitorsIn := goodIn_ca (goodIn_r _ [35, 4, 36, 37, 7, 38, 39, 40, 41, 42, 43, 44, 45, 46, 47, 48, 49, 50, 51, 52, 53, 54, 55, 56, 57, 58, 59] (by decide +kernel) (by decide +kernel)) (goodIn_sub (fun _ h => List.mem_cons_of_mem _ (List.mem_append_right _ h)) (by decide +kernel))
set_option maxRecDepth 20000 in
theorem gX10_row_X10_visitorsIn : GoodIn wsX10_row (wsV RX10 252 RX10 yX10_visitorsIn wsX10_visitorsIn) := goodIn_app (goodIn_of _ (by decide +kernel)) ggX10_row_X10_visitorsIn
set_option maxRecDepth 20000 in
theorem ggX10_character_X10_in : GoodIn wsX10_character wsX10_in := goodIn_r _ [7] (by decide +kernel) (by decide +kernel)
set_option maxRecDepth 20000 in
theorem gX10_character_X10_in : GoodIn wsX10_character (va_wsS RX10 59 yX10_in wsX10_in) := goodIn_app (goodIn_of _ (by decide +kernel)) ggX10_character_X10_in
set_option maxRecDepth 20000 in
theorem ggX10_character_X10_throwing : GoodIn wsX10_character wsX10_throwing := goodIn_r _ [11, 1, 12, 13, 14, 15, 16, 17, 18, 19, 20, 21, 22, 23, 24, 25, 26, 27, 28, 29, 30, 31, 32] (by decide +kernel) (by decide +kernel)
set_option maxRecDepth 20000 in
theorem gX10_character_X10_throwing : GoodIn wsX10_character (wsV RX10 50 RX10 yX10_throwing wsX10_throwing) := goodIn_app (goodIn_of _ (by decide +kernel)) ggX10_character_X10_throwing
set_option maxRecDepth 20000 in
theorem ggX10_coins_X10_gardenerAt : GoodIn wsX10_coins wsX10_gardenerAt := goodIn_r _ [5] (by decide +kernel) (by decide +kernel)
set_option maxRecDepth 20000 in
theorem gX10_coins_X10_gardenerAt : GoodIn wsX10_coins (va_wsS RX10 120 yX10_gardenerAt wsX10_gardenerAt) := goodIn_app (goodIn_of _ (by decide +kernel)) ggX10_coins_X10_gardenerAt
set_option maxRecDepth 20000 in
theorem ggX10_coins_X10_visitorAt : GoodIn wsX10_coins wsX10_visitorAt := goodIn_r _ [8] (by decide +kernel) (by decide +kernel)
set_option maxRecDepth 20000 in
theorem gX10_coins_X10_visitorAt : GoodIn wsX10_coins (va_wsS RX10 126 yX10_visitorAt wsX10_visitorAt) := goodIn_app (goodIn_of _ (by decide +kernel)) ggX10_coins_X10_visitorAt
set_option maxRecDepth 20000 in
theorem ggX10_voids_X10_lasts : GoodIn wsX10_voids wsX10_lasts := goodIn_ca (goodIn_r _ [6, 1, 7, 8, 5, 9, 10, 11, 12, 13, 14, 15, 16, 17, 18, 19, 20, 21, 22, 23, 24, 25, 26, 27, 28, 29, 30] (by decide +kernel) (by decide +kernel)) (goodIn_sub (fun _ h => List.mem_cons_of_mem _ (List.mem_append_right _ h)) (by decide +kernel))
set_option maxRecDepth 20000 in
theorem gX10_voids_X10_lasts : GoodIn wsX10_voids (wsV RX10 183 RX10 yX10_lasts wsX10_lasts) := goodIn_app (goodIn_of _ (by decide +kernel)) ggX10_voids_X10_lasts
set_option maxRecDepth 20000 in
theorem ggX10_voids_X10_visitorAt : GoodIn wsX10_voids wsX10_visitorAt := goodIn_r _ [9] (by decide +kernel) (by decide +kernel)
set_option maxRecDepth 20000 in
theorem gX10_voids_X10_visitorAt : GoodIn wsX10_voids (va_wsS RX10 126 yX10_visitorAt wsX10_visitorAt) := goodIn_app (goodIn_of _ (by decide +kernel)) ggX10_voids_X10_visitorAt
