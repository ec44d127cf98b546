set_option maxRecDepth 20000 in
theorem gX10_does_X10_minotaurIt : GoodIn wsX10_does (wsV RX10 134 RX10 yX10_minotaurIt wsX10_minotaurIt) := goodIn_app (goodIn_of _ (by decide +kernel)) ggX10_does_X10_minotaurIt
set_option maxRecDepth 20000 in
theorem ggX10_does_X10_gardenerIt : GoodIn wsX10_does wsX10_gardenerIt := goodIn_ca (goodIn_r _ [80, 81, 8, 9, 10, 5, 11, 12, 13, 14, 15, 16, 17, 18, 19, 20, 21, 22, 23, 62, 63, 64, 131, 132, 133, 134, 135, 136, 137, 138, 139, 140, 141, 142, 143, 144, 145, 146, 147, 148, 149, 150, 151] rfl (by decide +kernel)) (goodIn_sub (fun _ h => List.mem_cons_of_mem _ (List.mem_append_right _ h)) (by decide +kernel))
set_option maxRecDepth 20000 in
theorem gX10_does_X10_gardenerIt : GoodIn wsX10_does (wsV RX10 139 RX10 yX10_gardenerIt wsX10_gardenerIt) := goodIn_app (goodIn_of _ (by decide +kernel)) ggX10_does_X10_gardenerIt
set_option maxRecDepth 20000 in
theorem ggX10_does_X10_visitorIt : GoodIn wsX10_does wsX10_visitorIt := goodIn_ca (goodIn_r _ [85, 81, 8, 9, 10, 5, 11, 12, 13, 14, 15, 16, 17, 18, 19, 20, 21, 22, 23, 86, 87, 88, 89, 90, 91, 92, 93, 94, 39, 40, 30, 41, 95, 96, 97, 98, 36, 37, 38, 28, 29, 31, 50, 51, 52, 53, 99, 100, 101, 102, 103, 104, 105, 74, 75, 76, 131, 132, 133, 134, 135, 136, 137, 138, 139, 140, 141, 142, 143, 144, 145, 146, 147, 148, 149, 150, 151] rfl (by decide +kernel)) (goodIn_sub (fun _ h => List.mem_cons_of_mem _ (List.mem_append_right _ h)) (by decide +kernel))
set_option maxRecDepth 20000 in
theorem gX10_does_X10_visitorIt : GoodIn wsX10_does (wsV RX10 151 RX10 yX10_visitorIt wsX10_visitorIt) := goodIn_app (goodIn_of _ (by decide +kernel)) ggX10_does_X10_visitorIt
set_option maxRecDepth 20000 in
theorem ggX10_does_X10_bondIt : GoodIn wsX10_does wsX10_bondIt := goodIn_ca (goodIn_r _ [109, 8, 110, 58, 59, 60, 5, 61, 9, 10, 11, 12, 13, 14, 15, 16, 17, 18, 19, 20, 21, 22, 23, 111, 112, 113, 114, 74, 75, 76, 70, 71, 72, 73, 62, 63, 64, 131, 132, 133, 134, 135, 136, 137, 138, 139, 140, 141, 142, 143, 144, 145, 146, 147, 148, 149, 150, 151] rfl (by decide +kernel)) (goodIn_sub (fun _ h => List.mem_cons_of_mem _ (List.mem_append_right _ h)) (by decide +kernel))
set_option maxRecDepth 20000 in
theorem gX10_does_X10_bondIt : GoodIn wsX10_does (wsV RX10 159 RX10 yX10_bondIt wsX10_bondIt) := goodIn_app (goodIn_of _ (by decide +kernel)) ggX10_does_X10_bondIt
set_option maxRecDepth 20000 in
theorem ggX10_does_X10_walkIt : GoodIn wsX10_does wsX10_walkIt := goodIn_ca (goodIn_r _ [118, 8, 98, 111, 112, 113, 5, 114, 9, 10, 11, 12, 13, 14, 15, 16, 17, 18, 19, 20, 21, 22, 23, 74, 75, 76, 95, 96, 97, 36, 37, 38, 39, 40, 30, 41, 28, 29, 31, 50, 51, 52, 53, 70, 71, 72, 73, 119, 120, 121, 122, 123, 124, 125, 126, 62, 63, 64, 131, 132, 133, 134, 135, 136, 137, 138, 139, 140, 141, 142, 143, 144, 145, 146, 147, 148, 149, 150, 151] rfl (by decide +kernel)) (goodIn_sub (fun _ h => List.mem_cons_of_mem _ (List.mem_append_right _ h)) (by decide +kernel))
set_option maxRecDepth 20000 in
theorem gX10_does_X10_walkIt : GoodIn wsX10_does (wsV RX10 168 RX10 yX10_walkIt wsX10_walkIt) := goodIn_app (goodIn_of _ (by decide +kernel)) ggX10_does_X10_walkIt
set_option maxRecDepth 20000 in
theorem ggX10_does_X10_restIt : GoodIn wsX10_does wsX10_restIt := goodIn_ca (goodIn_r _ [130, 8, 7, 111, 112, 113, 5, 114, 9, 10, 11, 12, 13, 14, 15, 16, 17, 18, 19, 20, 21, 22, 23, 74, 75, 76, 131, 132, 133, 134, 135, 136, 137, 138, 139, 140, 141, 142, 143, 144, 145, 146, 147, 148, 149, 150, 151] rfl (by decide +kernel)) (goodIn_sub (fun _ h => List.mem_cons_of_mem _ (List.mem_append_right _ h)) (by decide +kernel))
set_option maxRecDepth 20000 in
theorem gX10_does_X10_restIt : GoodIn wsX10_does (wsV RX10 171 RX10 yX10_restIt wsX10_restIt) := goodIn_app (goodIn_of _ (by decide +kernel)) ggX10_does_X10_restIt
set_option maxRecDepth 20000 in
theorem ggX10_commands_X10_starts : GoodIn wsX10_commands wsX10_starts := goodIn_ca (goodIn_r _ [15, 7, 9, 8, 182, 183, 184, 185, 186, 187, 188, 189, 190, 191, 192, 193, 194, 195, 196, 197, 198, 199, 200, 201, 202] rfl (by decide +kernel)) (goodIn_sub (fun _ h => List.mem_cons_of_mem _ (List.mem_append_right _ h)) (by decide +kernel))
set_option maxRecDepth 20000 in
theorem gX10_commands_X10_starts : GoodIn wsX10_commands (wsV RX10 100 RX10 yX10_starts wsX10_starts) := goodIn_app (goodIn_of _ (by decide +kernel)) ggX10_commands_X10_starts
set_option maxRecDepth 20000 in
theorem ggX10_commands_X10_readOrder : GoodIn wsX10_commands wsX10_readOrder := goodIn_ca (goodIn_r _ [19, 4, 20, 3, 21, 22, 23, 14, 24, 2, 25, 26, 27, 28, 29, 5, 30, 31, 32, 33, 34, 35, 36, 37, 38, 39, 40, 41, 42, 43, 44, 45, 46, 47, 48, 49, 182, 183, 184, 185, 186, 187, 188, 189, 190, 191, 192, 193, 194, 195, 196, 197, 198, 199, 200, 201, 202] rfl (by decide +kernel)) (goodIn_sub (fun _ h => List.mem_cons_of_mem _ (List.mem_append_right _ h)) (by decide +kernel))
set_option maxRecDepth 20000 in
theorem gX10_commands_X10_readOrder : GoodIn wsX10_commands (wsV RX10 235 RX10 yX10_readOrder wsX10_readOrder) := goodIn_app (goodIn_of _ (by decide +kernel)) ggX10_commands_X10_readOrder
set_option maxRecDepth 20000 in
theorem ggX10_commands_X10_here : GoodIn wsX10_commands wsX10_here := goodIn_ca (goodIn_r _ [24, 3, 2, 25, 182, 183, 184, 185, 186, 187, 188, 189, 190, 191, 192, 193, 194, 195, 196, 197, 198, 199, 200, 201, 202] rfl (by decide +kernel)) (goodIn_sub (fun _ h => List.mem_cons_of_mem _ (List.mem_append_right _ h)) (by decide +kernel))
set_option maxRecDepth 20000 in
theorem gX10_commands_X10_here : GoodIn wsX10_commands (wsV RX10 208 RX10 yX10_here wsX10_here) := goodIn_app (goodIn_of _ (by decide +kernel)) ggX10_commands_X10_here
set_option maxRecDepth 20000 in
theorem ggX10_commands_X10_expects : GoodIn wsX10_commands wsX10_expects := goodIn_r _ [29, 5, 3, 182, 183, 184, 185, 186, 187, 188, 189, 190, 191, 192, 193, 194, 195, 196, 197, 198, 199, 200, 201, 202] rfl (by decide +kernel)
set_option maxRecDepth 20000 in
theorem gX10_commands_X10_expects : GoodIn wsX10_commands (wsV RX10 215 RX10 yX10_expects wsX10_expects) := goodIn_app (goodIn_of _ (by decide +kernel)) ggX10_commands_X10_expects
set_option maxRecDepth 20000 in
theorem ggX10_commands_X10_throwing : GoodIn wsX10_commands wsX10_throwing := goodIn_r _ [53, 7, 182, 183, 184, 185, 186, 187, 188, 189, 190, 191, 192, 193, 194, 195, 196, 197, 198, 199, 200, 201, 202] rfl (by decide +kernel)
set_option maxRecDepth 20000 in
theorem gX10_commands_X10_throwing : GoodIn wsX10_commands (wsV RX10 50 RX10 yX10_throwing wsX10_throwing) := goodIn_app (goodIn_of _ (by decide +kernel)) ggX10_commands_X10_throwing
set_option maxRecDepth 20000 in
theorem ggX10_commands_X10_does : GoodIn wsX10_commands wsX10_does := goodIn_ca (goodIn_r _ [57, 20, 58, 59, 60, 14, 61, 62, 8, 44, 45, 46, 63, 64, 65, 66, 67, 68, 10, 50, 51, 52, 53, 7, 69, 70, 71, 72, 73, 74, 75, 76, 77, 78, 79, 80, 81, 82, 83, 84, 85, 86, 87, 88, 89, 90, 91, 92, 93, 94, 95, 96, 97, 98, 99, 100, 101, 102, 103, 104, 105, 106, 107, 108, 109, 110, 111, 112, 113, 114, 115, 116, 117, 118, 119, 120, 121, 122, 123, 124, 125, 126, 127, 128, 129, 130, 131, 132, 133, 134, 135, 136, 137, 138, 139, 140, 141, 142, 143, 144, 145, 146, 147, 148, 149, 150, 151, 152, 153, 154, 155, 156, 157, 158, 159, 160, 161, 162, 163, 164, 165, 166, 167, 168, 169, 170, 171, 172, 173, 174, 175, 182, 183, 184, 185, 186, 187, 188, 189, 190, 191, 192, 193, 194, 195, 196, 197, 198, 199, 200, 201, 202] rfl (by decide +kernel)) (goodIn_sub (fun _ h => List.mem_cons_of_mem _ (List.mem_append_right _ h)) (by decide +kernel))
set_option maxRecDepth 20000 in
theorem gX10_commands_X10_does : GoodIn wsX10_commands (wsV RX10 238 RX10 yX10_does wsX10_does) := goodIn_app (goodIn_of _ (by decide +kernel)) ggX10_commands_X10_does
