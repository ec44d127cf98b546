set_option maxRecDepth 20000 in
theorem gX9_wouldPay_X9_visitorAsked : GoodIn wsX9_wouldPay (wsV RX9 217 RX9 yX9_visitorAsked wsX9_visitorAsked) := goodIn_app (goodIn_of _ (by decide +kernel)) ggX9_wouldPay_X9_visitorAsked
set_option maxRecDepth 20000 in
theorem ggX9_wouldPay_X6_findGardener : GoodIn wsX9_wouldPay wsX6_findGardener := goodIn_r _ [26, 27, 28, 112, 113, 114, 115, 116, 117, 118, 119, 120] rfl (by decide +kernel)
set_option maxRecDepth 20000 in
theorem gX9_wouldPay_X6_findGardener : GoodIn wsX9_wouldPay (wsV RX9 231 RX6 yX6_findGardener wsX6_findGardener) := goodIn_app (goodIn_of _ (by decide +kernel)) ggX9_wouldPay_X6_findGardener
set_option maxRecDepth 20000 in
theorem ggX9_wouldPay_X8_hoursByDistance : GoodIn wsX9_wouldPay wsX8_hoursByDistance := goodIn_ca (goodIn_r _ [33, 34, 35, 36, 32, 37, 38, 39, 40, 41, 42, 43, 44, 45, 46, 47, 48, 49, 50, 51, 52, 53, 54, 55, 56, 57, 58, 59, 60, 61, 62, 63, 64, 65, 66, 67, 68, 69, 70, 121, 122, 123, 124] rfl (by decide +kernel)) (goodIn_sub (fun _ h => List.mem_cons_of_mem _ (List.mem_append_right _ h)) (by decide +kernel))
set_option maxRecDepth 20000 in
theorem gX9_wouldPay_X8_hoursByDistance : GoodIn wsX9_wouldPay (wsV RX9 143 RX8 yX8_hoursByDistance wsX8_hoursByDistance) := goodIn_app (goodIn_of _ (by decide +kernel)) ggX9_wouldPay_X8_hoursByDistance
set_option maxRecDepth 20000 in
theorem ggX9_wouldPay_X9_demandWay : GoodIn wsX9_wouldPay wsX9_demandWay := goodIn_ca (goodIn_r _ [73, 1, 2] rfl (by decide +kernel)) (goodIn_sub (fun _ h => List.mem_cons_of_mem _ (List.mem_append_left _ (List.mem_append_left _ (List.mem_append_right _ h)))) (by decide +kernel))
set_option maxRecDepth 20000 in
theorem gX9_wouldPay_X9_demandWay : GoodIn wsX9_wouldPay (va_wsS RX9 146 yX9_demandWay wsX9_demandWay) := goodIn_app (goodIn_of _ (by decide +kernel)) ggX9_wouldPay_X9_demandWay
set_option maxRecDepth 20000 in
theorem ggX9_wouldPay_X7_dueAfter : GoodIn wsX9_wouldPay wsX7_dueAfter := goodIn_r _ [78, 79, 80, 81, 82, 83, 77, 84, 85, 86, 87, 88, 7, 89, 100, 101, 102, 103, 104, 105, 106, 107] rfl (by decide +kernel)
set_option maxRecDepth 20000 in
theorem gX9_wouldPay_X7_dueAfter : GoodIn wsX9_wouldPay (wsV RX9 242 RX7 yX7_dueAfter wsX7_dueAfter) := goodIn_app (goodIn_of _ (by decide +kernel)) ggX9_wouldPay_X7_dueAfter
set_option maxRecDepth 20000 in
theorem ggX9_owed_X9_gardenerAsked : GoodIn wsX9_owed wsX9_gardenerAsked := goodIn_ca (goodIn_r _ [6, 7, 8, 1, 9, 10, 11, 12, 13, 14, 15, 39, 40, 41, 42, 43, 44, 45, 46, 47, 48, 49, 50, 51, 52, 53, 54, 55, 56, 57] rfl (by decide +kernel)) (goodIn_sub (fun _ h => List.mem_cons_of_mem _ (List.mem_append_right _ h)) (by decide +kernel))
set_option maxRecDepth 20000 in
theorem gX9_owed_X9_gardenerAsked : GoodIn wsX9_owed (wsV RX9 190 RX9 yX9_gardenerAsked wsX9_gardenerAsked) := goodIn_app (goodIn_of _ (by decide +kernel)) ggX9_owed_X9_gardenerAsked
set_option maxRecDepth 20000 in
theorem ggX9_owed_X6_debtOf : GoodIn wsX9_owed wsX6_debtOf := goodIn_r _ [19, 20, 21, 22, 23, 24, 25, 26, 27, 28, 29, 30, 31, 32, 33, 34, 35, 36, 37, 38, 49, 50, 51, 52, 53, 54, 55, 56, 57, 58, 59, 60, 61, 62, 63, 64, 65] rfl (by decide +kernel)
set_option maxRecDepth 20000 in
theorem gX9_owed_X6_debtOf : GoodIn wsX9_owed (wsV RX9 248 RX6 yX6_debtOf wsX6_debtOf) := goodIn_app (goodIn_of _ (by decide +kernel)) ggX9_owed_X6_debtOf
set_option maxRecDepth 20000 in
theorem ggX9_gardenerAsked_X6_findGardener : GoodIn wsX9_gardenerAsked wsX6_findGardener := goodIn_r _ [8, 9, 10, 21, 22, 23, 24, 25, 26, 27, 28, 29] rfl (by decide +kernel)
set_option maxRecDepth 20000 in
theorem gX9_gardenerAsked_X6_findGardener : GoodIn wsX9_gardenerAsked (wsV RX9 231 RX6 yX6_findGardener wsX6_findGardener) := goodIn_app (goodIn_of _ (by decide +kernel)) ggX9_gardenerAsked_X6_findGardener
set_option maxRecDepth 20000 in
theorem ggX9_visitorAsked_X6_findVisitor : GoodIn wsX9_visitorAsked wsX6_findVisitor := goodIn_r _ [8, 9, 10, 21, 22, 23, 24, 25, 26, 27, 28, 29] rfl (by decide +kernel)
set_option maxRecDepth 20000 in
theorem gX9_visitorAsked_X6_findVisitor : GoodIn wsX9_visitorAsked (wsV RX9 253 RX6 yX6_findVisitor wsX6_findVisitor) := goodIn_app (goodIn_of _ (by decide +kernel)) ggX9_visitorAsked_X6_findVisitor
set_option maxRecDepth 20000 in
theorem ggX9_ranked_X9_visitorPlaced : GoodIn wsX9_ranked wsX9_visitorPlaced := goodIn_ca (goodIn_r _ [7, 8, 9, 10, 11, 12, 13, 14, 15, 16, 17, 18, 19, 20, 21, 22, 23, 24, 25, 26, 27, 28, 29, 30, 31, 32, 33, 34, 35, 36, 37, 38, 39, 40, 41, 42, 43, 44, 45, 46, 47, 48, 49, 50, 51, 52, 53, 54, 55, 56, 57, 58, 59, 60, 61, 62, 63, 64, 65, 66, 67, 68, 69] rfl (by decide +kernel)) (goodIn_sub (fun _ h => List.mem_cons_of_mem _ (List.mem_append_right _ h)) (by decide +kernel))
set_option maxRecDepth 20000 in
theorem gX9_ranked_X9_visitorPlaced : GoodIn wsX9_ranked (wsV RX9 258 RX9 yX9_visitorPlaced wsX9_visitorPlaced) := goodIn_app (goodIn_of _ (by decide +kernel)) ggX9_ranked_X9_visitorPlaced
set_option maxRecDepth 20000 in
theorem ggX9_visitorPlaced_X6_visitorsAhead : GoodIn wsX9_visitorPlaced wsX6_visitorsAhead := goodIn_r _ [8, 9, 10, 11, 12, 13, 7, 14, 15, 16, 17, 18, 19, 20, 21, 22, 23, 24, 25, 26, 27, 28, 29, 30, 31, 32, 33, 34, 35, 46, 47, 48, 49, 50, 51, 52, 53, 54, 55, 56, 57, 58, 59, 60, 61, 62] rfl (by decide +kernel)
set_option maxRecDepth 20000 in
theorem gX9_visitorPlaced_X6_visitorsAhead : GoodIn wsX9_visitorPlaced (wsV RX9 266 RX6 yX6_visitorsAhead wsX6_visitorsAhead) := goodIn_app (goodIn_of _ (by decide +kernel)) ggX9_visitorPlaced_X6_visitorsAhead
set_option maxRecDepth 20000 in
theorem ggX9_richest_X6_gardenersAhead : GoodIn wsX9_richest wsX6_gardenersAhead := goodIn_r _ [8, 9, 10, 11, 12, 7, 13, 14, 15, 16, 17, 18, 19, 20, 21, 22, 23, 24, 25, 26, 27, 28, 29, 30, 31, 32, 33, 34, 35, 36, 37, 38, 39, 40, 41, 52, 53, 54, 55, 56, 57, 58, 59, 60, 61, 62, 63, 64, 65, 66, 67, 68, 69, 70, 71, 72] rfl (by decide +kernel)
set_option maxRecDepth 20000 in
theorem gX9_richest_X6_gardenersAhead : GoodIn wsX9_richest (wsV RX9 274 RX6 yX6_gardenersAhead wsX6_gardenersAhead) := goodIn_app (goodIn_of _ (by decide +kernel)) ggX9_richest_X6_gardenersAhead
set_option maxRecDepth 20000 in
theorem ggX9_append_X0_add : GoodIn wsX9_append wsX0_add := goodIn_ca (goodIn_r _ [8, 9, 10, 21, 22, 23, 24, 25, 26, 27, 28] rfl (by decide +kernel)) (goodIn_sub (fun _ h => List.mem_cons_of_mem _ (List.mem_append_right _ h)) (by decide +kernel))
set_option maxRecDepth 20000 in
theorem gX9_append_X0_add : GoodIn wsX9_append (wsV RX9 285 RX0 yX0_add wsX0_add) := goodIn_app (goodIn_of _ (by decide +kernel)) ggX9_append_X0_add
set_option maxRecDepth 20000 in
theorem ggX9_commands_X0_takeCommands : GoodIn wsX9_commands wsX0_takeCommands := goodIn_ca (goodIn_r _ [14, 15, 16, 17, 18, 19, 20, 21, 13, 22, 23, 24, 25, 26, 27, 28, 29, 30, 31, 32, 33, 34, 35, 36, 37, 38, 39, 40, 41, 42, 43, 44, 45, 46, 47, 48, 49, 50, 51, 52, 53, 54, 55, 56, 57, 58, 59, 60, 61, 62, 63, 64, 65, 66, 67, 68, 69, 70, 71, 72, 73, 74, 75, 76, 77, 78, 79, 80, 81, 82, 83, 84, 85, 86, 87, 88, 89, 90, 91, 92, 93, 94, 95, 96, 97, 98, 99, 100, 101, 102, 389, 390, 391, 392, 393, 394, 395, 396, 400, 401, 402, 403] rfl (by decide +kernel)) (goodIn_sub (fun _ h => List.mem_cons_of_mem _ (List.mem_append_right _ h)) (by decide +kernel))
set_option maxRecDepth 20000 in
theorem gX9_commands_X0_takeCommands : GoodIn wsX9_commands (wsV RX9 289 RX0 yX0_takeCommands wsX0_takeCommands) := goodIn_app (goodIn_of _ (by decide +kernel)) ggX9_commands_X0_takeCommands
set_option maxRecDepth 20000 in
theorem ggX9_commands_X6_copyFrom : GoodIn wsX9_commands wsX6_copyFrom := goodIn_r _ [107, 108, 109, 110, 111, 112, 113, 114, 115, 116, 117, 118, 119, 120, 121, 122, 123, 124, 125, 126, 127, 128, 129, 130, 131, 132, 133, 134, 135, 136, 137, 138, 139, 140, 141, 142, 143, 144, 145, 146, 147, 148, 404, 405, 406, 407, 408, 409, 410, 411, 412, 413, 414, 415, 416, 417, 418, 419, 420, 421, 422, 423, 424, 425] rfl (by decide +kernel)
