set_option maxRecDepth 20000 in
theorem gX3_carryOut_X3_moveVisitor : GoodIn wsX3_carryOut (wsV RX3 57 RX3 yX3_moveVisitor wsX3_moveVisitor) := goodIn_app (goodIn_of _ (by decide +kernel)) ggX3_carryOut_X3_moveVisitor
set_option maxRecDepth 20000 in
theorem ggX3_carryOut_X3_restVisitor : GoodIn wsX3_carryOut wsX3_restVisitor := goodIn_r _ [235, 19, 18, 200, 201, 202, 82, 203, 115, 116, 20, 21, 22, 23, 24, 25, 26, 27, 244, 245, 246, 247, 248, 249, 250, 251, 252, 253, 254, 255, 264, 265, 266, 267, 268, 269, 270, 271, 256, 257, 258] rfl (by decide +kernel)
set_option maxRecDepth 20000 in
theorem gX3_carryOut_X3_restVisitor : GoodIn wsX3_carryOut (wsV RX3 60 RX3 yX3_restVisitor wsX3_restVisitor) := goodIn_app (goodIn_of _ (by decide +kernel)) ggX3_carryOut_X3_restVisitor
set_option maxRecDepth 20000 in
theorem ggX3_tellLeaves_X5_because : GoodIn wsX3_tellLeaves wsX5_because := goodIn_r _ [7, 8, 9, 10, 54, 55, 56] rfl (by decide +kernel)
set_option maxRecDepth 20000 in
theorem gX3_tellLeaves_X5_because : GoodIn wsX3_tellLeaves (wsV RX3 63 RX5 yX5_because wsX5_because) := goodIn_app (goodIn_of _ (by decide +kernel)) ggX3_tellLeaves_X5_because
set_option maxRecDepth 20000 in
theorem ggX3_tellLeaves_X3_hedgeOrRefusal : GoodIn wsX3_tellLeaves wsX3_hedgeOrRefusal := goodIn_ca (goodIn_r _ [15, 1, 16, 17, 18, 19, 20, 21, 22, 23, 3, 4, 5, 6, 7, 8, 9, 10, 24, 25, 26, 27, 28, 29, 30, 31, 32, 42, 43, 44, 54, 55, 56] rfl (by decide +kernel)) (goodIn_sub (fun _ h => List.mem_cons_of_mem _ (List.mem_append_right _ h)) (by decide +kernel))
set_option maxRecDepth 20000 in
theorem gX3_tellLeaves_X3_hedgeOrRefusal : GoodIn wsX3_tellLeaves (wsV RX3 68 RX3 yX3_hedgeOrRefusal wsX3_hedgeOrRefusal) := goodIn_app (goodIn_of _ (by decide +kernel)) ggX3_tellLeaves_X3_hedgeOrRefusal
set_option maxRecDepth 20000 in
theorem ggX3_tellLeaves_X4_leavesOf : GoodIn wsX3_tellLeaves wsX4_leavesOf := goodIn_ca (goodIn_r _ [36, 37, 57] rfl (by decide +kernel)) (goodIn_sub (fun _ h => List.mem_cons_of_mem _ (List.mem_append_right _ h)) (by decide +kernel))
set_option maxRecDepth 20000 in
theorem gX3_tellLeaves_X4_leavesOf : GoodIn wsX3_tellLeaves (wsV RX3 77 RX4 yX4_leavesOf wsX4_leavesOf) := goodIn_app (goodIn_of _ (by decide +kernel)) ggX3_tellLeaves_X4_leavesOf
set_option maxRecDepth 20000 in
theorem ggX3_tellLeaves_X4_putLeaves : GoodIn wsX3_tellLeaves wsX4_putLeaves := goodIn_ca (goodIn_r _ [41, 37, 57] rfl (by decide +kernel)) (goodIn_sub (fun _ h => List.mem_cons_of_mem _ (List.mem_append_right _ h)) (by decide +kernel))
set_option maxRecDepth 20000 in
theorem gX3_tellLeaves_X4_putLeaves : GoodIn wsX3_tellLeaves (wsV RX3 82 RX4 yX4_putLeaves wsX4_putLeaves) := goodIn_app (goodIn_of _ (by decide +kernel)) ggX3_tellLeaves_X4_putLeaves
set_option maxRecDepth 20000 in
theorem ggX3_hedgeOrRefusal_X4_isCell : GoodIn wsX3_hedgeOrRefusal wsX4_isCell := goodIn_r _ [9] rfl (by decide +kernel)
set_option maxRecDepth 20000 in
theorem gX3_hedgeOrRefusal_X4_isCell : GoodIn wsX3_hedgeOrRefusal (va_wsS RX3 86 yX4_isCell wsX4_isCell) := goodIn_app (goodIn_of _ (by decide +kernel)) ggX3_hedgeOrRefusal_X4_isCell
set_option maxRecDepth 20000 in
theorem ggX3_hedgeOrRefusal_X5_because : GoodIn wsX3_hedgeOrRefusal wsX5_because := goodIn_r _ [14, 15, 16, 17, 30, 31, 32] rfl (by decide +kernel)
set_option maxRecDepth 20000 in
theorem gX3_hedgeOrRefusal_X5_because : GoodIn wsX3_hedgeOrRefusal (wsV RX3 63 RX5 yX5_because wsX5_because) := goodIn_app (goodIn_of _ (by decide +kernel)) ggX3_hedgeOrRefusal_X5_because
set_option maxRecDepth 20000 in
theorem ggX3_hedgeOrRefusal_X4_hedgeBetween : GoodIn wsX3_hedgeOrRefusal wsX4_hedgeBetween := goodIn_ca (goodIn_r _ [20, 21, 22, 4, 23, 24, 3, 5, 25, 26] rfl (by decide +kernel)) (goodIn_sub (fun _ h => List.mem_cons_of_mem _ (List.mem_append_right _ h)) (by decide +kernel))
set_option maxRecDepth 20000 in
theorem gX3_hedgeOrRefusal_X4_hedgeBetween : GoodIn wsX3_hedgeOrRefusal (va_wsS RX3 90 yX4_hedgeBetween wsX4_hedgeBetween) := goodIn_app (goodIn_of _ (by decide +kernel)) ggX3_hedgeOrRefusal_X4_hedgeBetween
set_option maxRecDepth 20000 in
theorem ggX3_passSummer_X4_gaps : GoodIn wsX3_passSummer wsX4_gaps := goodIn_ca (goodIn_r _ [6, 7, 8, 9, 5, 10, 11, 12, 13, 14, 15, 36] rfl (by decide +kernel)) (goodIn_sub (fun _ h => List.mem_cons_of_mem _ (List.mem_append_right _ h)) (by decide +kernel))
set_option maxRecDepth 20000 in
theorem gX3_passSummer_X4_gaps : GoodIn wsX3_passSummer (wsV RX3 98 RX4 yX4_gaps wsX4_gaps) := goodIn_app (goodIn_of _ (by decide +kernel)) ggX3_passSummer_X4_gaps
set_option maxRecDepth 20000 in
theorem ggX3_passSummer_X4_grow : GoodIn wsX3_passSummer wsX4_grow := goodIn_ca (goodIn_r _ [19, 15, 20, 21, 22, 23, 36] rfl (by decide +kernel)) (goodIn_sub (fun _ h => List.mem_cons_of_mem _ (List.mem_append_right _ h)) (by decide +kernel))
set_option maxRecDepth 20000 in
theorem gX3_passSummer_X4_grow : GoodIn wsX3_passSummer (wsV RX3 101 RX4 yX4_grow wsX4_grow) := goodIn_app (goodIn_of _ (by decide +kernel)) ggX3_passSummer_X4_grow
set_option maxRecDepth 20000 in
theorem ggX3_trimHedge_X6_findGardener : GoodIn wsX3_trimHedge wsX6_findGardener := goodIn_r _ [7, 8, 9, 52, 53, 54, 55, 56, 57, 58, 59, 60] rfl (by decide +kernel)
set_option maxRecDepth 20000 in
theorem gX3_trimHedge_X6_findGardener : GoodIn wsX3_trimHedge (wsV RX3 108 RX6 yX6_findGardener wsX6_findGardener) := goodIn_app (goodIn_of _ (by decide +kernel)) ggX3_trimHedge_X6_findGardener
set_option maxRecDepth 20000 in
theorem ggX3_trimHedge_X5_because : GoodIn wsX3_trimHedge wsX5_because := goodIn_r _ [14, 15, 16, 17, 65, 66, 67] rfl (by decide +kernel)
set_option maxRecDepth 20000 in
theorem gX3_trimHedge_X5_because : GoodIn wsX3_trimHedge (wsV RX3 63 RX5 yX5_because wsX5_because) := goodIn_app (goodIn_of _ (by decide +kernel)) ggX3_trimHedge_X5_because
set_option maxRecDepth 20000 in
theorem ggX3_trimHedge_X3_hedgeOrRefusal : GoodIn wsX3_trimHedge wsX3_hedgeOrRefusal := goodIn_ca (goodIn_r _ [22, 2, 23, 24, 25, 26, 27, 28, 29, 30, 10, 11, 12, 13, 14, 15, 16, 17, 31, 32, 33, 34, 35, 36, 37, 38, 39, 49, 50, 51, 65, 66, 67] rfl (by decide +kernel)) (goodIn_sub (fun _ h => List.mem_cons_of_mem _ (List.mem_append_right _ h)) (by decide +kernel))
set_option maxRecDepth 20000 in
theorem gX3_trimHedge_X3_hedgeOrRefusal : GoodIn wsX3_trimHedge (wsV RX3 68 RX3 yX3_hedgeOrRefusal wsX3_hedgeOrRefusal) := goodIn_app (goodIn_of _ (by decide +kernel)) ggX3_trimHedge_X3_hedgeOrRefusal
set_option maxRecDepth 20000 in
theorem ggX3_trimHedge_X4_leavesOf : GoodIn wsX3_trimHedge wsX4_leavesOf := goodIn_ca (goodIn_r _ [43, 44, 68] rfl (by decide +kernel)) (goodIn_sub (fun _ h => List.mem_cons_of_mem _ (List.mem_append_right _ h)) (by decide +kernel))
set_option maxRecDepth 20000 in
theorem gX3_trimHedge_X4_leavesOf : GoodIn wsX3_trimHedge (wsV RX3 77 RX4 yX4_leavesOf wsX4_leavesOf) := goodIn_app (goodIn_of _ (by decide +kernel)) ggX3_trimHedge_X4_leavesOf
set_option maxRecDepth 20000 in
theorem ggX3_trimHedge_X4_putLeaves : GoodIn wsX3_trimHedge wsX4_putLeaves := goodIn_ca (goodIn_r _ [48, 44, 68] rfl (by decide +kernel)) (goodIn_sub (fun _ h => List.mem_cons_of_mem _ (List.mem_append_right _ h)) (by decide +kernel))
set_option maxRecDepth 20000 in
theorem gX3_trimHedge_X4_putLeaves : GoodIn wsX3_trimHedge (wsV RX3 82 RX4 yX4_putLeaves wsX4_putLeaves) := goodIn_app (goodIn_of _ (by decide +kernel)) ggX3_trimHedge_X4_putLeaves
set_option maxRecDepth 20000 in
theorem ggX3_placeMinotaur_X4_isCell : GoodIn wsX3_placeMinotaur wsX4_isCell := goodIn_r _ [6] rfl (by decide +kernel)
set_option maxRecDepth 20000 in
theorem gX3_placeMinotaur_X4_isCell : GoodIn wsX3_placeMinotaur (va_wsS RX3 86 yX4_isCell wsX4_isCell) := goodIn_app (goodIn_of _ (by decide +kernel)) ggX3_placeMinotaur_X4_isCell
set_option maxRecDepth 20000 in
theorem ggX3_placeMinotaur_X5_because : GoodIn wsX3_placeMinotaur wsX5_because := goodIn_r _ [11, 12, 13, 14, 57, 58, 59] rfl (by decide +kernel)
