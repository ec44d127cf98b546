set_option maxRecDepth 20000 in
theorem gX3_moveVisitor_X6_findVisitor : GoodIn wsX3_moveVisitor (wsV RX3 177 RX6 yX6_findVisitor wsX6_findVisitor) := goodIn_app (goodIn_of _ (by decide +kernel)) ggX3_moveVisitor_X6_findVisitor
set_option maxRecDepth 20000 in
theorem ggX3_moveVisitor_X5_because : GoodIn wsX3_moveVisitor wsX5_because := goodIn_r _ [14, 15, 16, 17, 113, 114, 115] rfl (by decide +kernel)
set_option maxRecDepth 20000 in
theorem gX3_moveVisitor_X5_because : GoodIn wsX3_moveVisitor (wsV RX3 63 RX5 yX5_because wsX5_because) := goodIn_app (goodIn_of _ (by decide +kernel)) ggX3_moveVisitor_X5_because
set_option maxRecDepth 20000 in
theorem ggX3_moveVisitor_X4_cellTowards : GoodIn wsX3_moveVisitor wsX4_cellTowards := goodIn_r _ [21] rfl (by decide +kernel)
set_option maxRecDepth 20000 in
theorem gX3_moveVisitor_X4_cellTowards : GoodIn wsX3_moveVisitor (va_wsS RX3 205 yX4_cellTowards wsX4_cellTowards) := goodIn_app (goodIn_of _ (by decide +kernel)) ggX3_moveVisitor_X4_cellTowards
set_option maxRecDepth 20000 in
theorem ggX3_moveVisitor_X4_hedgeBetween : GoodIn wsX3_moveVisitor wsX4_hedgeBetween := goodIn_ca (goodIn_r _ [24, 25, 26, 27, 28, 29, 30, 31, 32, 33] rfl (by decide +kernel)) (goodIn_sub (fun _ h => List.mem_cons_of_mem _ (List.mem_append_right _ h)) (by decide +kernel))
set_option maxRecDepth 20000 in
theorem gX3_moveVisitor_X4_hedgeBetween : GoodIn wsX3_moveVisitor (va_wsS RX3 90 yX4_hedgeBetween wsX4_hedgeBetween) := goodIn_app (goodIn_of _ (by decide +kernel)) ggX3_moveVisitor_X4_hedgeBetween
set_option maxRecDepth 20000 in
theorem ggX3_moveVisitor_X4_isOpen : GoodIn wsX3_moveVisitor wsX4_isOpen := goodIn_ca (goodIn_r _ [37, 38, 39, 40, 20, 41, 42, 116] rfl (by decide +kernel)) (goodIn_sub (fun _ h => List.mem_cons_of_mem _ (List.mem_append_right _ h)) (by decide +kernel))
set_option maxRecDepth 20000 in
theorem gX3_moveVisitor_X4_isOpen : GoodIn wsX3_moveVisitor (wsV RX3 208 RX4 yX4_isOpen wsX4_isOpen) := goodIn_app (goodIn_of _ (by decide +kernel)) ggX3_moveVisitor_X4_isOpen
set_option maxRecDepth 20000 in
theorem ggX3_moveVisitor_X4_leavesOf : GoodIn wsX3_moveVisitor wsX4_leavesOf := goodIn_ca (goodIn_r _ [41, 42, 116] rfl (by decide +kernel)) (goodIn_sub (fun _ h => List.mem_cons_of_mem _ (List.mem_append_right _ h)) (by decide +kernel))
set_option maxRecDepth 20000 in
theorem gX3_moveVisitor_X4_leavesOf : GoodIn wsX3_moveVisitor (wsV RX3 77 RX4 yX4_leavesOf wsX4_leavesOf) := goodIn_app (goodIn_of _ (by decide +kernel)) ggX3_moveVisitor_X4_leavesOf
set_option maxRecDepth 20000 in
theorem ggX3_moveVisitor_X3_meetIfThere : GoodIn wsX3_moveVisitor wsX3_meetIfThere := goodIn_r _ [48, 1, 49, 50, 51, 52, 53, 54, 55, 56, 57, 58, 59, 60, 61, 62, 63, 64, 65, 93, 94, 95, 96, 97, 98, 99, 100, 101, 102, 103, 104, 105, 106, 107, 108, 109, 110, 111, 112] rfl (by decide +kernel)
set_option maxRecDepth 20000 in
theorem gX3_moveVisitor_X3_meetIfThere : GoodIn wsX3_moveVisitor (wsV RX3 136 RX3 yX3_meetIfThere wsX3_meetIfThere) := goodIn_app (goodIn_of _ (by decide +kernel)) ggX3_moveVisitor_X3_meetIfThere
set_option maxRecDepth 20000 in
theorem ggX3_moveVisitor_X3_leaveMaze : GoodIn wsX3_moveVisitor wsX3_leaveMaze := goodIn_r _ [69, 1, 70, 26, 27, 28, 71, 72, 73, 6, 74, 75, 76, 77, 78, 79, 52, 80, 60, 81, 82, 83, 84, 85, 86, 87, 88, 30, 31, 89, 90, 91, 92, 65, 93, 94, 95, 105, 106, 107, 108, 109, 110, 111, 112, 117, 118, 119, 120, 96, 97, 98, 99, 100, 101, 102, 103, 104] rfl (by decide +kernel)
set_option maxRecDepth 20000 in
theorem gX3_moveVisitor_X3_leaveMaze : GoodIn wsX3_moveVisitor (wsV RX3 211 RX3 yX3_leaveMaze wsX3_leaveMaze) := goodIn_app (goodIn_of _ (by decide +kernel)) ggX3_moveVisitor_X3_leaveMaze
set_option maxRecDepth 20000 in
theorem ggX3_leaveMaze_X6_findGardener : GoodIn wsX3_leaveMaze wsX6_findGardener := goodIn_r _ [10, 11, 12, 49, 50, 51, 52, 53, 54, 55, 56, 57] rfl (by decide +kernel)
set_option maxRecDepth 20000 in
theorem gX3_leaveMaze_X6_findGardener : GoodIn wsX3_leaveMaze (wsV RX3 108 RX6 yX6_findGardener wsX6_findGardener) := goodIn_app (goodIn_of _ (by decide +kernel)) ggX3_leaveMaze_X6_findGardener
set_option maxRecDepth 20000 in
theorem ggX3_leaveMaze_X7_dueAfter : GoodIn wsX3_leaveMaze wsX7_dueAfter := goodIn_r _ [17, 18, 19, 20, 21, 22, 16, 23, 24, 25, 26, 27, 4, 28, 37, 38, 39, 40, 41, 42, 43, 44] rfl (by decide +kernel)
set_option maxRecDepth 20000 in
theorem gX3_leaveMaze_X7_dueAfter : GoodIn wsX3_leaveMaze (wsV RX3 214 RX7 yX7_dueAfter wsX7_dueAfter) := goodIn_app (goodIn_of _ (by decide +kernel)) ggX3_leaveMaze_X7_dueAfter
set_option maxRecDepth 20000 in
theorem ggX3_leaveMaze_X7_endBond : GoodIn wsX3_leaveMaze wsX7_endBond := goodIn_r _ [32, 33, 19, 18, 37, 38, 39, 40, 41, 42, 43, 44] rfl (by decide +kernel)
set_option maxRecDepth 20000 in
theorem gX3_leaveMaze_X7_endBond : GoodIn wsX3_leaveMaze (wsV RX3 223 RX7 yX7_endBond wsX7_endBond) := goodIn_app (goodIn_of _ (by decide +kernel)) ggX3_leaveMaze_X7_endBond
set_option maxRecDepth 20000 in
theorem ggX3_restVisitor_X6_findVisitor : GoodIn wsX3_restVisitor wsX6_findVisitor := goodIn_r _ [7, 8, 9, 21, 22, 23, 24, 25, 26, 27, 28, 29] rfl (by decide +kernel)
set_option maxRecDepth 20000 in
theorem gX3_restVisitor_X6_findVisitor : GoodIn wsX3_restVisitor (wsV RX3 177 RX6 yX6_findVisitor wsX6_findVisitor) := goodIn_app (goodIn_of _ (by decide +kernel)) ggX3_restVisitor_X6_findVisitor
set_option maxRecDepth 20000 in
theorem ggX3_restVisitor_X5_because : GoodIn wsX3_restVisitor wsX5_because := goodIn_r _ [14, 15, 16, 17, 38, 39, 40] rfl (by decide +kernel)
set_option maxRecDepth 20000 in
theorem gX3_restVisitor_X5_because : GoodIn wsX3_restVisitor (wsV RX3 63 RX5 yX5_because wsX5_because) := goodIn_app (goodIn_of _ (by decide +kernel)) ggX3_restVisitor_X5_because
set_option maxRecDepth 20000 in
theorem ggX4_isOpen_X4_leavesOf : GoodIn wsX4_isOpen wsX4_leavesOf := goodIn_ca (goodIn_r _ [5, 6, 7] rfl (by decide +kernel)) (goodIn_sub (fun _ h => List.mem_cons_of_mem _ (List.mem_append_right _ h)) (by decide +kernel))
set_option maxRecDepth 20000 in
theorem gX4_isOpen_X4_leavesOf : GoodIn wsX4_isOpen (wsV RX4 36 RX4 yX4_leavesOf wsX4_leavesOf) := goodIn_app (goodIn_of _ (by decide +kernel)) ggX4_isOpen_X4_leavesOf
set_option maxRecDepth 20000 in
theorem ggX4_gaps_X4_isOpen : GoodIn wsX4_gaps wsX4_isOpen := goodIn_ca (goodIn_r _ [5, 6, 7, 8, 4, 9, 10, 11] rfl (by decide +kernel)) (goodIn_sub (fun _ h => List.mem_cons_of_mem _ (List.mem_append_right _ h)) (by decide +kernel))
set_option maxRecDepth 20000 in
theorem gX4_gaps_X4_isOpen : GoodIn wsX4_gaps (wsV RX4 40 RX4 yX4_isOpen wsX4_isOpen) := goodIn_app (goodIn_of _ (by decide +kernel)) ggX4_gaps_X4_isOpen
set_option maxRecDepth 20000 in
theorem ggX6_init_X4_init : GoodIn wsX6_init wsX4_init := goodIn_r _ [19, 20, 2, 3, 21, 22, 31] rfl (by decide +kernel)
set_option maxRecDepth 20000 in
theorem gX6_init_X4_init : GoodIn wsX6_init (wsX4_init) := ggX6_init_X4_init
set_option maxRecDepth 20000 in
theorem ggX6_init_X1_init : GoodIn wsX6_init wsX1_init := goodIn_r _ [24, 25, 2, 3] rfl (by decide +kernel)
set_option maxRecDepth 20000 in
theorem gX6_init_X1_init_n28 : GoodIn wsX6_init (wsX1_init) := ggX6_init_X1_init
set_option maxRecDepth 20000 in
theorem ggX6_init_X7_init : GoodIn wsX6_init wsX7_init := goodIn_r _ [28, 29, 2, 3, 30, 45, 46, 47, 48, 49, 50, 51, 52] rfl (by decide +kernel)
set_option maxRecDepth 20000 in
theorem gX6_init_X7_init : GoodIn wsX6_init (wsX7_init) := ggX6_init_X7_init
set_option maxRecDepth 20000 in
theorem ggX6_copyFrom_X4_copyFrom : GoodIn wsX6_copyFrom wsX4_copyFrom := goodIn_r _ [14, 15, 16, 17, 18, 19, 51] rfl (by decide +kernel)
set_option maxRecDepth 20000 in
theorem gX6_copyFrom_X4_copyFrom : GoodIn wsX6_copyFrom (wsV RX6 36 RX4 yX4_copyFrom wsX4_copyFrom) := goodIn_app (goodIn_of _ (by decide +kernel)) ggX6_copyFrom_X4_copyFrom
set_option maxRecDepth 20000 in
theorem ggX6_copyFrom_X1_copyFrom : GoodIn wsX6_copyFrom wsX1_copyFrom := goodIn_r _ [24, 25, 26, 27, 28, 52, 53, 54, 55] rfl (by decide +kernel)
