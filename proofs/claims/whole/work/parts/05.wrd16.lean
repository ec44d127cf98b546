set_option maxRecDepth 20000 in
theorem gX9_undo_X2_takeBack : GoodIn wsX9_undo (wsV RX9 396 RX2 yX2_takeBack wsX2_takeBack) := goodIn_app (goodIn_of _ (by decide +kernel)) ggX9_undo_X2_takeBack
set_option maxRecDepth 20000 in
theorem ggX9_save_X6_copyFrom : GoodIn wsX9_save wsX6_copyFrom := goodIn_r _ [8, 9, 10, 11, 12, 13, 14, 15, 16, 17, 18, 19, 20, 21, 22, 23, 24, 25, 26, 27, 28, 29, 30, 31, 32, 33, 34, 35, 36, 37, 38, 39, 40, 41, 42, 43, 44, 45, 46, 47, 48, 49, 60, 61, 62, 63, 64, 65, 66, 67, 68, 69, 70, 71, 72, 73, 74, 75, 76, 77, 78, 79, 80, 81] rfl (by decide +kernel)
set_option maxRecDepth 20000 in
theorem gX9_save_X6_copyFrom : GoodIn wsX9_save (wsV RX9 76 RX6 yX6_copyFrom wsX6_copyFrom) := goodIn_app (goodIn_of _ (by decide +kernel)) ggX9_save_X6_copyFrom
set_option maxRecDepth 20000 in
theorem ggX9_restore_X6_copyFrom : GoodIn wsX9_restore wsX6_copyFrom := goodIn_r _ [11, 12, 13, 14, 15, 16, 17, 18, 19, 20, 21, 22, 23, 24, 25, 26, 27, 28, 29, 30, 31, 32, 33, 34, 35, 36, 37, 38, 39, 40, 41, 42, 43, 44, 45, 46, 47, 48, 49, 50, 51, 52, 69, 70, 71, 72, 73, 74, 75, 76, 77, 78, 79, 80, 81, 82, 83, 84, 85, 86, 87, 88, 89, 90] rfl (by decide +kernel)
set_option maxRecDepth 20000 in
theorem gX9_restore_X6_copyFrom : GoodIn wsX9_restore (wsV RX9 76 RX6 yX6_copyFrom wsX6_copyFrom) := goodIn_app (goodIn_of _ (by decide +kernel)) ggX9_restore_X6_copyFrom
set_option maxRecDepth 20000 in
theorem ggX9_restore_X2_forget : GoodIn wsX9_restore wsX2_forget := goodIn_r _ [57, 58, 91, 92, 93] rfl (by decide +kernel)
set_option maxRecDepth 20000 in
theorem gX9_restore_X2_forget : GoodIn wsX9_restore (wsV RX9 401 RX2 yX2_forget wsX2_forget) := goodIn_app (goodIn_of _ (by decide +kernel)) ggX9_restore_X2_forget
set_option maxRecDepth 20000 in
theorem ggX10_refuse_X10_throwing : GoodIn wsX10_refuse wsX10_throwing := goodIn_r _ [8, 9, 10, 11, 12, 13, 14, 15, 16, 17, 18, 19, 20, 21, 22, 23, 24, 25, 26, 27, 28, 29, 30] rfl (by decide +kernel)
set_option maxRecDepth 20000 in
theorem gX10_refuse_X10_throwing : GoodIn wsX10_refuse (wsV RX10 50 RX10 yX10_throwing wsX10_throwing) := goodIn_app (goodIn_of _ (by decide +kernel)) ggX10_refuse_X10_throwing
set_option maxRecDepth 20000 in
theorem ggX10_isCell_X10_in : GoodIn wsX10_isCell wsX10_in := goodIn_r _ [5] rfl (by decide +kernel)
set_option maxRecDepth 20000 in
theorem gX10_isCell_X10_in : GoodIn wsX10_isCell (va_wsS RX10 59 yX10_in wsX10_in) := goodIn_app (goodIn_of _ (by decide +kernel)) ggX10_isCell_X10_in
set_option maxRecDepth 20000 in
theorem ggX10_nextTo_X10_in : GoodIn wsX10_nextTo wsX10_in := goodIn_r _ [5] rfl (by decide +kernel)
set_option maxRecDepth 20000 in
theorem gX10_nextTo_X10_in : GoodIn wsX10_nextTo (va_wsS RX10 59 yX10_in wsX10_in) := goodIn_app (goodIn_of _ (by decide +kernel)) ggX10_nextTo_X10_in
set_option maxRecDepth 20000 in
theorem ggX10_isGardener_X10_in : GoodIn wsX10_isGardener wsX10_in := goodIn_r _ [5] rfl (by decide +kernel)
set_option maxRecDepth 20000 in
theorem gX10_isGardener_X10_in : GoodIn wsX10_isGardener (va_wsS RX10 59 yX10_in wsX10_in) := goodIn_app (goodIn_of _ (by decide +kernel)) ggX10_isGardener_X10_in
set_option maxRecDepth 20000 in
theorem ggX10_isVisitor_X10_in : GoodIn wsX10_isVisitor wsX10_in := goodIn_r _ [5] rfl (by decide +kernel)
set_option maxRecDepth 20000 in
theorem gX10_isVisitor_X10_in : GoodIn wsX10_isVisitor (va_wsS RX10 59 yX10_in wsX10_in) := goodIn_app (goodIn_of _ (by decide +kernel)) ggX10_isVisitor_X10_in
set_option maxRecDepth 20000 in
theorem ggX10_laysWays_X10_nextTo : GoodIn wsX10_laysWays wsX10_nextTo := goodIn_r _ [9, 10, 11, 12, 8, 13] rfl (by decide +kernel)
set_option maxRecDepth 20000 in
theorem gX10_laysWays_X10_nextTo : GoodIn wsX10_laysWays (va_wsS RX10 74 yX10_nextTo wsX10_nextTo) := goodIn_app (goodIn_of _ (by decide +kernel)) ggX10_laysWays_X10_nextTo
set_option maxRecDepth 20000 in
theorem ggX10_laysWays_X10_hedgeAt : GoodIn wsX10_laysWays wsX10_hedgeAt := goodIn_r _ [16, 2, 3, 4, 5, 17, 18, 19] rfl (by decide +kernel)
set_option maxRecDepth 20000 in
theorem gX10_laysWays_X10_hedgeAt : GoodIn wsX10_laysWays (va_wsS RX10 77 yX10_hedgeAt wsX10_hedgeAt) := goodIn_app (goodIn_of _ (by decide +kernel)) ggX10_laysWays_X10_hedgeAt
set_option maxRecDepth 20000 in
theorem ggX10_laysWays_X10_isGapAt : GoodIn wsX10_laysWays wsX10_isGapAt := goodIn_ca (goodIn_r _ [23, 24, 25, 26, 27, 28, 29, 30, 31, 32, 33, 34, 35, 36, 37, 38, 39, 40, 41, 42, 43, 44, 45] rfl (by decide +kernel)) (goodIn_sub (fun _ h => List.mem_cons_of_mem _ (List.mem_append_right _ h)) (by decide +kernel))
set_option maxRecDepth 20000 in
theorem gX10_laysWays_X10_isGapAt : GoodIn wsX10_laysWays (wsV RX10 80 RX10 yX10_isGapAt wsX10_isGapAt) := goodIn_app (goodIn_of _ (by decide +kernel)) ggX10_laysWays_X10_isGapAt
set_option maxRecDepth 20000 in
theorem ggX10_hoursOf_X10_laysWays : GoodIn wsX10_hoursOf wsX10_laysWays := goodIn_ca (goodIn_r _ [6, 1, 7, 8, 9, 10, 11, 12, 5, 13, 14, 15, 16, 17, 18, 19, 20, 21, 22, 23, 24, 25, 26, 27, 28, 29, 30, 31, 32, 33, 34, 35, 36, 37, 38, 39, 40, 41, 42, 43, 44, 45, 46, 47, 48, 49] rfl (by decide +kernel)) (goodIn_sub (fun _ h => List.mem_cons_of_mem _ (List.mem_append_right _ h)) (by decide +kernel))
set_option maxRecDepth 20000 in
theorem gX10_hoursOf_X10_laysWays : GoodIn wsX10_hoursOf (wsV RX10 84 RX10 yX10_laysWays wsX10_laysWays) := goodIn_app (goodIn_of _ (by decide +kernel)) ggX10_hoursOf_X10_laysWays
set_option maxRecDepth 20000 in
theorem ggX10_reachedFrom_X10_laysWays : GoodIn wsX10_reachedFrom wsX10_laysWays := goodIn_ca (goodIn_r _ [6, 1, 7, 8, 9, 10, 11, 12, 5, 13, 14, 15, 16, 17, 18, 19, 20, 21, 22, 23, 24, 25, 26, 27, 28, 29, 30, 31, 32, 33, 34, 35, 36, 37, 38, 39, 40, 41, 42, 43, 44, 45, 46, 47, 48, 49] rfl (by decide +kernel)) (goodIn_sub (fun _ h => List.mem_cons_of_mem _ (List.mem_append_right _ h)) (by decide +kernel))
set_option maxRecDepth 20000 in
theorem gX10_reachedFrom_X10_laysWays : GoodIn wsX10_reachedFrom (wsV RX10 84 RX10 yX10_laysWays wsX10_laysWays) := goodIn_app (goodIn_of _ (by decide +kernel)) ggX10_reachedFrom_X10_laysWays
set_option maxRecDepth 20000 in
theorem ggX10_gaps_X10_isGapAt : GoodIn wsX10_gaps wsX10_isGapAt := goodIn_ca (goodIn_r _ [5, 6, 7, 8, 9, 10, 11, 12, 13, 14, 15, 16, 17, 18, 19, 20, 21, 22, 23, 24, 25, 26, 27] rfl (by decide +kernel)) (goodIn_sub (fun _ h => List.mem_cons_of_mem _ (List.mem_append_right _ h)) (by decide +kernel))
set_option maxRecDepth 20000 in
theorem gX10_gaps_X10_isGapAt : GoodIn wsX10_gaps (wsV RX10 80 RX10 yX10_isGapAt wsX10_isGapAt) := goodIn_app (goodIn_of _ (by decide +kernel)) ggX10_gaps_X10_isGapAt
set_option maxRecDepth 20000 in
theorem ggX10_areNeighbours_X10_isCell : GoodIn wsX10_areNeighbours wsX10_isCell := goodIn_r _ [8, 9, 10, 11, 7, 12] rfl (by decide +kernel)
set_option maxRecDepth 20000 in
theorem gX10_areNeighbours_X10_isCell : GoodIn wsX10_areNeighbours (va_wsS RX10 88 yX10_isCell wsX10_isCell) := goodIn_app (goodIn_of _ (by decide +kernel)) ggX10_areNeighbours_X10_isCell
set_option maxRecDepth 20000 in
theorem ggX10_areNeighbours_X10_refuse : GoodIn wsX10_areNeighbours wsX10_refuse := goodIn_r _ [16, 17, 18, 19, 20, 21, 22, 7, 23, 24, 31, 32, 33, 34, 35, 36, 37, 38, 39, 40, 41, 42, 43, 44, 45, 46, 47, 48, 49, 50, 51] rfl (by decide +kernel)
set_option maxRecDepth 20000 in
theorem gX10_areNeighbours_X10_refuse : GoodIn wsX10_areNeighbours (wsV RX10 91 RX10 yX10_refuse wsX10_refuse) := goodIn_app (goodIn_of _ (by decide +kernel)) ggX10_areNeighbours_X10_refuse
set_option maxRecDepth 20000 in
theorem ggX10_areNeighbours_X10_hedgeAt : GoodIn wsX10_areNeighbours wsX10_hedgeAt := goodIn_r _ [27, 28, 29, 3, 30, 1, 2, 4] rfl (by decide +kernel)
set_option maxRecDepth 20000 in
theorem gX10_areNeighbours_X10_hedgeAt : GoodIn wsX10_areNeighbours (va_wsS RX10 77 yX10_hedgeAt wsX10_hedgeAt) := goodIn_app (goodIn_of _ (by decide +kernel)) ggX10_areNeighbours_X10_hedgeAt
