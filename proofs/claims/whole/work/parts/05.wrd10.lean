set_option maxRecDepth 20000 in
theorem gX9_bond_X9_settled : GoodIn wsX9_bond (wsV RX9 84 RX9 yX9_settled wsX9_settled) := goodIn_app (goodIn_of _ (by decide +kernel)) ggX9_bond_X9_settled
set_option maxRecDepth 20000 in
theorem ggX9_walk_X6_copyFrom : GoodIn wsX9_walk wsX6_copyFrom := goodIn_r _ [8, 9, 10, 11, 12, 13, 14, 15, 16, 17, 18, 19, 20, 21, 22, 23, 24, 25, 26, 27, 28, 29, 30, 31, 32, 33, 34, 35, 36, 37, 38, 39, 40, 41, 42, 43, 44, 45, 46, 47, 48, 49, 159, 160, 161, 162, 163, 164, 165, 166, 167, 168, 169, 170, 171, 172, 173, 174, 175, 176, 177, 178, 179, 180] rfl (by decide +kernel)
set_option maxRecDepth 20000 in
theorem gX9_walk_X6_copyFrom : GoodIn wsX9_walk (wsV RX9 76 RX6 yX6_copyFrom wsX6_copyFrom) := goodIn_app (goodIn_of _ (by decide +kernel)) ggX9_walk_X6_copyFrom
set_option maxRecDepth 20000 in
theorem ggX9_walk_X3_moveVisitor : GoodIn wsX9_walk wsX3_moveVisitor := goodIn_ca (goodIn_r _ [54, 55, 56, 57, 58, 59, 7, 60, 13, 11, 61, 62, 63, 64, 65, 66, 67, 68, 69, 70, 21, 71, 72, 73, 74, 75, 76, 77, 78, 79, 80, 81, 82, 83, 84, 85, 86, 87, 88, 89, 90, 91, 23, 92, 93, 94, 95, 53, 96, 97, 98, 99, 40, 100, 49, 43, 101, 102, 103, 104, 48, 105, 106, 107, 108, 46, 109, 110, 111, 112, 113, 114, 115, 116, 117, 12, 10, 118, 119, 120, 121, 47, 122, 123, 124, 125, 44, 45, 126, 127, 128, 129, 130, 181, 182, 183, 159, 160, 161, 162, 163, 164, 165, 166, 167, 173, 174, 175, 176, 177, 178, 179, 180, 184, 185, 186, 168, 169, 170, 171, 172] rfl (by decide +kernel)) (goodIn_sub (fun _ h => List.mem_cons_of_mem _ (List.mem_append_left _ (List.mem_append_right _ h))) (by decide +kernel))
set_option maxRecDepth 20000 in
theorem gX9_walk_X3_moveVisitor : GoodIn wsX9_walk (wsV RX9 107 RX3 yX3_moveVisitor wsX3_moveVisitor) := goodIn_app (goodIn_of _ (by decide +kernel)) ggX9_walk_X3_moveVisitor
set_option maxRecDepth 20000 in
theorem ggX9_walk_X9_settled : GoodIn wsX9_walk wsX9_settled := goodIn_ca (goodIn_r _ [135, 136, 137, 138, 1, 139, 140, 141, 142, 143, 144, 145, 146, 147, 76, 77, 78, 148, 5, 6, 7, 8, 9, 10, 11, 12, 13, 14, 15, 16, 17, 18, 19, 20, 21, 22, 23, 24, 25, 26, 27, 28, 29, 30, 31, 32, 33, 34, 35, 36, 37, 38, 39, 40, 41, 42, 43, 44, 45, 46, 47, 48, 49, 149, 150, 151, 152, 153, 154, 155, 156, 157, 158, 187, 188, 189, 159, 160, 161, 162, 163, 164, 165, 166, 167, 168, 169, 170, 171, 172, 173, 174, 175, 176, 177, 178, 179, 180] rfl (by decide +kernel)) (goodIn_sub (fun _ h => List.mem_cons_of_mem _ (List.mem_append_right _ h)) (by decide +kernel))
set_option maxRecDepth 20000 in
theorem gX9_walk_X9_settled : GoodIn wsX9_walk (wsV RX9 84 RX9 yX9_settled wsX9_settled) := goodIn_app (goodIn_of _ (by decide +kernel)) ggX9_walk_X9_settled
set_option maxRecDepth 20000 in
theorem ggX9_rest_X6_copyFrom : GoodIn wsX9_rest wsX6_copyFrom := goodIn_r _ [8, 9, 10, 11, 12, 13, 14, 15, 16, 17, 18, 19, 20, 21, 22, 23, 24, 25, 26, 27, 28, 29, 30, 31, 32, 33, 34, 35, 36, 37, 38, 39, 40, 41, 42, 43, 44, 45, 46, 47, 48, 49, 100, 101, 102, 103, 104, 105, 106, 107, 108, 109, 110, 111, 112, 113, 114, 115, 116, 117, 118, 119, 120, 121] rfl (by decide +kernel)
set_option maxRecDepth 20000 in
theorem gX9_rest_X6_copyFrom : GoodIn wsX9_rest (wsV RX9 76 RX6 yX6_copyFrom wsX6_copyFrom) := goodIn_app (goodIn_of _ (by decide +kernel)) ggX9_rest_X6_copyFrom
set_option maxRecDepth 20000 in
theorem ggX9_rest_X3_restVisitor : GoodIn wsX9_rest wsX3_restVisitor := goodIn_r _ [54, 55, 56, 57, 58, 59, 7, 60, 13, 11, 61, 62, 63, 64, 65, 66, 67, 68, 122, 123, 124, 100, 101, 102, 103, 104, 105, 106, 107, 108, 114, 115, 116, 117, 118, 119, 120, 121, 125, 126, 127] rfl (by decide +kernel)
set_option maxRecDepth 20000 in
theorem gX9_rest_X3_restVisitor : GoodIn wsX9_rest (wsV RX9 111 RX3 yX3_restVisitor wsX3_restVisitor) := goodIn_app (goodIn_of _ (by decide +kernel)) ggX9_rest_X3_restVisitor
set_option maxRecDepth 20000 in
theorem ggX9_rest_X9_settled : GoodIn wsX9_rest wsX9_settled := goodIn_ca (goodIn_r _ [73, 74, 75, 76, 1, 77, 78, 79, 80, 81, 82, 83, 84, 85, 86, 87, 88, 89, 5, 6, 7, 8, 9, 10, 11, 12, 13, 14, 15, 16, 17, 18, 19, 20, 21, 22, 23, 24, 25, 26, 27, 28, 29, 30, 31, 32, 33, 34, 35, 36, 37, 38, 39, 40, 41, 42, 43, 44, 45, 46, 47, 48, 49, 90, 91, 92, 93, 94, 95, 96, 97, 98, 99, 128, 129, 130, 100, 101, 102, 103, 104, 105, 106, 107, 108, 109, 110, 111, 112, 113, 114, 115, 116, 117, 118, 119, 120, 121] rfl (by decide +kernel)) (goodIn_sub (fun _ h => List.mem_cons_of_mem _ (List.mem_append_right _ h)) (by decide +kernel))
set_option maxRecDepth 20000 in
theorem gX9_rest_X9_settled : GoodIn wsX9_rest (wsV RX9 84 RX9 yX9_settled wsX9_settled) := goodIn_app (goodIn_of _ (by decide +kernel)) ggX9_rest_X9_settled
set_option maxRecDepth 20000 in
theorem ggX9_settled_X2_keep : GoodIn wsX9_settled wsX2_keep := goodIn_r _ [9, 10, 11, 12, 13, 14, 15, 16, 17, 18, 19, 20, 21, 22, 23, 24, 25, 26, 27, 28, 29, 30, 31, 32, 33, 34, 35, 36, 37, 38, 39, 40, 41, 42, 43, 44, 45, 46, 47, 48, 49, 50, 51, 52, 53, 54, 55, 56, 57, 58, 59, 60, 61, 62, 73, 74, 75, 76, 77, 78, 79, 80, 81, 82, 83, 84, 85, 86, 87, 88, 89, 90, 91, 92, 93, 94, 95, 96, 97] rfl (by decide +kernel)
set_option maxRecDepth 20000 in
theorem gX9_settled_X2_keep : GoodIn wsX9_settled (wsV RX9 121 RX2 yX2_keep wsX2_keep) := goodIn_app (goodIn_of _ (by decide +kernel)) ggX9_settled_X2_keep
set_option maxRecDepth 20000 in
theorem ggX9_leaves_X9_hedgeAsked : GoodIn wsX9_leaves wsX9_hedgeAsked := goodIn_ca (goodIn_ca (goodIn_ca (goodIn_r _ [5, 6, 7, 8, 9, 4, 10, 11, 12, 13, 14, 15, 16, 17, 18, 19, 20, 21, 22, 23, 24, 25, 26, 27, 28] rfl (by decide +kernel)) (goodIn_sub (fun _ h => List.mem_cons_of_mem _ (List.mem_append_left _ (List.mem_append_left _ (List.mem_append_right _ h)))) (by decide +kernel))) (goodIn_sub (fun _ h => List.mem_cons_of_mem _ (List.mem_append_left _ (List.mem_append_right _ h))) (by decide +kernel))) (goodIn_sub (fun _ h => List.mem_cons_of_mem _ (List.mem_append_right _ h)) (by decide +kernel))
set_option maxRecDepth 20000 in
theorem gX9_leaves_X9_hedgeAsked : GoodIn wsX9_leaves (va_wsS RX9 124 yX9_hedgeAsked wsX9_hedgeAsked) := goodIn_app (goodIn_of _ (by decide +kernel)) ggX9_leaves_X9_hedgeAsked
set_option maxRecDepth 20000 in
theorem ggX9_leaves_X4_leavesOf : GoodIn wsX9_leaves wsX4_leavesOf := goodIn_ca (goodIn_r _ [32, 33, 53] rfl (by decide +kernel)) (goodIn_sub (fun _ h => List.mem_cons_of_mem _ (List.mem_append_right _ h)) (by decide +kernel))
set_option maxRecDepth 20000 in
theorem gX9_leaves_X4_leavesOf : GoodIn wsX9_leaves (wsV RX9 127 RX4 yX4_leavesOf wsX4_leavesOf) := goodIn_app (goodIn_of _ (by decide +kernel)) ggX9_leaves_X4_leavesOf
set_option maxRecDepth 20000 in
theorem ggX9_isGap_X9_demandCells : GoodIn wsX9_isGap wsX9_demandCells := goodIn_ca (goodIn_r _ [5, 6, 7, 8, 9, 10, 11] rfl (by decide +kernel)) (goodIn_sub (fun _ h => List.mem_cons_of_mem _ (List.mem_append_left _ (List.mem_append_right _ h))) (by decide +kernel))
set_option maxRecDepth 20000 in
theorem gX9_isGap_X9_demandCells : GoodIn wsX9_isGap (va_wsS RX9 132 yX9_demandCells wsX9_demandCells) := goodIn_app (goodIn_of _ (by decide +kernel)) ggX9_isGap_X9_demandCells
set_option maxRecDepth 20000 in
theorem ggX9_isGap_X4_hedgeBetween : GoodIn wsX9_isGap wsX4_hedgeBetween := goodIn_ca (goodIn_r _ [14, 15, 16, 17, 18, 19, 20, 21, 22, 23] rfl (by decide +kernel)) (goodIn_sub (fun _ h => List.mem_cons_of_mem _ (List.mem_append_right _ h)) (by decide +kernel))
set_option maxRecDepth 20000 in
theorem gX9_isGap_X4_hedgeBetween : GoodIn wsX9_isGap (va_wsS RX9 136 yX4_hedgeBetween wsX4_hedgeBetween) := goodIn_app (goodIn_of _ (by decide +kernel)) ggX9_isGap_X4_hedgeBetween
