set_option maxRecDepth 20000 in
theorem gX3_placeMinotaur_X5_because : GoodIn wsX3_placeMinotaur (wsV RX3 63 RX5 yX5_because wsX5_because) := goodIn_app (goodIn_of _ (by decide +kernel)) ggX3_placeMinotaur_X5_because
set_option maxRecDepth 20000 in
theorem ggX3_placeMinotaur_X3_meetIfThere : GoodIn wsX3_placeMinotaur wsX3_meetIfThere := goodIn_r _ [19, 2, 20, 21, 22, 23, 24, 25, 26, 27, 28, 29, 30, 31, 32, 33, 34, 35, 36, 45, 46, 47, 48, 49, 50, 51, 52, 53, 54, 55, 56, 60, 61, 62, 63, 64, 65, 66, 67] rfl (by decide +kernel)
set_option maxRecDepth 20000 in
theorem gX3_placeMinotaur_X3_meetIfThere : GoodIn wsX3_placeMinotaur (wsV RX3 136 RX3 yX3_meetIfThere wsX3_meetIfThere) := goodIn_app (goodIn_of _ (by decide +kernel)) ggX3_placeMinotaur_X3_meetIfThere
set_option maxRecDepth 20000 in
theorem ggX3_placeMinotaur_X6_visitorsIn : GoodIn wsX3_placeMinotaur wsX6_visitorsIn := goodIn_r _ [41, 42, 43, 44, 21, 22, 23, 24, 25, 26, 48, 49, 50, 51, 52, 53, 54, 55, 56, 60, 61, 62, 63, 64, 65, 66, 67] rfl (by decide +kernel)
set_option maxRecDepth 20000 in
theorem gX3_placeMinotaur_X6_visitorsIn : GoodIn wsX3_placeMinotaur (wsV RX3 140 RX6 yX6_visitorsIn wsX6_visitorsIn) := goodIn_app (goodIn_of _ (by decide +kernel)) ggX3_placeMinotaur_X6_visitorsIn
set_option maxRecDepth 20000 in
theorem ggX3_meetIfThere_X7_isIn : GoodIn wsX3_meetIfThere wsX7_isIn := goodIn_r _ [6, 7, 8, 31, 32, 33, 34, 35, 36, 37, 38] rfl (by decide +kernel)
set_option maxRecDepth 20000 in
theorem gX3_meetIfThere_X7_isIn : GoodIn wsX3_meetIfThere (wsV RX3 143 RX7 yX7_isIn wsX7_isIn) := goodIn_app (goodIn_of _ (by decide +kernel)) ggX3_meetIfThere_X7_isIn
set_option maxRecDepth 20000 in
theorem ggX3_meetIfThere_X7_meetMinotaur : GoodIn wsX3_meetIfThere wsX7_meetMinotaur := goodIn_r _ [12, 13, 14, 15, 16, 5, 17, 18, 31, 32, 33, 34, 35, 36, 37, 38] rfl (by decide +kernel)
set_option maxRecDepth 20000 in
theorem gX3_meetIfThere_X7_meetMinotaur : GoodIn wsX3_meetIfThere (wsV RX3 148 RX7 yX7_meetMinotaur wsX7_meetMinotaur) := goodIn_app (goodIn_of _ (by decide +kernel)) ggX3_meetIfThere_X7_meetMinotaur
set_option maxRecDepth 20000 in
theorem ggX3_admitGardener_X5_because : GoodIn wsX3_admitGardener wsX5_because := goodIn_r _ [7, 8, 9, 10, 32, 33, 34] rfl (by decide +kernel)
set_option maxRecDepth 20000 in
theorem gX3_admitGardener_X5_because : GoodIn wsX3_admitGardener (wsV RX3 63 RX5 yX5_because wsX5_because) := goodIn_app (goodIn_of _ (by decide +kernel)) ggX3_admitGardener_X5_because
set_option maxRecDepth 20000 in
theorem ggX3_admitGardener_X1_arrive : GoodIn wsX3_admitGardener wsX1_arrive := goodIn_r _ [15, 16, 17, 18, 19, 35, 36, 37, 38] rfl (by decide +kernel)
set_option maxRecDepth 20000 in
theorem gX3_admitGardener_X1_arrive : GoodIn wsX3_admitGardener (wsV RX3 155 RX1 yX1_arrive wsX1_arrive) := goodIn_app (goodIn_of _ (by decide +kernel)) ggX3_admitGardener_X1_arrive
set_option maxRecDepth 20000 in
theorem ggX3_admitVisitor_X5_because : GoodIn wsX3_admitVisitor wsX5_because := goodIn_r _ [8, 9, 10, 11, 102, 103, 104] rfl (by decide +kernel)
set_option maxRecDepth 20000 in
theorem gX3_admitVisitor_X5_because : GoodIn wsX3_admitVisitor (wsV RX3 63 RX5 yX5_because wsX5_because) := goodIn_app (goodIn_of _ (by decide +kernel)) ggX3_admitVisitor_X5_because
set_option maxRecDepth 20000 in
theorem ggX3_admitVisitor_X8_hoursByDistance : GoodIn wsX3_admitVisitor wsX8_hoursByDistance := goodIn_ca (goodIn_r _ [16, 17, 18, 19, 15, 20, 21, 22, 23, 24, 25, 26, 27, 28, 29, 30, 31, 32, 33, 34, 35, 36, 37, 38, 39, 40, 41, 42, 43, 44, 45, 46, 47, 48, 49, 50, 51, 52, 53, 105, 106, 107, 108] rfl (by decide +kernel)) (goodIn_sub (fun _ h => List.mem_cons_of_mem _ (List.mem_append_right _ h)) (by decide +kernel))
set_option maxRecDepth 20000 in
theorem gX3_admitVisitor_X8_hoursByDistance : GoodIn wsX3_admitVisitor (wsV RX3 162 RX8 yX8_hoursByDistance wsX8_hoursByDistance) := goodIn_app (goodIn_of _ (by decide +kernel)) ggX3_admitVisitor_X8_hoursByDistance
set_option maxRecDepth 20000 in
theorem ggX3_admitVisitor_X8_cellsReached : GoodIn wsX3_admitVisitor wsX8_cellsReached := goodIn_ca (goodIn_r _ [57, 58, 59, 60, 15, 61, 22, 62, 46, 47, 34, 48, 49, 63, 64, 65, 105, 106, 107, 108] rfl (by decide +kernel)) (goodIn_sub (fun _ h => List.mem_cons_of_mem _ (List.mem_append_right _ h)) (by decide +kernel))
set_option maxRecDepth 20000 in
theorem gX3_admitVisitor_X8_cellsReached : GoodIn wsX3_admitVisitor (wsV RX3 167 RX8 yX8_cellsReached wsX8_cellsReached) := goodIn_app (goodIn_of _ (by decide +kernel)) ggX3_admitVisitor_X8_cellsReached
set_option maxRecDepth 20000 in
theorem ggX3_admitVisitor_J6_bitCount_0f7a4 : GoodIn wsX3_admitVisitor wsJ6_bitCount_0f7a4 := goodIn_r _ [69, 70, 71, 72] rfl (by decide +kernel)
set_option maxRecDepth 20000 in
theorem gX3_admitVisitor_J6_bitCount_0f7a4 : GoodIn wsX3_admitVisitor (va_wsS RX3 170 yJ6_bitCount_0f7a4 wsJ6_bitCount_0f7a4) := goodIn_app (goodIn_of _ (by decide +kernel)) ggX3_admitVisitor_J6_bitCount_0f7a4
set_option maxRecDepth 20000 in
theorem ggX3_admitVisitor_X7_arrive : GoodIn wsX3_admitVisitor wsX7_arrive := goodIn_r _ [77, 78, 79, 80, 81, 82, 83, 84, 85, 76, 86, 87, 88, 89, 109, 110, 111, 112, 113, 114, 115, 116] rfl (by decide +kernel)
set_option maxRecDepth 20000 in
theorem gX3_admitVisitor_X7_arrive : GoodIn wsX3_admitVisitor (wsV RX3 175 RX7 yX7_arrive wsX7_arrive) := goodIn_app (goodIn_of _ (by decide +kernel)) ggX3_admitVisitor_X7_arrive
set_option maxRecDepth 20000 in
theorem ggX3_giveBond_X6_findGardener : GoodIn wsX3_giveBond wsX6_findGardener := goodIn_r _ [7, 8, 9, 45, 46, 47, 48, 49, 50, 51, 52, 53] rfl (by decide +kernel)
set_option maxRecDepth 20000 in
theorem gX3_giveBond_X6_findGardener : GoodIn wsX3_giveBond (wsV RX3 108 RX6 yX6_findGardener wsX6_findGardener) := goodIn_app (goodIn_of _ (by decide +kernel)) ggX3_giveBond_X6_findGardener
set_option maxRecDepth 20000 in
theorem ggX3_giveBond_X5_because : GoodIn wsX3_giveBond wsX5_because := goodIn_r _ [14, 15, 16, 17, 66, 67, 68] rfl (by decide +kernel)
set_option maxRecDepth 20000 in
theorem gX3_giveBond_X5_because : GoodIn wsX3_giveBond (wsV RX3 63 RX5 yX5_because wsX5_because) := goodIn_app (goodIn_of _ (by decide +kernel)) ggX3_giveBond_X5_because
set_option maxRecDepth 20000 in
theorem ggX3_giveBond_X6_findVisitor : GoodIn wsX3_giveBond wsX6_findVisitor := goodIn_r _ [21, 22, 23, 45, 46, 47, 48, 49, 50, 51, 52, 53] rfl (by decide +kernel)
set_option maxRecDepth 20000 in
theorem gX3_giveBond_X6_findVisitor : GoodIn wsX3_giveBond (wsV RX3 177 RX6 yX6_findVisitor wsX6_findVisitor) := goodIn_app (goodIn_of _ (by decide +kernel)) ggX3_giveBond_X6_findVisitor
set_option maxRecDepth 20000 in
theorem ggX3_giveBond_X7_hasBond : GoodIn wsX3_giveBond wsX7_hasBond := goodIn_r _ [28, 29, 54, 55, 56, 57, 58, 59, 60, 61] rfl (by decide +kernel)
set_option maxRecDepth 20000 in
theorem gX3_giveBond_X7_hasBond : GoodIn wsX3_giveBond (wsV RX3 188 RX7 yX7_hasBond wsX7_hasBond) := goodIn_app (goodIn_of _ (by decide +kernel)) ggX3_giveBond_X7_hasBond
set_option maxRecDepth 20000 in
theorem ggX3_giveBond_X7_isIn : GoodIn wsX3_giveBond wsX7_isIn := goodIn_r _ [33, 34, 35, 54, 55, 56, 57, 58, 59, 60, 61] rfl (by decide +kernel)
set_option maxRecDepth 20000 in
theorem gX3_giveBond_X7_isIn : GoodIn wsX3_giveBond (wsV RX3 143 RX7 yX7_isIn wsX7_isIn) := goodIn_app (goodIn_of _ (by decide +kernel)) ggX3_giveBond_X7_isIn
set_option maxRecDepth 20000 in
theorem ggX3_giveBond_X7_takeBond : GoodIn wsX3_giveBond wsX7_takeBond := goodIn_r _ [39, 29, 40, 41, 54, 55, 56, 57, 58, 59, 60, 61] rfl (by decide +kernel)
set_option maxRecDepth 20000 in
theorem gX3_giveBond_X7_takeBond : GoodIn wsX3_giveBond (wsV RX3 196 RX7 yX7_takeBond wsX7_takeBond) := goodIn_app (goodIn_of _ (by decide +kernel)) ggX3_giveBond_X7_takeBond
set_option maxRecDepth 20000 in
theorem ggX3_moveVisitor_X6_findVisitor : GoodIn wsX3_moveVisitor wsX6_findVisitor := goodIn_r _ [7, 8, 9, 96, 97, 98, 99, 100, 101, 102, 103, 104] rfl (by decide +kernel)
