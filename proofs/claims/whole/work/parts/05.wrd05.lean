set_option maxRecDepth 20000 in
theorem gX6_copyFrom_X1_copyFrom : GoodIn wsX6_copyFrom (wsV RX6 40 RX1 yX1_copyFrom wsX1_copyFrom) := goodIn_app (goodIn_of _ (by decide +kernel)) ggX6_copyFrom_X1_copyFrom
set_option maxRecDepth 20000 in
theorem ggX6_copyFrom_X7_copyFrom : GoodIn wsX6_copyFrom wsX7_copyFrom := goodIn_r _ [33, 34, 35, 36, 37, 38, 39, 40, 41, 56, 57, 58, 59, 60, 61, 62, 63] rfl (by decide +kernel)
set_option maxRecDepth 20000 in
theorem gX6_copyFrom_X7_copyFrom : GoodIn wsX6_copyFrom (wsV RX6 43 RX7 yX7_copyFrom wsX7_copyFrom) := goodIn_app (goodIn_of _ (by decide +kernel)) ggX6_copyFrom_X7_copyFrom
set_option maxRecDepth 20000 in
theorem ggX6_bonds_X6_bondsOf : GoodIn wsX6_bonds wsX6_bondsOf := goodIn_r _ [6, 1, 7, 8, 9, 10, 11, 12, 13, 14, 15, 16, 17, 18, 19, 20, 21, 22, 23, 24] rfl (by decide +kernel)
set_option maxRecDepth 20000 in
theorem gX6_bonds_X6_bondsOf : GoodIn wsX6_bonds (wsV RX6 64 RX6 yX6_bondsOf wsX6_bondsOf) := goodIn_app (goodIn_of _ (by decide +kernel)) ggX6_bonds_X6_bondsOf
set_option maxRecDepth 20000 in
theorem ggX6_debtOf_X7_dueAfter : GoodIn wsX6_debtOf wsX7_dueAfter := goodIn_r _ [7, 8, 9, 10, 11, 12, 6, 13, 14, 15, 16, 17, 18, 19, 29, 30, 31, 32, 33, 34, 35, 36] rfl (by decide +kernel)
set_option maxRecDepth 20000 in
theorem gX6_debtOf_X7_dueAfter : GoodIn wsX6_debtOf (wsV RX6 68 RX7 yX7_dueAfter wsX7_dueAfter) := goodIn_app (goodIn_of _ (by decide +kernel)) ggX6_debtOf_X7_dueAfter
set_option maxRecDepth 20000 in
theorem ggX6_visitorsIn_X7_isIn : GoodIn wsX6_visitorsIn wsX7_isIn := goodIn_r _ [7, 8, 9, 19, 20, 21, 22, 23, 24, 25, 26] rfl (by decide +kernel)
set_option maxRecDepth 20000 in
theorem gX6_visitorsIn_X7_isIn : GoodIn wsX6_visitorsIn (wsV RX6 71 RX7 yX7_isIn wsX7_isIn) := goodIn_app (goodIn_of _ (by decide +kernel)) ggX6_visitorsIn_X7_isIn
set_option maxRecDepth 20000 in
theorem ggX6_totalOf_X7_numberFor : GoodIn wsX6_totalOf wsX7_numberFor := goodIn_r _ [7, 8, 9, 10, 11, 12, 13, 14, 15, 16, 17, 18, 6, 19, 20, 21, 22, 23, 33, 34, 35, 36, 37, 38, 39, 40] rfl (by decide +kernel)
set_option maxRecDepth 20000 in
theorem gX6_totalOf_X7_numberFor : GoodIn wsX6_totalOf (wsV RX6 75 RX7 yX7_numberFor wsX7_numberFor) := goodIn_app (goodIn_of _ (by decide +kernel)) ggX6_totalOf_X7_numberFor
set_option maxRecDepth 20000 in
theorem ggX6_coinsOfAll_X6_totalOf : GoodIn wsX6_coinsOfAll wsX6_totalOf := goodIn_r _ [7, 8, 9, 10, 11, 12, 13, 14, 15, 16, 17, 18, 19, 20, 21, 22, 23, 24, 25, 26, 27, 28, 29, 30, 31, 32, 33, 34, 35, 36, 37, 38, 39, 44, 45, 46, 47, 48, 49, 50, 51] rfl (by decide +kernel)
set_option maxRecDepth 20000 in
theorem gX6_coinsOfAll_X6_totalOf : GoodIn wsX6_coinsOfAll (wsV RX6 78 RX6 yX6_totalOf wsX6_totalOf) := goodIn_app (goodIn_of _ (by decide +kernel)) ggX6_coinsOfAll_X6_totalOf
set_option maxRecDepth 20000 in
theorem ggX6_visitorsAhead_X6_findVisitor : GoodIn wsX6_visitorsAhead wsX6_findVisitor := goodIn_r _ [7, 1, 2, 29, 30, 31, 32, 33, 34, 35, 36, 37] rfl (by decide +kernel)
set_option maxRecDepth 20000 in
theorem gX6_visitorsAhead_X6_findVisitor : GoodIn wsX6_visitorsAhead (wsV RX6 84 RX6 yX6_findVisitor wsX6_findVisitor) := goodIn_app (goodIn_of _ (by decide +kernel)) ggX6_visitorsAhead_X6_findVisitor
set_option maxRecDepth 20000 in
theorem ggX6_visitorsAhead_X7_numberFor : GoodIn wsX6_visitorsAhead wsX7_numberFor := goodIn_r _ [12, 13, 14, 15, 16, 17, 18, 19, 20, 21, 22, 23, 11, 24, 25, 26, 27, 28, 38, 39, 40, 41, 42, 43, 44, 45] rfl (by decide +kernel)
set_option maxRecDepth 20000 in
theorem gX6_visitorsAhead_X7_numberFor : GoodIn wsX6_visitorsAhead (wsV RX6 75 RX7 yX7_numberFor wsX7_numberFor) := goodIn_app (goodIn_of _ (by decide +kernel)) ggX6_visitorsAhead_X7_numberFor
set_option maxRecDepth 20000 in
theorem ggX6_gardenersAhead_X6_isRicher : GoodIn wsX6_gardenersAhead wsX6_isRicher := goodIn_r _ [6, 7, 8, 9, 5, 10, 1, 11, 12, 13, 14, 15, 16, 17, 18, 19, 20, 21, 22, 23, 24, 25, 26, 27, 28, 29, 30, 31, 32, 33, 34, 44, 45, 46, 47, 35, 36, 37, 38, 39, 40, 41, 42, 43, 48, 49, 50, 51, 52, 53, 54, 55] rfl (by decide +kernel)
set_option maxRecDepth 20000 in
theorem gX6_gardenersAhead_X6_isRicher : GoodIn wsX6_gardenersAhead (wsV RX6 88 RX6 yX6_isRicher wsX6_isRicher) := goodIn_app (goodIn_of _ (by decide +kernel)) ggX6_gardenersAhead_X6_isRicher
set_option maxRecDepth 20000 in
theorem ggX6_isRicher_X6_findGardener : GoodIn wsX6_isRicher wsX6_findGardener := goodIn_r _ [5, 6, 7, 35, 36, 37, 38, 39, 40, 41, 42, 43] rfl (by decide +kernel)
set_option maxRecDepth 20000 in
theorem gX6_isRicher_X6_findGardener : GoodIn wsX6_isRicher (wsV RX6 92 RX6 yX6_findGardener wsX6_findGardener) := goodIn_app (goodIn_of _ (by decide +kernel)) ggX6_isRicher_X6_findGardener
set_option maxRecDepth 20000 in
theorem ggX6_isRicher_X6_debtOf : GoodIn wsX6_isRicher wsX6_debtOf := goodIn_r _ [11, 12, 13, 14, 15, 16, 17, 18, 19, 20, 21, 22, 23, 24, 25, 26, 27, 28, 29, 30, 35, 36, 37, 38, 39, 40, 41, 42, 43, 44, 45, 46, 47, 48, 49, 50, 51] rfl (by decide +kernel)
set_option maxRecDepth 20000 in
theorem gX6_isRicher_X6_debtOf : GoodIn wsX6_isRicher (wsV RX6 96 RX6 yX6_debtOf wsX6_debtOf) := goodIn_app (goodIn_of _ (by decide +kernel)) ggX6_isRicher_X6_debtOf
set_option maxRecDepth 20000 in
theorem ggX7_arrive_X7_endBond : GoodIn wsX7_arrive wsX7_endBond := goodIn_r _ [10, 11, 12, 13, 14, 15, 16, 17, 18, 19, 20, 21] rfl (by decide +kernel)
set_option maxRecDepth 20000 in
theorem gX7_arrive_X7_endBond : GoodIn wsX7_arrive (wsV RX7 37 RX7 yX7_endBond wsX7_endBond) := goodIn_app (goodIn_of _ (by decide +kernel)) ggX7_arrive_X7_endBond
set_option maxRecDepth 20000 in
theorem ggX7_meetMinotaur_X7_hasBond : GoodIn wsX7_meetMinotaur wsX7_hasBond := goodIn_r _ [6, 7, 8, 9, 10, 11, 12, 13, 14, 15] rfl (by decide +kernel)
set_option maxRecDepth 20000 in
theorem gX7_meetMinotaur_X7_hasBond : GoodIn wsX7_meetMinotaur (wsV RX7 40 RX7 yX7_hasBond wsX7_hasBond) := goodIn_app (goodIn_of _ (by decide +kernel)) ggX7_meetMinotaur_X7_hasBond
set_option maxRecDepth 20000 in
theorem ggX7_dueAfter_X7_lostAfter : GoodIn wsX7_dueAfter wsX7_lostAfter := goodIn_r _ [7, 8, 9, 10, 11, 12, 13, 14, 15, 16, 17, 18, 19, 20, 21] rfl (by decide +kernel)
set_option maxRecDepth 20000 in
theorem gX7_dueAfter_X7_lostAfter : GoodIn wsX7_dueAfter (wsV RX7 50 RX7 yX7_lostAfter wsX7_lostAfter) := goodIn_app (goodIn_of _ (by decide +kernel)) ggX7_dueAfter_X7_lostAfter
set_option maxRecDepth 20000 in
theorem ggX7_numberFor_X7_lostAfter : GoodIn wsX7_numberFor wsX7_lostAfter := goodIn_r _ [13, 3, 4, 14, 15, 16, 17, 18, 19, 20, 21, 22, 23, 24, 25] rfl (by decide +kernel)
set_option maxRecDepth 20000 in
theorem gX7_numberFor_X7_lostAfter : GoodIn wsX7_numberFor (wsV RX7 50 RX7 yX7_lostAfter wsX7_lostAfter) := goodIn_app (goodIn_of _ (by decide +kernel)) ggX7_numberFor_X7_lostAfter
set_option maxRecDepth 20000 in
theorem ggX8_hoursByDistance_X8_measureFrom : GoodIn wsX8_hoursByDistance wsX8_measureFrom := goodIn_ca (goodIn_r _ [5, 6, 7, 8, 9, 10, 11, 4, 12, 13, 14, 15, 16, 17, 18, 19, 20, 21, 22, 23, 24, 25, 26, 27, 28, 29, 30, 31, 32, 33, 34, 35, 36, 37, 38, 39, 40, 41, 42] rfl (by decide +kernel)) (goodIn_sub (fun _ h => List.mem_cons_of_mem _ (List.mem_append_right _ h)) (by decide +kernel))
set_option maxRecDepth 20000 in
theorem gX8_hoursByDistance_X8_measureFrom : GoodIn wsX8_hoursByDistance (wsV RX8 22 RX8 yX8_measureFrom wsX8_measureFrom) := goodIn_app (goodIn_of _ (by decide +kernel)) ggX8_hoursByDistance_X8_measureFrom
set_option maxRecDepth 20000 in
theorem ggX8_hoursByDistance_X8_distanceOf : GoodIn wsX8_hoursByDistance wsX8_distanceOf := goodIn_ca (goodIn_r _ [38, 8, 17, 18, 19, 20, 39, 40, 41] rfl (by decide +kernel)) (goodIn_sub (fun _ h => List.mem_cons_of_mem _ (List.mem_append_right _ h)) (by decide +kernel))
set_option maxRecDepth 20000 in
theorem gX8_hoursByDistance_X8_distanceOf : GoodIn wsX8_hoursByDistance (wsV RX8 26 RX8 yX8_distanceOf wsX8_distanceOf) := goodIn_app (goodIn_of _ (by decide +kernel)) ggX8_hoursByDistance_X8_distanceOf
