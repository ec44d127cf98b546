set_option maxRecDepth 20000 in
theorem ggX8_hoursByNeighbours_X8_relaxFrom : GoodIn wsX8_hoursByNeighbours wsX8_relaxFrom := goodIn_ca (goodIn_r _ [5, 6, 7, 8, 9, 4, 10, 11, 12, 13, 14, 15, 16, 17, 18, 19, 20, 21, 22, 23, 24, 25, 26, 27, 28, 29, 30, 31, 32, 33, 34, 35, 36, 37, 38, 39, 40] rfl (by decide +kernel)) (goodIn_sub (fun _ h => List.mem_cons_of_mem _ (List.mem_append_right _ h)) (by decide +kernel))
set_option maxRecDepth 20000 in
theorem gX8_hoursByNeighbours_X8_relaxFrom : GoodIn wsX8_hoursByNeighbours (wsV RX8 30 RX8 yX8_relaxFrom wsX8_relaxFrom) := goodIn_app (goodIn_of _ (by decide +kernel)) ggX8_hoursByNeighbours_X8_relaxFrom
set_option maxRecDepth 20000 in
theorem ggX8_hoursByNeighbours_X8_distanceOf : GoodIn wsX8_hoursByNeighbours wsX8_distanceOf := goodIn_ca (goodIn_r _ [36, 11, 16, 17, 18, 19, 37, 38, 39] rfl (by decide +kernel)) (goodIn_sub (fun _ h => List.mem_cons_of_mem _ (List.mem_append_right _ h)) (by decide +kernel))
set_option maxRecDepth 20000 in
theorem gX8_hoursByNeighbours_X8_distanceOf : GoodIn wsX8_hoursByNeighbours (wsV RX8 26 RX8 yX8_distanceOf wsX8_distanceOf) := goodIn_app (goodIn_of _ (by decide +kernel)) ggX8_hoursByNeighbours_X8_distanceOf
set_option maxRecDepth 20000 in
theorem ggX8_trimsByNeighbours_X8_relaxFrom : GoodIn wsX8_trimsByNeighbours wsX8_relaxFrom := goodIn_ca (goodIn_r _ [5, 6, 7, 8, 9, 4, 10, 11, 12, 13, 14, 15, 16, 17, 18, 19, 20, 21, 22, 23, 24, 25, 26, 27, 28, 29, 30, 31, 32, 33, 34, 35, 36, 37, 38, 39, 40] rfl (by decide +kernel)) (goodIn_sub (fun _ h => List.mem_cons_of_mem _ (List.mem_append_right _ h)) (by decide +kernel))
set_option maxRecDepth 20000 in
theorem gX8_trimsByNeighbours_X8_relaxFrom : GoodIn wsX8_trimsByNeighbours (wsV RX8 30 RX8 yX8_relaxFrom wsX8_relaxFrom) := goodIn_app (goodIn_of _ (by decide +kernel)) ggX8_trimsByNeighbours_X8_relaxFrom
set_option maxRecDepth 20000 in
theorem ggX8_trimsByNeighbours_X8_distanceOf : GoodIn wsX8_trimsByNeighbours wsX8_distanceOf := goodIn_ca (goodIn_r _ [36, 11, 16, 17, 18, 19, 37, 38, 39] rfl (by decide +kernel)) (goodIn_sub (fun _ h => List.mem_cons_of_mem _ (List.mem_append_right _ h)) (by decide +kernel))
set_option maxRecDepth 20000 in
theorem gX8_trimsByNeighbours_X8_distanceOf : GoodIn wsX8_trimsByNeighbours (wsV RX8 26 RX8 yX8_distanceOf wsX8_distanceOf) := goodIn_app (goodIn_of _ (by decide +kernel)) ggX8_trimsByNeighbours_X8_distanceOf
set_option maxRecDepth 20000 in
theorem ggX8_distanceOf_X4_isCell : GoodIn wsX8_distanceOf wsX4_isCell := goodIn_r _ [5] rfl (by decide +kernel)
set_option maxRecDepth 20000 in
theorem gX8_distanceOf_X4_isCell : GoodIn wsX8_distanceOf (va_wsS RX8 34 yX4_isCell wsX4_isCell) := goodIn_app (goodIn_of _ (by decide +kernel)) ggX8_distanceOf_X4_isCell
set_option maxRecDepth 20000 in
theorem ggX8_startFrom_J7_fill_53178 : GoodIn wsX8_startFrom wsJ7_fill_53178 := goodIn_r _ [5] rfl (by decide +kernel)
set_option maxRecDepth 20000 in
theorem gX8_startFrom_J7_fill_53178 : GoodIn wsX8_startFrom (va_wsS RX8 40 yJ7_fill_53178 wsJ7_fill_53178) := goodIn_app (goodIn_of _ (by decide +kernel)) ggX8_startFrom_J7_fill_53178
set_option maxRecDepth 20000 in
theorem ggX8_startFrom_X4_isCell : GoodIn wsX8_startFrom wsX4_isCell := goodIn_r _ [9] rfl (by decide +kernel)
set_option maxRecDepth 20000 in
theorem gX8_startFrom_X4_isCell : GoodIn wsX8_startFrom (va_wsS RX8 34 yX4_isCell wsX4_isCell) := goodIn_app (goodIn_of _ (by decide +kernel)) ggX8_startFrom_X4_isCell
set_option maxRecDepth 20000 in
theorem ggX8_measureFrom_X8_startFrom : GoodIn wsX8_measureFrom wsX8_startFrom := goodIn_ca (goodIn_r _ [8, 3, 9, 10, 11, 12, 13, 14, 15, 16, 35, 36, 37] rfl (by decide +kernel)) (goodIn_sub (fun _ h => List.mem_cons_of_mem _ (List.mem_append_right _ h)) (by decide +kernel))
set_option maxRecDepth 20000 in
theorem gX8_measureFrom_X8_startFrom : GoodIn wsX8_measureFrom (wsV RX8 46 RX8 yX8_startFrom wsX8_startFrom) := goodIn_app (goodIn_of _ (by decide +kernel)) ggX8_measureFrom_X8_startFrom
set_option maxRecDepth 20000 in
theorem ggX8_measureFrom_X4_cellAcross : GoodIn wsX8_measureFrom wsX4_cellAcross := goodIn_ca (goodIn_r _ [19, 20, 21] rfl (by decide +kernel)) (goodIn_sub (fun _ h => List.mem_cons_of_mem _ (List.mem_append_right _ h)) (by decide +kernel))
set_option maxRecDepth 20000 in
theorem gX8_measureFrom_X4_cellAcross : GoodIn wsX8_measureFrom (va_wsS RX8 49 yX4_cellAcross wsX4_cellAcross) := goodIn_app (goodIn_of _ (by decide +kernel)) ggX8_measureFrom_X4_cellAcross
set_option maxRecDepth 20000 in
theorem ggX8_measureFrom_X4_isOpen : GoodIn wsX8_measureFrom wsX4_isOpen := goodIn_ca (goodIn_r _ [25, 26, 27, 28, 15, 29, 30, 38] rfl (by decide +kernel)) (goodIn_sub (fun _ h => List.mem_cons_of_mem _ (List.mem_append_right _ h)) (by decide +kernel))
set_option maxRecDepth 20000 in
theorem gX8_measureFrom_X4_isOpen : GoodIn wsX8_measureFrom (wsV RX8 53 RX4 yX4_isOpen wsX4_isOpen) := goodIn_app (goodIn_of _ (by decide +kernel)) ggX8_measureFrom_X4_isOpen
set_option maxRecDepth 20000 in
theorem ggX8_measureFrom_X8_distanceOf : GoodIn wsX8_measureFrom wsX8_distanceOf := goodIn_ca (goodIn_r _ [34, 3, 13, 14, 15, 16, 35, 36, 37] rfl (by decide +kernel)) (goodIn_sub (fun _ h => List.mem_cons_of_mem _ (List.mem_append_right _ h)) (by decide +kernel))
set_option maxRecDepth 20000 in
theorem gX8_measureFrom_X8_distanceOf : GoodIn wsX8_measureFrom (wsV RX8 26 RX8 yX8_distanceOf wsX8_distanceOf) := goodIn_app (goodIn_of _ (by decide +kernel)) ggX8_measureFrom_X8_distanceOf
set_option maxRecDepth 20000 in
theorem ggX8_relaxFrom_X8_startFrom : GoodIn wsX8_relaxFrom wsX8_startFrom := goodIn_ca (goodIn_r _ [6, 7, 8, 9, 10, 11, 12, 13, 14, 15, 33, 34, 35] rfl (by decide +kernel)) (goodIn_sub (fun _ h => List.mem_cons_of_mem _ (List.mem_append_right _ h)) (by decide +kernel))
set_option maxRecDepth 20000 in
theorem gX8_relaxFrom_X8_startFrom : GoodIn wsX8_relaxFrom (wsV RX8 46 RX8 yX8_startFrom wsX8_startFrom) := goodIn_app (goodIn_of _ (by decide +kernel)) ggX8_relaxFrom_X8_startFrom
set_option maxRecDepth 20000 in
theorem ggX8_relaxFrom_X4_isOpen : GoodIn wsX8_relaxFrom wsX4_isOpen := goodIn_ca (goodIn_r _ [19, 20, 21, 22, 14, 23, 24, 36] rfl (by decide +kernel)) (goodIn_sub (fun _ h => List.mem_cons_of_mem _ (List.mem_append_right _ h)) (by decide +kernel))
set_option maxRecDepth 20000 in
theorem gX8_relaxFrom_X4_isOpen : GoodIn wsX8_relaxFrom (wsV RX8 53 RX4 yX4_isOpen wsX4_isOpen) := goodIn_app (goodIn_of _ (by decide +kernel)) ggX8_relaxFrom_X4_isOpen
set_option maxRecDepth 20000 in
theorem ggX8_relaxFrom_X8_lower : GoodIn wsX8_relaxFrom wsX8_lower := goodIn_ca (goodIn_r _ [28, 7, 29, 30, 31, 5, 32, 12, 13, 14, 15, 33, 34, 35] rfl (by decide +kernel)) (goodIn_sub (fun _ h => List.mem_cons_of_mem _ (List.mem_append_right _ h)) (by decide +kernel))
set_option maxRecDepth 20000 in
theorem gX8_relaxFrom_X8_lower : GoodIn wsX8_relaxFrom (wsV RX8 62 RX8 yX8_lower wsX8_lower) := goodIn_app (goodIn_of _ (by decide +kernel)) ggX8_relaxFrom_X8_lower
set_option maxRecDepth 20000 in
theorem ggX8_stepToExit_X8_measureFrom : GoodIn wsX8_stepToExit wsX8_measureFrom := goodIn_ca (goodIn_r _ [6, 7, 1, 8, 9, 10, 11, 5, 12, 13, 14, 15, 16, 17, 18, 19, 20, 21, 22, 23, 24, 25, 26, 27, 28, 29, 30, 31, 32, 33, 34, 35, 36, 37, 38, 39, 40, 41, 42] rfl (by decide +kernel)) (goodIn_sub (fun _ h => List.mem_cons_of_mem _ (List.mem_append_right _ h)) (by decide +kernel))
set_option maxRecDepth 20000 in
theorem gX8_stepToExit_X8_measureFrom : GoodIn wsX8_stepToExit (wsV RX8 22 RX8 yX8_measureFrom wsX8_measureFrom) := goodIn_app (goodIn_of _ (by decide +kernel)) ggX8_stepToExit_X8_measureFrom
set_option maxRecDepth 20000 in
theorem ggX8_stepToExit_X8_distanceOf : GoodIn wsX8_stepToExit wsX8_distanceOf := goodIn_ca (goodIn_r _ [38, 8, 17, 18, 19, 20, 39, 40, 41] rfl (by decide +kernel)) (goodIn_sub (fun _ h => List.mem_cons_of_mem _ (List.mem_append_right _ h)) (by decide +kernel))
