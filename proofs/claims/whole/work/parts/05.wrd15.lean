set_option maxRecDepth 20000 in
theorem ggX9_line_J4_length_8abf5 : GoodIn wsX9_line wsJ4_length_8abf5 := goodIn_r _ [251, 252, 253, 24, 254, 26, 255, 31, 289, 290, 291, 292] rfl (by decide +kernel)
set_option maxRecDepth 20000 in
theorem gX9_line_J4_length_8abf5 : GoodIn wsX9_line (wsV RX9 348 RJ4 yJ4_length_8abf5 wsJ4_length_8abf5) := goodIn_app (goodIn_of _ (by decide +kernel)) ggX9_line_J4_length_8abf5
set_option maxRecDepth 20000 in
theorem ggX9_row_J4_setLength_d00df : GoodIn wsX9_row wsJ4_setLength_d00df := goodIn_r _ [9, 10, 11, 12, 13, 14, 15, 16, 17, 18, 19, 20, 21, 22, 23, 24, 25, 26, 27, 28, 29, 30, 31, 32, 33, 34, 35, 36, 37, 38, 39, 40, 41, 42, 43, 44, 45, 46, 47, 48, 49, 50, 51, 52, 53, 54, 55, 56, 57, 58, 59, 60, 61, 62, 63, 64, 65, 66, 67, 68, 69, 70, 71, 72, 73, 74, 75, 76, 77, 78, 79, 80, 81, 8, 82, 83, 84, 85, 86, 87, 88, 89, 244, 245, 246, 247, 248, 249, 250, 251, 252, 253, 254, 255, 256, 257, 258, 259] rfl (by decide +kernel)
set_option maxRecDepth 20000 in
theorem gX9_row_J4_setLength_d00df : GoodIn wsX9_row (wsV RX9 320 RJ4 yJ4_setLength_d00df wsJ4_setLength_d00df) := goodIn_app (goodIn_of _ (by decide +kernel)) ggX9_row_J4_setLength_d00df
set_option maxRecDepth 20000 in
theorem ggX9_row_J4_append_cf468 : GoodIn wsX9_row wsJ4_append_cf468 := goodIn_r _ [93, 94, 95, 12, 96, 14, 97, 19, 20, 22, 23, 24, 25, 26, 27, 28, 29, 30, 31, 32, 33, 34, 35, 36, 37, 38, 39, 40, 41, 42, 43, 44, 45, 46, 47, 48, 49, 50, 51, 52, 53, 54, 55, 56, 57, 58, 59, 60, 61, 62, 63, 64, 65, 66, 67, 68, 69, 98, 99, 72, 100, 101, 102, 103, 104, 105, 106, 107, 87, 108, 109, 110, 111, 112, 113, 114, 115, 116, 117, 118, 119, 120, 121, 122, 123, 124, 125, 126, 127, 128, 129, 130, 131, 132, 133, 134, 135, 136, 137, 138, 139, 140, 141, 142, 143, 144, 145, 146, 147, 148, 149, 150, 151, 250, 251, 252, 253] rfl (by decide +kernel)
set_option maxRecDepth 20000 in
theorem gX9_row_J4_append_cf468 : GoodIn wsX9_row (wsV RX9 333 RJ4 yJ4_append_cf468 wsJ4_append_cf468) := goodIn_app (goodIn_of _ (by decide +kernel)) ggX9_row_J4_append_cf468
set_option maxRecDepth 20000 in
theorem ggX9_row_X6_visitorsIn : GoodIn wsX9_row wsX6_visitorsIn := goodIn_r _ [156, 157, 158, 159, 160, 161, 162, 163, 164, 165, 235, 236, 237, 238, 239, 240, 241, 242, 243, 260, 261, 262, 263, 264, 265, 266, 267] rfl (by decide +kernel)
set_option maxRecDepth 20000 in
theorem gX9_row_X6_visitorsIn : GoodIn wsX9_row (wsV RX9 355 RX6 yX6_visitorsIn wsX6_visitorsIn) := goodIn_app (goodIn_of _ (by decide +kernel)) ggX9_row_X6_visitorsIn
set_option maxRecDepth 20000 in
theorem ggX9_row_J4_append_bf812 : GoodIn wsX9_row wsJ4_append_bf812 := goodIn_r _ [169, 170, 171, 12, 172, 14, 173, 19, 20, 174, 175, 176, 177, 22, 23, 24, 25, 26, 27, 28, 29, 30, 31, 32, 33, 34, 35, 36, 37, 38, 39, 40, 41, 42, 43, 44, 45, 46, 47, 48, 49, 50, 51, 52, 53, 54, 55, 56, 57, 58, 59, 60, 61, 62, 63, 64, 65, 66, 67, 68, 69, 178, 179, 180, 181, 182, 183, 184, 87, 185, 137, 186, 187, 188, 122, 123, 124, 189, 190, 127, 191, 129, 192, 193, 132, 194, 195, 196, 197, 198, 199, 134, 135, 136, 138, 139, 250, 251, 252, 253] rfl (by decide +kernel)
set_option maxRecDepth 20000 in
theorem gX9_row_J4_append_bf812 : GoodIn wsX9_row (wsV RX9 330 RJ4 yJ4_append_bf812 wsJ4_append_bf812) := goodIn_app (goodIn_of _ (by decide +kernel)) ggX9_row_J4_append_bf812
set_option maxRecDepth 20000 in
theorem ggX9_row_X4_hedgeBetween : GoodIn wsX9_row wsX4_hedgeBetween := goodIn_ca (goodIn_r _ [203, 204, 58, 40, 59, 205, 39, 41, 206, 207] rfl (by decide +kernel)) (goodIn_sub (fun _ h => List.mem_cons_of_mem _ (List.mem_append_right _ h)) (by decide +kernel))
set_option maxRecDepth 20000 in
theorem gX9_row_X4_hedgeBetween : GoodIn wsX9_row (va_wsS RX9 136 yX4_hedgeBetween wsX4_hedgeBetween) := goodIn_app (goodIn_of _ (by decide +kernel)) ggX9_row_X4_hedgeBetween
set_option maxRecDepth 20000 in
theorem ggX9_row_X4_isOpen : GoodIn wsX9_row wsX4_isOpen := goodIn_ca (goodIn_r _ [211, 212, 213, 214, 202, 215, 216, 268] rfl (by decide +kernel)) (goodIn_sub (fun _ h => List.mem_cons_of_mem _ (List.mem_append_right _ h)) (by decide +kernel))
set_option maxRecDepth 20000 in
theorem gX9_row_X4_isOpen : GoodIn wsX9_row (wsV RX9 139 RX4 yX4_isOpen wsX4_isOpen) := goodIn_app (goodIn_of _ (by decide +kernel)) ggX9_row_X4_isOpen
set_option maxRecDepth 20000 in
theorem ggX9_row_J4_length_8abf5 : GoodIn wsX9_row wsJ4_length_8abf5 := goodIn_r _ [220, 221, 222, 12, 223, 14, 224, 19, 250, 251, 252, 253] rfl (by decide +kernel)
set_option maxRecDepth 20000 in
theorem gX9_row_J4_length_8abf5 : GoodIn wsX9_row (wsV RX9 348 RJ4 yJ4_length_8abf5 wsJ4_length_8abf5) := goodIn_app (goodIn_of _ (by decide +kernel)) ggX9_row_J4_length_8abf5
set_option maxRecDepth 20000 in
theorem ggX9_character_J4_length_8abf5 : GoodIn wsX9_character wsJ4_length_8abf5 := goodIn_r _ [8, 9, 10, 11, 12, 13, 14, 15, 59, 60, 61, 62] rfl (by decide +kernel)
set_option maxRecDepth 20000 in
theorem gX9_character_J4_length_8abf5 : GoodIn wsX9_character (wsV RX9 348 RJ4 yJ4_length_8abf5 wsJ4_length_8abf5) := goodIn_app (goodIn_of _ (by decide +kernel)) ggX9_character_J4_length_8abf5
set_option maxRecDepth 20000 in
theorem ggX9_character_J4_charAt_5068e : GoodIn wsX9_character wsJ4_charAt_5068e := goodIn_r _ [19, 20, 21, 11, 22, 13, 23, 24, 25, 15, 26, 27, 28, 29, 30, 31, 32, 33, 34, 35, 36, 37, 38, 39, 40, 41, 42, 43, 44, 45, 46, 47, 48, 59, 60, 61, 62] rfl (by decide +kernel)
set_option maxRecDepth 20000 in
theorem gX9_character_J4_charAt_5068e : GoodIn wsX9_character (wsV RX9 360 RJ4 yJ4_charAt_5068e wsJ4_charAt_5068e) := goodIn_app (goodIn_of _ (by decide +kernel)) ggX9_character_J4_charAt_5068e
set_option maxRecDepth 20000 in
theorem ggX9_account_X6_totalOf : GoodIn wsX9_account wsX6_totalOf := goodIn_r _ [10, 11, 12, 13, 14, 15, 16, 17, 18, 19, 20, 21, 22, 23, 24, 25, 26, 27, 28, 29, 30, 31, 32, 33, 73, 74, 75, 76, 77, 78, 79, 80, 81, 93, 94, 95, 96, 97, 98, 99, 100] rfl (by decide +kernel)
set_option maxRecDepth 20000 in
theorem gX9_account_X6_totalOf : GoodIn wsX9_account (wsV RX9 369 RX6 yX6_totalOf wsX6_totalOf) := goodIn_app (goodIn_of _ (by decide +kernel)) ggX9_account_X6_totalOf
set_option maxRecDepth 20000 in
theorem ggX9_account_X6_bonds : GoodIn wsX9_account wsX6_bonds := goodIn_r _ [37, 11, 38, 39, 40, 9, 41, 12, 73, 74, 75, 76, 77, 78, 79, 80, 81, 93, 94, 95, 96, 97, 98, 99, 100] rfl (by decide +kernel)
set_option maxRecDepth 20000 in
theorem gX9_account_X6_bonds : GoodIn wsX9_account (wsV RX9 376 RX6 yX6_bonds wsX6_bonds) := goodIn_app (goodIn_of _ (by decide +kernel)) ggX9_account_X6_bonds
set_option maxRecDepth 20000 in
theorem ggX9_account_X4_gaps : GoodIn wsX9_account wsX4_gaps := goodIn_ca (goodIn_r _ [46, 47, 48, 49, 45, 50, 51, 52, 53, 54, 55, 101] rfl (by decide +kernel)) (goodIn_sub (fun _ h => List.mem_cons_of_mem _ (List.mem_append_right _ h)) (by decide +kernel))
set_option maxRecDepth 20000 in
theorem gX9_account_X4_gaps : GoodIn wsX9_account (wsV RX9 372 RX4 yX4_gaps wsX4_gaps) := goodIn_app (goodIn_of _ (by decide +kernel)) ggX9_account_X4_gaps
set_option maxRecDepth 20000 in
theorem ggX9_account_X6_coinsOfAll : GoodIn wsX9_account wsX6_coinsOfAll := goodIn_r _ [59, 60, 61, 62, 7, 8, 9, 10, 11, 12, 13, 14, 15, 16, 17, 18, 19, 20, 21, 22, 23, 24, 25, 26, 27, 28, 29, 30, 31, 32, 33, 73, 74, 75, 76, 77, 78, 79, 80, 81, 102, 103, 104, 105, 93, 94, 95, 96, 97, 98, 99, 100] rfl (by decide +kernel)
set_option maxRecDepth 20000 in
theorem gX9_account_X6_coinsOfAll : GoodIn wsX9_account (wsV RX9 388 RX6 yX6_coinsOfAll wsX6_coinsOfAll) := goodIn_app (goodIn_of _ (by decide +kernel)) ggX9_account_X6_coinsOfAll
set_option maxRecDepth 20000 in
theorem ggX9_undo_X2_takeBack : GoodIn wsX9_undo wsX2_takeBack := goodIn_r _ [9, 10, 11, 12, 13, 14, 15, 16, 17, 18, 19, 20, 21, 22, 23, 24, 25, 26, 27, 28, 29, 30, 31, 32, 33, 34, 35, 36, 37, 38, 39, 40, 41, 42, 43, 44, 45, 46, 47, 48, 49, 50, 51, 52, 53, 54, 55, 56, 57, 58, 69, 70, 71, 72, 73, 74, 75, 76, 77, 78, 79, 80, 81, 82, 83, 84, 85, 86, 87, 88, 89, 90, 91, 92, 93] rfl (by decide +kernel)
