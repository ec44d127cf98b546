set_option maxRecDepth 20000 in
theorem ggX9_minotaur_X3_placeMinotaur : GoodIn wsX9_minotaur wsX3_placeMinotaur := goodIn_r _ [54, 55, 56, 57, 58, 21, 59, 60, 61, 62, 63, 64, 65, 66, 67, 68, 69, 70, 53, 71, 72, 73, 74, 40, 75, 49, 43, 76, 77, 78, 79, 48, 80, 81, 82, 83, 46, 84, 85, 86, 7, 87, 13, 11, 88, 142, 143, 144, 120, 121, 122, 123, 124, 125, 126, 127, 128, 145, 146, 147, 134, 135, 136, 137, 138, 139, 140, 141] rfl (by decide +kernel)
set_option maxRecDepth 20000 in
theorem gX9_minotaur_X3_placeMinotaur : GoodIn wsX9_minotaur (wsV RX9 95 RX3 yX3_placeMinotaur wsX3_placeMinotaur) := goodIn_app (goodIn_of _ (by decide +kernel)) ggX9_minotaur_X3_placeMinotaur
set_option maxRecDepth 20000 in
theorem ggX9_minotaur_X9_settled : GoodIn wsX9_minotaur wsX9_settled := goodIn_ca (goodIn_r _ [93, 94, 95, 96, 1, 97, 98, 99, 100, 101, 102, 103, 104, 105, 106, 107, 108, 109, 5, 6, 7, 8, 9, 10, 11, 12, 13, 14, 15, 16, 17, 18, 19, 20, 21, 22, 23, 24, 25, 26, 27, 28, 29, 30, 31, 32, 33, 34, 35, 36, 37, 38, 39, 40, 41, 42, 43, 44, 45, 46, 47, 48, 49, 110, 111, 112, 113, 114, 115, 116, 117, 118, 119, 148, 149, 150, 120, 121, 122, 123, 124, 125, 126, 127, 128, 129, 130, 131, 132, 133, 134, 135, 136, 137, 138, 139, 140, 141] rfl (by decide +kernel)) (goodIn_sub (fun _ h => List.mem_cons_of_mem _ (List.mem_append_right _ h)) (by decide +kernel))
set_option maxRecDepth 20000 in
theorem gX9_minotaur_X9_settled : GoodIn wsX9_minotaur (wsV RX9 84 RX9 yX9_settled wsX9_settled) := goodIn_app (goodIn_of _ (by decide +kernel)) ggX9_minotaur_X9_settled
set_option maxRecDepth 20000 in
theorem ggX9_gardener_X6_copyFrom : GoodIn wsX9_gardener wsX6_copyFrom := goodIn_r _ [8, 9, 10, 11, 12, 13, 14, 15, 16, 17, 18, 19, 20, 21, 22, 23, 24, 25, 26, 27, 28, 29, 30, 31, 32, 33, 34, 35, 36, 37, 38, 39, 40, 41, 42, 43, 44, 45, 46, 47, 48, 49, 100, 101, 102, 103, 104, 105, 106, 107, 108, 109, 110, 111, 112, 113, 114, 115, 116, 117, 118, 119, 120, 121] rfl (by decide +kernel)
set_option maxRecDepth 20000 in
theorem gX9_gardener_X6_copyFrom : GoodIn wsX9_gardener (wsV RX9 76 RX6 yX6_copyFrom wsX6_copyFrom) := goodIn_app (goodIn_of _ (by decide +kernel)) ggX9_gardener_X6_copyFrom
set_option maxRecDepth 20000 in
theorem ggX9_gardener_X3_admitGardener : GoodIn wsX9_gardener wsX3_admitGardener := goodIn_r _ [54, 55, 56, 57, 58, 59, 60, 61, 62, 63, 64, 65, 66, 67, 31, 68, 33, 34, 35, 36, 122, 123, 124, 100, 101, 102, 103, 104, 105, 106, 107, 108, 125, 126, 127, 110, 111, 112, 113] rfl (by decide +kernel)
set_option maxRecDepth 20000 in
theorem gX9_gardener_X3_admitGardener : GoodIn wsX9_gardener (wsV RX9 98 RX3 yX3_admitGardener wsX3_admitGardener) := goodIn_app (goodIn_of _ (by decide +kernel)) ggX9_gardener_X3_admitGardener
set_option maxRecDepth 20000 in
theorem ggX9_gardener_X9_settled : GoodIn wsX9_gardener wsX9_settled := goodIn_ca (goodIn_r _ [73, 74, 75, 76, 1, 77, 78, 79, 80, 81, 82, 83, 84, 85, 86, 87, 88, 89, 5, 6, 7, 8, 9, 10, 11, 12, 13, 14, 15, 16, 17, 18, 19, 20, 21, 22, 23, 24, 25, 26, 27, 28, 29, 30, 31, 32, 33, 34, 35, 36, 37, 38, 39, 40, 41, 42, 43, 44, 45, 46, 47, 48, 49, 90, 91, 92, 93, 94, 95, 96, 97, 98, 99, 128, 129, 130, 100, 101, 102, 103, 104, 105, 106, 107, 108, 109, 110, 111, 112, 113, 114, 115, 116, 117, 118, 119, 120, 121] rfl (by decide +kernel)) (goodIn_sub (fun _ h => List.mem_cons_of_mem _ (List.mem_append_right _ h)) (by decide +kernel))
set_option maxRecDepth 20000 in
theorem gX9_gardener_X9_settled : GoodIn wsX9_gardener (wsV RX9 84 RX9 yX9_settled wsX9_settled) := goodIn_app (goodIn_of _ (by decide +kernel)) ggX9_gardener_X9_settled
set_option maxRecDepth 20000 in
theorem ggX9_visitor_X6_copyFrom : GoodIn wsX9_visitor wsX6_copyFrom := goodIn_r _ [8, 9, 10, 11, 12, 13, 14, 15, 16, 17, 18, 19, 20, 21, 22, 23, 24, 25, 26, 27, 28, 29, 30, 31, 32, 33, 34, 35, 36, 37, 38, 39, 40, 41, 42, 43, 44, 45, 46, 47, 48, 49, 164, 165, 166, 167, 168, 169, 170, 171, 172, 173, 174, 175, 176, 177, 178, 179, 180, 181, 182, 183, 184, 185] rfl (by decide +kernel)
set_option maxRecDepth 20000 in
theorem gX9_visitor_X6_copyFrom : GoodIn wsX9_visitor (wsV RX9 76 RX6 yX6_copyFrom wsX6_copyFrom) := goodIn_app (goodIn_of _ (by decide +kernel)) ggX9_visitor_X6_copyFrom
set_option maxRecDepth 20000 in
theorem ggX9_visitor_X3_admitVisitor : GoodIn wsX9_visitor wsX3_admitVisitor := goodIn_ca (goodIn_r _ [54, 55, 56, 57, 58, 59, 60, 61, 62, 63, 64, 65, 66, 67, 68, 69, 70, 71, 72, 73, 74, 75, 76, 77, 78, 79, 80, 81, 82, 83, 84, 85, 86, 87, 21, 88, 89, 90, 91, 92, 93, 94, 95, 96, 97, 98, 99, 100, 101, 23, 102, 103, 104, 105, 106, 107, 108, 109, 110, 111, 112, 113, 114, 115, 116, 117, 118, 119, 120, 121, 122, 123, 124, 125, 126, 127, 40, 128, 42, 43, 44, 45, 49, 129, 130, 131, 132, 46, 47, 48, 186, 187, 188, 164, 165, 166, 167, 168, 169, 170, 171, 172, 189, 190, 191, 192, 193, 194, 173, 178, 179, 180, 181, 182, 183, 184, 185] rfl (by decide +kernel)) (goodIn_sub (fun _ h => List.mem_cons_of_mem _ (List.mem_append_left _ (List.mem_append_right _ h))) (by decide +kernel))
set_option maxRecDepth 20000 in
theorem gX9_visitor_X3_admitVisitor : GoodIn wsX9_visitor (wsV RX9 101 RX3 yX3_admitVisitor wsX3_admitVisitor) := goodIn_app (goodIn_of _ (by decide +kernel)) ggX9_visitor_X3_admitVisitor
set_option maxRecDepth 20000 in
theorem ggX9_visitor_X9_settled : GoodIn wsX9_visitor wsX9_settled := goodIn_ca (goodIn_r _ [137, 138, 139, 140, 1, 141, 142, 143, 144, 145, 146, 147, 148, 149, 150, 151, 152, 153, 5, 6, 7, 8, 9, 10, 11, 12, 13, 14, 15, 16, 17, 18, 19, 20, 21, 22, 23, 24, 25, 26, 27, 28, 29, 30, 31, 32, 33, 34, 35, 36, 37, 38, 39, 40, 41, 42, 43, 44, 45, 46, 47, 48, 49, 154, 155, 156, 157, 158, 159, 160, 161, 162, 163, 195, 196, 197, 164, 165, 166, 167, 168, 169, 170, 171, 172, 173, 174, 175, 176, 177, 178, 179, 180, 181, 182, 183, 184, 185] rfl (by decide +kernel)) (goodIn_sub (fun _ h => List.mem_cons_of_mem _ (List.mem_append_right _ h)) (by decide +kernel))
set_option maxRecDepth 20000 in
theorem gX9_visitor_X9_settled : GoodIn wsX9_visitor (wsV RX9 84 RX9 yX9_settled wsX9_settled) := goodIn_app (goodIn_of _ (by decide +kernel)) ggX9_visitor_X9_settled
set_option maxRecDepth 20000 in
theorem ggX9_bond_X6_copyFrom : GoodIn wsX9_bond wsX6_copyFrom := goodIn_r _ [8, 9, 10, 11, 12, 13, 14, 15, 16, 17, 18, 19, 20, 21, 22, 23, 24, 25, 26, 27, 28, 29, 30, 31, 32, 33, 34, 35, 36, 37, 38, 39, 40, 41, 42, 43, 44, 45, 46, 47, 48, 49, 116, 117, 118, 119, 120, 121, 122, 123, 124, 125, 126, 127, 128, 129, 130, 131, 132, 133, 134, 135, 136, 137] rfl (by decide +kernel)
set_option maxRecDepth 20000 in
theorem gX9_bond_X6_copyFrom : GoodIn wsX9_bond (wsV RX9 76 RX6 yX6_copyFrom wsX6_copyFrom) := goodIn_app (goodIn_of _ (by decide +kernel)) ggX9_bond_X6_copyFrom
set_option maxRecDepth 20000 in
theorem ggX9_bond_X3_giveBond : GoodIn wsX9_bond wsX3_giveBond := goodIn_r _ [54, 55, 56, 57, 58, 59, 7, 60, 12, 10, 61, 62, 63, 64, 65, 66, 67, 68, 69, 70, 71, 72, 13, 11, 73, 74, 75, 40, 76, 46, 77, 78, 79, 80, 49, 43, 81, 82, 83, 84, 47, 48, 138, 139, 140, 116, 117, 118, 119, 120, 121, 122, 123, 124, 130, 131, 132, 133, 134, 135, 136, 137, 126, 127, 128, 129, 141, 142, 143] rfl (by decide +kernel)
set_option maxRecDepth 20000 in
theorem gX9_bond_X3_giveBond : GoodIn wsX9_bond (wsV RX9 104 RX3 yX3_giveBond wsX3_giveBond) := goodIn_app (goodIn_of _ (by decide +kernel)) ggX9_bond_X3_giveBond
set_option maxRecDepth 20000 in
theorem ggX9_bond_X9_settled : GoodIn wsX9_bond wsX9_settled := goodIn_ca (goodIn_r _ [89, 90, 91, 92, 1, 93, 94, 95, 96, 97, 98, 99, 100, 101, 102, 103, 104, 105, 5, 6, 7, 8, 9, 10, 11, 12, 13, 14, 15, 16, 17, 18, 19, 20, 21, 22, 23, 24, 25, 26, 27, 28, 29, 30, 31, 32, 33, 34, 35, 36, 37, 38, 39, 40, 41, 42, 43, 44, 45, 46, 47, 48, 49, 106, 107, 108, 109, 110, 111, 112, 113, 114, 115, 144, 145, 146, 116, 117, 118, 119, 120, 121, 122, 123, 124, 125, 126, 127, 128, 129, 130, 131, 132, 133, 134, 135, 136, 137] rfl (by decide +kernel)) (goodIn_sub (fun _ h => List.mem_cons_of_mem _ (List.mem_append_right _ h)) (by decide +kernel))
