set_option maxRecDepth 20000 in
theorem gX2_init_X6_init : GoodIn wsX2_init (wsX6_init) := ggX2_init_X6_init
set_option maxRecDepth 20000 in
theorem ggX2_keep_X6_copyFrom : GoodIn wsX2_keep wsX6_copyFrom := goodIn_r _ [12, 13, 14, 15, 16, 17, 18, 19, 20, 21, 22, 23, 24, 25, 26, 27, 28, 29, 30, 31, 32, 33, 34, 35, 36, 37, 38, 39, 40, 41, 42, 43, 44, 45, 46, 47, 48, 49, 50, 51, 52, 53, 57, 58, 59, 60, 61, 62, 63, 64, 65, 66, 67, 68, 69, 70, 71, 72, 73, 74, 75, 76, 77, 78] rfl (by decide +kernel)
set_option maxRecDepth 20000 in
theorem gX2_keep_X6_copyFrom : GoodIn wsX2_keep (wsV RX2 22 RX6 yX6_copyFrom wsX6_copyFrom) := goodIn_app (goodIn_of _ (by decide +kernel)) ggX2_keep_X6_copyFrom
set_option maxRecDepth 20000 in
theorem ggX2_takeBack_X6_copyFrom : GoodIn wsX2_takeBack wsX6_copyFrom := goodIn_r _ [8, 9, 10, 11, 12, 13, 14, 15, 16, 17, 18, 19, 20, 21, 22, 23, 24, 25, 26, 27, 28, 29, 30, 31, 32, 33, 34, 35, 36, 37, 38, 39, 40, 41, 42, 43, 44, 45, 46, 47, 48, 49, 53, 54, 55, 56, 57, 58, 59, 60, 61, 62, 63, 64, 65, 66, 67, 68, 69, 70, 71, 72, 73, 74] rfl (by decide +kernel)
set_option maxRecDepth 20000 in
theorem gX2_takeBack_X6_copyFrom : GoodIn wsX2_takeBack (wsV RX2 22 RX6 yX6_copyFrom wsX6_copyFrom) := goodIn_app (goodIn_of _ (by decide +kernel)) ggX2_takeBack_X6_copyFrom
set_option maxRecDepth 20000 in
theorem ggX3_carryOut_X0_numberOf : GoodIn wsX3_carryOut wsX0_numberOf := goodIn_ca (goodIn_r _ [5, 6, 7, 236, 237, 238, 239, 240, 241, 242, 243] rfl (by decide +kernel)) (goodIn_sub (fun _ h => List.mem_cons_of_mem _ (List.mem_append_right _ h)) (by decide +kernel))
set_option maxRecDepth 20000 in
theorem gX3_carryOut_X0_numberOf : GoodIn wsX3_carryOut (wsV RX3 23 RX0 yX0_numberOf wsX0_numberOf) := goodIn_app (goodIn_of _ (by decide +kernel)) ggX3_carryOut_X0_numberOf
set_option maxRecDepth 20000 in
theorem ggX3_carryOut_X0_kindOf : GoodIn wsX3_carryOut wsX0_kindOf := goodIn_ca (goodIn_r _ [11, 6, 12, 236, 237, 238, 239, 240, 241, 242, 243] rfl (by decide +kernel)) (goodIn_sub (fun _ h => List.mem_cons_of_mem _ (List.mem_append_right _ h)) (by decide +kernel))
set_option maxRecDepth 20000 in
theorem gX3_carryOut_X0_kindOf : GoodIn wsX3_carryOut (wsV RX3 29 RX0 yX0_kindOf wsX0_kindOf) := goodIn_app (goodIn_of _ (by decide +kernel)) ggX3_carryOut_X0_kindOf
set_option maxRecDepth 20000 in
theorem ggX3_carryOut_X3_tellLeaves : GoodIn wsX3_carryOut wsX3_tellLeaves := goodIn_ca (goodIn_r _ [17, 18, 19, 20, 21, 22, 23, 24, 25, 26, 27, 28, 29, 30, 16, 31, 32, 33, 34, 35, 36, 37, 38, 39, 40, 41, 42, 43, 44, 45, 46, 47, 48, 49, 50, 51, 52, 53, 54, 55, 56, 57, 244, 245, 246, 247, 248, 249, 250, 251, 252, 253, 254, 255, 256, 257, 258, 259] rfl (by decide +kernel)) (goodIn_sub (fun _ h => List.mem_cons_of_mem _ (List.mem_append_right _ h)) (by decide +kernel))
set_option maxRecDepth 20000 in
theorem gX3_carryOut_X3_tellLeaves : GoodIn wsX3_carryOut (wsV RX3 33 RX3 yX3_tellLeaves wsX3_tellLeaves) := goodIn_app (goodIn_of _ (by decide +kernel)) ggX3_carryOut_X3_tellLeaves
set_option maxRecDepth 20000 in
theorem ggX3_carryOut_X3_passSummer : GoodIn wsX3_carryOut wsX3_passSummer := goodIn_ca (goodIn_r _ [61, 19, 62, 63, 64, 38, 65, 66, 67, 68, 69, 70, 50, 51, 52, 53, 71, 72, 73, 74, 43, 44, 34, 45, 244, 245, 246, 247, 248, 249, 250, 251, 252, 253, 254, 255, 259] rfl (by decide +kernel)) (goodIn_sub (fun _ h => List.mem_cons_of_mem _ (List.mem_append_right _ h)) (by decide +kernel))
set_option maxRecDepth 20000 in
theorem gX3_carryOut_X3_passSummer : GoodIn wsX3_carryOut (wsV RX3 37 RX3 yX3_passSummer wsX3_passSummer) := goodIn_app (goodIn_of _ (by decide +kernel)) ggX3_carryOut_X3_passSummer
set_option maxRecDepth 20000 in
theorem ggX3_carryOut_X3_trimHedge : GoodIn wsX3_carryOut wsX3_trimHedge := goodIn_ca (goodIn_r _ [78, 19, 18, 79, 80, 81, 82, 83, 84, 85, 20, 21, 22, 23, 24, 25, 26, 27, 28, 29, 30, 16, 31, 32, 33, 34, 35, 36, 37, 38, 39, 40, 41, 42, 43, 44, 45, 46, 47, 48, 49, 50, 51, 52, 53, 54, 55, 56, 57, 244, 245, 246, 247, 248, 249, 250, 251, 252, 253, 254, 255, 260, 261, 262, 263, 256, 257, 258, 259] rfl (by decide +kernel)) (goodIn_sub (fun _ h => List.mem_cons_of_mem _ (List.mem_append_right _ h)) (by decide +kernel))
set_option maxRecDepth 20000 in
theorem gX3_carryOut_X3_trimHedge : GoodIn wsX3_carryOut (wsV RX3 41 RX3 yX3_trimHedge wsX3_trimHedge) := goodIn_app (goodIn_of _ (by decide +kernel)) ggX3_carryOut_X3_trimHedge
set_option maxRecDepth 20000 in
theorem ggX3_carryOut_X3_placeMinotaur : GoodIn wsX3_carryOut wsX3_placeMinotaur := goodIn_r _ [89, 18, 19, 36, 37, 38, 39, 20, 21, 22, 23, 24, 25, 26, 27, 90, 91, 92, 16, 93, 94, 95, 96, 97, 98, 99, 100, 101, 102, 103, 104, 105, 106, 107, 108, 109, 110, 111, 112, 113, 82, 114, 115, 116, 117, 244, 245, 246, 247, 248, 249, 250, 251, 252, 253, 254, 255, 256, 257, 258, 264, 265, 266, 267, 268, 269, 270, 271] rfl (by decide +kernel)
set_option maxRecDepth 20000 in
theorem gX3_carryOut_X3_placeMinotaur : GoodIn wsX3_carryOut (wsV RX3 44 RX3 yX3_placeMinotaur wsX3_placeMinotaur) := goodIn_app (goodIn_of _ (by decide +kernel)) ggX3_carryOut_X3_placeMinotaur
set_option maxRecDepth 20000 in
theorem ggX3_carryOut_X3_admitGardener : GoodIn wsX3_carryOut wsX3_admitGardener := goodIn_r _ [121, 18, 19, 20, 21, 22, 23, 24, 25, 26, 27, 122, 123, 124, 125, 126, 127, 128, 129, 130, 244, 245, 246, 247, 248, 249, 250, 251, 252, 253, 254, 255, 256, 257, 258, 260, 261, 262, 263] rfl (by decide +kernel)
set_option maxRecDepth 20000 in
theorem gX3_carryOut_X3_admitGardener : GoodIn wsX3_carryOut (wsV RX3 48 RX3 yX3_admitGardener wsX3_admitGardener) := goodIn_app (goodIn_of _ (by decide +kernel)) ggX3_carryOut_X3_admitGardener
set_option maxRecDepth 20000 in
theorem ggX3_carryOut_X3_admitVisitor : GoodIn wsX3_carryOut wsX3_admitVisitor := goodIn_ca (goodIn_r _ [134, 18, 19, 135, 20, 21, 22, 23, 24, 25, 26, 27, 136, 137, 138, 139, 140, 141, 142, 143, 144, 145, 146, 147, 148, 149, 150, 151, 152, 153, 154, 155, 156, 37, 38, 39, 157, 158, 159, 47, 48, 160, 67, 68, 69, 70, 50, 51, 52, 53, 161, 162, 163, 164, 165, 166, 167, 168, 169, 170, 171, 172, 173, 174, 175, 176, 177, 178, 179, 180, 181, 182, 183, 184, 185, 186, 97, 187, 188, 100, 189, 190, 99, 191, 192, 193, 194, 110, 195, 105, 244, 245, 246, 247, 248, 249, 250, 251, 252, 253, 254, 255, 256, 257, 258, 272, 273, 274, 259, 264, 265, 266, 267, 268, 269, 270, 271] rfl (by decide +kernel)) (goodIn_sub (fun _ h => List.mem_cons_of_mem _ (List.mem_append_right _ h)) (by decide +kernel))
set_option maxRecDepth 20000 in
theorem gX3_carryOut_X3_admitVisitor : GoodIn wsX3_carryOut (wsV RX3 51 RX3 yX3_admitVisitor wsX3_admitVisitor) := goodIn_app (goodIn_of _ (by decide +kernel)) ggX3_carryOut_X3_admitVisitor
set_option maxRecDepth 20000 in
theorem ggX3_carryOut_X3_giveBond : GoodIn wsX3_carryOut wsX3_giveBond := goodIn_r _ [199, 19, 18, 79, 80, 81, 82, 83, 84, 85, 20, 21, 22, 23, 24, 25, 26, 27, 200, 201, 202, 203, 115, 116, 204, 107, 108, 97, 109, 110, 94, 95, 96, 98, 99, 100, 205, 206, 207, 208, 195, 105, 244, 245, 246, 247, 248, 249, 250, 251, 252, 253, 254, 255, 264, 265, 266, 267, 268, 269, 270, 271, 260, 261, 262, 263, 256, 257, 258] rfl (by decide +kernel)
set_option maxRecDepth 20000 in
theorem gX3_carryOut_X3_giveBond : GoodIn wsX3_carryOut (wsV RX3 54 RX3 yX3_giveBond wsX3_giveBond) := goodIn_app (goodIn_of _ (by decide +kernel)) ggX3_carryOut_X3_giveBond
set_option maxRecDepth 20000 in
theorem ggX3_carryOut_X3_moveVisitor : GoodIn wsX3_carryOut wsX3_moveVisitor := goodIn_ca (goodIn_r _ [212, 19, 18, 200, 201, 202, 82, 203, 115, 116, 20, 21, 22, 23, 24, 25, 26, 27, 213, 214, 38, 215, 40, 41, 42, 43, 44, 34, 45, 46, 33, 35, 47, 48, 216, 67, 68, 69, 70, 50, 51, 52, 53, 49, 90, 91, 92, 16, 93, 94, 95, 96, 97, 98, 99, 100, 101, 102, 103, 104, 105, 106, 107, 108, 109, 110, 217, 218, 219, 220, 221, 79, 80, 81, 83, 84, 85, 222, 223, 224, 225, 195, 226, 227, 228, 229, 189, 190, 230, 231, 192, 193, 194, 244, 245, 246, 247, 248, 249, 250, 251, 252, 253, 254, 255, 264, 265, 266, 267, 268, 269, 270, 271, 256, 257, 258, 259, 260, 261, 262, 263] rfl (by decide +kernel)) (goodIn_sub (fun _ h => List.mem_cons_of_mem _ (List.mem_append_right _ h)) (by decide +kernel))
