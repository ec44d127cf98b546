set_option maxRecDepth 20000 in
theorem gX9_gardenerAsked_X6_findGardener : GoodIn wsX9_gardenerAsked (wsV RX9 231 RX6 yX6_findGardener wsX6_findGardener) := goodIn_app (goodIn_of _ (by decide +kernel)) ggX9_gardenerAsked_X6_findGardener
set_option maxRecDepth 20000 in
theorem ggX9_visitorAsked_X6_findVisitor : GoodIn wsX9_visitorAsked wsX6_findVisitor := goodIn_r _ [8, 9, 10, 21, 22, 23, 24, 25, 26, 27, 28, 29] (by decide +kernel) (by decide +kernel)
set_option maxRecDepth 20000 in
theorem gX9_visitorAsked_X6_findVisitor : GoodIn wsX9_visitorAsked (wsV RX9 253 RX6 yX6_findVisitor wsX6_findVisitor) := goodIn_app (goodIn_of _ (by decide +kernel)) ggX9_visitorAsked_X6_findVisitor
set_option maxRecDepth 20000 in
theorem ggX9_ranked_X9_visitorPlaced : GoodIn wsX9_ranked wsX9_visitorPlaced := goodIn_ca (goodIn_r _ [7, 8, 9, 10, 11, 12, 13, 14, 15, 16, 17, 18, 19, 20, 21, 22, 23, 24, 25, 26, 27, 28, 29, 30, 31, 32, 33, 34, 35, 36, 37, 38, 39, 40, 41, 42, 43, 44, 45, 46, 47, 48, 49, 50, 51, 52, 53, 54, 55, 56, 57, 58, 59, 60, 61, 62, 63, 64, 65, 66, 67, 68, 69] (by decide +kernel) (by decide +kernel)) (goodIn_sub (fun _ h => List.mem_cons_of_mem _ (List.mem_append_right _ h)) (by decide +kernel))
set_option maxRecDepth 20000 in
theorem gX9_ranked_X9_visitorPlaced : GoodIn wsX9_ranked (wsV RX9 258 RX9 yX9_visitorPlaced wsX9_visitorPlaced) := goodIn_app (goodIn_of _ (by decide +kernel)) ggX9_ranked_X9_visitorPlaced
set_option maxRecDepth 20000 in
theorem ggX9_visitorPlaced_X6_visitorsAhead : GoodIn wsX9_visitorPlaced wsX6_visitorsAhead := goodIn_r _ [8, 9, 10, 11, 12, 13, 7, 14, 15, 16, 17, 18, 19, 20, 21, 22, 23, 24, 25, 26, 27, 28, 29, 30, 31, 32, 33, 34, 35, 46, 47, 48, 49, 50, 51, 52, 53, 54, 55, 56, 57, 58, 59, 60, 61, 62] (by decide +kernel) (by decide +kernel)
set_option maxRecDepth 20000 in
theorem gX9_visitorPlaced_X6_visitorsAhead : GoodIn wsX9_visitorPlaced (wsV RX9 266 RX6 yX6_visitorsAhead wsX6_visitorsAhead) := goodIn_app (goodIn_of _ (by decide +kernel)) ggX9_visitorPlaced_X6_visitorsAhead
set_option maxRecDepth 20000 in
theorem ggX9_richest_X6_gardenersAhead : GoodIn wsX9_richest wsX6_gardenersAhead := goodIn_r _ [8, 9, 10, 11, 12, 7, 13, 14, 15, 16, 17, 18, 19, 20, 21, 22, 23, 24, 25, 26, 27, 28, 29, 30, 31, 32, 33, 34, 35, 36, 37, 38, 39, 40, 41, 52, 53, 54, 55, 56, 57, 58, 59, 60, 61, 62, 63, 64, 65, 66, 67, 68, 69, 70, 71, 72] (by decide +kernel) (by decide +kernel)
set_option maxRecDepth 20000 in
theorem gX9_richest_X6_gardenersAhead : GoodIn wsX9_richest (wsV RX9 274 RX6 yX6_gardenersAhead wsX6_gardenersAhead) := goodIn_app (goodIn_of _ (by decide +kernel)) ggX9_richest_X6_gardenersAhead
set_option maxRecDepth 20000 in
theorem ggX9_append_X0_add : GoodIn wsX9_append wsX0_add := goodIn_ca (goodIn_r _ [8, 9, 10, 21, 22, 23, 24, 25, 26, 27, 28] (by decide +kernel) (by decide +kernel)) (goodIn_sub (fun _ h => List.mem_cons_of_mem _ (List.mem_append_right _ h)) (by decide +kernel))
set_option maxRecDepth 20000 in
theorem gX9_append_X0_add : GoodIn wsX9_append (wsV RX9 285 RX0 yX0_add wsX0_add) := goodIn_app (goodIn_of _ (by decide +kernel)) ggX9_append_X0_add
set_option maxRecDepth 20000 in
theorem ggX9_commands_X0_takeCommands : GoodIn wsX9_commands wsX0_takeCommands := goodIn_ca (goodIn_r _ [14, 15, 16, 17, 18, 19, 20, 21, 13, 22, 23, 24, 25, 26, 27, 28, 29, 30, 31, 32, 33, 34, 35, 36, 37, 38, 39, 40, 41, 42, 43, 44, 45, 46, 47, 48, 49, 50, 51, 52, 53, 54, 55, 56, 57, 58, 59, 60, 61, 62, 63, 64, 65, 66, 67, 68, 69, 70, 71, 72, 73, 74, 75, 76, 77, 78, 79, 80, 81, 82, 83, 84, 85, 86, 87, 88, 89, 90, 91, 92, 93, 94, 95, 96, 97, 98, 99, 100, 101, 102, 389, 390, 391, 392, 393, 394, 395, 396, 400, 401, 402, 403] (by decide +kernel) (by decide +kernel)) (goodIn_sub (fun _ h => List.mem_cons_of_mem _ (List.mem_append_right _ h)) (by decide +kernel))
set_option maxRecDepth 20000 in
theorem gX9_commands_X0_takeCommands : GoodIn wsX9_commands (wsV RX9 289 RX0 yX0_takeCommands wsX0_takeCommands) := goodIn_app (goodIn_of _ (by decide +kernel)) ggX9_commands_X0_takeCommands
set_option maxRecDepth 20000 in
theorem ggX9_commands_X6_copyFrom : GoodIn wsX9_commands wsX6_copyFrom := goodIn_r _ [107, 108, 109, 110, 111, 112, 113, 114, 115, 116, 117, 118, 119, 120, 121, 122, 123, 124, 125, 126, 127, 128, 129, 130, 131, 132, 133, 134, 135, 136, 137, 138, 139, 140, 141, 142, 143, 144, 145, 146, 147, 148, 404, 405, 406, 407, 408, 409, 410, 411, 412, 413, 414, 415, 416, 417, 418, 419, 420, 421, 422, 423, 424, 425] (by decide +kernel) (by decide +kernel)
set_option maxRecDepth 20000 in
theorem gX9_commands_X6_copyFrom : GoodIn wsX9_commands (wsV RX9 76 RX6 yX6_copyFrom wsX6_copyFrom) := goodIn_app (goodIn_of _ (by decide +kernel)) ggX9_commands_X6_copyFrom
set_option maxRecDepth 20000 in
theorem ggX9_commands_X3_carryOut : GoodIn wsX9_commands wsX3_carryOut := goodIn_ca (goodIn_r _ [153, 154, 155, 156, 13, 157, 16, 94, 158, 159, 160, 161, 24, 162, 163, 164, 152, 165, 166, 167, 168, 169, 170, 171, 172, 173, 174, 175, 176, 177, 178, 179, 180, 181, 182, 183, 184, 185, 120, 186, 187, 188, 189, 190, 191, 192, 193, 194, 195, 196, 197, 198, 199, 122, 200, 201, 202, 203, 204, 205, 206, 207, 208, 209, 210, 211, 212, 213, 214, 215, 216, 217, 218, 219, 220, 221, 222, 223, 224, 225, 226, 227, 106, 228, 111, 109, 229, 230, 231, 232, 233, 234, 235, 236, 237, 238, 239, 139, 240, 148, 142, 241, 242, 243, 244, 147, 245, 246, 247, 248, 145, 249, 250, 251, 252, 112, 110, 253, 254, 255, 256, 257, 258, 259, 260, 130, 261, 132, 133, 134, 135, 262, 263, 264, 265, 266, 267, 268, 269, 270, 271, 272, 273, 274, 275, 276, 277, 278, 279, 280, 281, 282, 283, 284, 285, 286, 287, 288, 289, 290, 291, 292, 293, 294, 295, 296, 297, 298, 299, 300, 301, 302, 303, 304, 305, 306, 307, 308, 309, 310, 311, 312, 313, 314, 315, 316, 317, 318, 141, 143, 144, 319, 320, 321, 322, 146, 323, 324, 325, 326, 327, 328, 329, 330, 331, 332, 333, 334, 335, 336, 337, 338, 339, 340, 341, 342, 343, 344, 345, 346, 347, 348, 349, 350, 351, 352, 353, 354, 355, 356, 357, 358, 359, 360, 361, 362, 389, 390, 391, 392, 393, 394, 395, 396, 426, 427, 428, 404, 405, 406, 407, 408, 409, 410, 411, 412, 397, 398, 399, 413, 414, 415, 416, 417, 418, 419, 420, 421, 422, 423, 424, 425, 429, 430, 431] (by decide +kernel) (by decide +kernel)) (goodIn_sub (fun _ h => List.mem_cons_of_mem _ (List.mem_append_right _ h)) (by decide +kernel))
set_option maxRecDepth 20000 in
theorem gX9_commands_X3_carryOut : GoodIn wsX9_commands (wsV RX9 298 RX3 yX3_carryOut wsX3_carryOut) := goodIn_app (goodIn_of _ (by decide +kernel)) ggX9_commands_X3_carryOut
set_option maxRecDepth 20000 in
theorem ggX9_commands_X9_settled : GoodIn wsX9_commands wsX9_settled := goodIn_ca (goodIn_r _ [367, 3, 4, 368, 6, 369, 370, 371, 372, 373, 374, 375, 376, 377, 191, 182, 192, 378, 104, 105, 106, 107, 108, 109, 110, 111, 112, 113, 114, 115, 116, 117, 118, 119, 120, 121, 122, 123, 124, 125, 126, 127, 128, 129, 130, 131, 132, 133, 134, 135, 136, 137, 138, 139, 140, 141, 142, 143, 144, 145, 146, 147, 148, 379, 380, 381, 382, 383, 384, 385, 386, 387, 388, 432, 433, 434, 404, 405, 406, 407, 408, 409, 410, 411, 412, 413, 414, 415, 416, 417, 418, 419, 420, 421, 422, 423, 424, 425] (by decide +kernel) (by decide +kernel)) (goodIn_sub (fun _ h => List.mem_cons_of_mem _ (List.mem_append_left _ (List.mem_append_right _ h))) (by decide +kernel))
set_option maxRecDepth 20000 in
theorem gX9_commands_X9_settled : GoodIn wsX9_commands (wsV RX9 84 RX9 yX9_settled wsX9_settled) := goodIn_app (goodIn_of _ (by decide +kernel)) ggX9_commands_X9_settled
set_option maxRecDepth 20000 in
theorem ggX9_line_X9_visitorAsked : GoodIn wsX9_line wsX9_visitorAsked := goodIn_ca (goodIn_r _ [6, 7, 8, 9, 10, 11, 12, 13, 14, 15, 16, 256, 257, 258, 259, 260, 261, 262, 263, 264, 265, 274, 275, 276, 277, 278, 279, 280, 281, 282] (by decide +kernel) (by decide +kernel)) (goodIn_sub (fun _ h => List.mem_cons_of_mem _ (List.mem_append_right _ h)) (by decide +kernel))
set_option maxRecDepth 20000 in
theorem gX9_line_X9_visitorAsked : GoodIn wsX9_line (wsV RX9 217 RX9 yX9_visitorAsked wsX9_visitorAsked) := goodIn_app (goodIn_of _ (by decide +kernel)) ggX9_line_X9_visitorAsked
set_option maxRecDepth 20000 in
theorem ggX9_line_J4_setLength_d00df : GoodIn wsX9_line wsJ4_setLength_d00df := goodIn_r _ [21, 22, 23, 24, 25, 26, 27, 28, 29, 30, 31, 32, 33, 34, 35, 36, 37, 38, 39, 40, 41, 42, 43, 44, 45, 46, 47, 48, 49, 50, 51, 52, 53, 54, 55, 56, 57, 58, 59, 60, 61, 62, 63, 64, 65, 66, 67, 68, 69, 70, 71, 72, 73, 74, 75, 76, 77, 78, 79, 80, 81, 82, 83, 84, 85, 86, 87, 88, 89, 90, 91, 92, 93, 20, 94, 95, 96, 97, 98, 99, 100, 101, 283, 284, 285, 286, 287, 288, 289, 290, 291, 292, 293, 294, 295, 296, 297, 298] (by decide +kernel) (by decide +kernel)
set_option maxRecDepth 20000 in
theorem gX9_line_J4_setLength_d00df : GoodIn wsX9_line (wsV RX9 320 RJ4 yJ4_setLength_d00df wsJ4_setLength_d00df) := goodIn_app (goodIn_of _ (by decide +kernel)) ggX9_line_J4_setLength_d00df
set_option maxRecDepth 20000 in
theorem ggX9_line_J4_append_15ec4 : GoodIn wsX9_line wsJ4_append_15ec4 := goodIn_r _ [105, 106, 107, 24, 108, 26, 109, 31, 110, 111, 112, 113, 114, 32, 34, 35, 36, 37, 38, 39, 40, 41, 42, 43, 44, 45, 46, 47, 48, 49, 50, 51, 52, 53, 54, 55, 56, 57, 58, 59, 60, 61, 62, 63, 64, 65, 66, 67, 68, 69, 70, 71, 72, 73, 74, 75, 76, 77, 78, 79, 80, 81, 115, 116, 99, 117, 118, 119, 120, 121, 122, 123, 124, 125, 126, 127, 128, 129, 130, 131, 132, 133, 134, 135, 136, 137, 138, 139, 140, 141, 142, 143, 144, 145, 146, 147, 148, 149, 150, 151, 152, 153, 154, 155, 156, 157, 158, 159, 160, 161, 162, 163, 164, 165, 166, 167, 168, 169, 170, 171, 172, 173, 174, 84, 175, 176, 177, 178, 179, 180, 181, 182, 183, 184, 185, 186, 187, 188, 189, 190, 191, 192, 193, 289, 290, 291, 292, 299, 300, 301, 302] (by decide +kernel) (by decide +kernel)
set_option maxRecDepth 20000 in
theorem gX9_line_J4_append_15ec4 : GoodIn wsX9_line (wsV RX9 326 RJ4 yJ4_append_15ec4 wsJ4_append_15ec4) := goodIn_app (goodIn_of _ (by decide +kernel)) ggX9_line_J4_append_15ec4
set_option maxRecDepth 20000 in
theorem ggX9_line_J4_append_bf812 : GoodIn wsX9_line wsJ4_append_bf812 := goodIn_r _ [197, 198, 199, 24, 200, 26, 201, 31, 32, 202, 203, 204, 205, 34, 35, 36, 37, 38, 39, 40, 41, 42, 43, 44, 45, 46, 47, 48, 49, 50, 51, 52, 53, 54, 55, 56, 57, 58, 59, 60, 61, 62, 63, 64, 65, 66, 67, 68, 69, 70, 71, 72, 73, 74, 75, 76, 77, 78, 79, 80, 81, 206, 207, 208, 209, 210, 211, 212, 99, 213, 118, 119, 120, 121, 122, 123, 124, 125, 126, 127, 128, 129, 130, 131, 132, 133, 214, 215, 216, 217, 218, 134, 135, 136, 137, 138, 289, 290, 291, 292] (by decide +kernel) (by decide +kernel)
set_option maxRecDepth 20000 in
theorem gX9_line_J4_append_bf812 : GoodIn wsX9_line (wsV RX9 330 RJ4 yJ4_append_bf812 wsJ4_append_bf812) := goodIn_app (goodIn_of _ (by decide +kernel)) ggX9_line_J4_append_bf812
set_option maxRecDepth 20000 in
theorem ggX9_line_J4_append_cf468 : GoodIn wsX9_line wsJ4_append_cf468 := goodIn_r _ [222, 223, 224, 24, 225, 26, 226, 31, 32, 34, 35, 36, 37, 38, 39, 40, 41, 42, 43, 44, 45, 46, 47, 48, 49, 50, 51, 52, 53, 54, 55, 56, 57, 58, 59, 60, 61, 62, 63, 64, 65, 66, 67, 68, 69, 70, 71, 72, 73, 74, 75, 76, 77, 78, 79, 80, 81, 227, 228, 84, 229, 161, 162, 163, 164, 165, 166, 167, 99, 168, 169, 170, 171, 172, 173, 174, 175, 176, 177, 178, 179, 180, 181, 122, 123, 124, 182, 183, 127, 184, 129, 185, 186, 132, 187, 134, 135, 136, 118, 137, 138, 230, 231, 232, 233, 234, 235, 236, 237, 238, 239, 240, 241, 289, 290, 291, 292] (by decide +kernel) (by decide +kernel)
set_option maxRecDepth 20000 in
theorem gX9_line_J4_append_cf468 : GoodIn wsX9_line (wsV RX9 333 RJ4 yJ4_append_cf468 wsJ4_append_cf468) := goodIn_app (goodIn_of _ (by decide +kernel)) ggX9_line_J4_append_cf468
set_option maxRecDepth 20000 in
theorem ggX9_line_X7_hasBond : GoodIn wsX9_line wsX7_hasBond := goodIn_r _ [246, 247, 266, 267, 268, 269, 270, 271, 272, 273] (by decide +kernel) (by decide +kernel)
set_option maxRecDepth 20000 in
theorem gX9_line_X7_hasBond : GoodIn wsX9_line (wsV RX9 339 RX7 yX7_hasBond wsX7_hasBond) := goodIn_app (goodIn_of _ (by decide +kernel)) ggX9_line_X7_hasBond
set_option maxRecDepth 20000 in
theorem ggX9_line_J4_length_8abf5 : GoodIn wsX9_line wsJ4_length_8abf5 := goodIn_r _ [251, 252, 253, 24, 254, 26, 255, 31, 289, 290, 291, 292] (by decide +kernel) (by decide +kernel)
set_option maxRecDepth 20000 in
theorem gX9_line_J4_length_8abf5 : GoodIn wsX9_line (wsV RX9 348 RJ4 yJ4_length_8abf5 wsJ4_length_8abf5) := goodIn_app (goodIn_of _ (by decide +kernel)) ggX9_line_J4_length_8abf5
set_option maxRecDepth 20000 in
theorem ggX9_row_J4_setLength_d00df : GoodIn wsX9_row wsJ4_setLength_d00df := goodIn_r _ [9, 10, 11, 12, 13, 14, 15, 16, 17, 18, 19, 20, 21, 22, 23, 24, 25, 26, 27, 28, 29, 30, 31, 32, 33, 34, 35, 36, 37, 38, 39, 40, 41, 42, 43, 44, 45, 46, 47, 48, 49, 50, 51, 52, 53, 54, 55, 56, 57, 58, 59, 60, 61, 62, 63, 64, 65, 66, 67, 68, 69, 70, 71, 72, 73, 74, 75, 76, 77, 78, 79, 80, 81, 8, 82, 83, 84, 85, 86, 87, 88, 89, 244, 245, 246, 247, 248, 249, 250, 251, 252, 253, 254, 255, 256, 257, 258, 259] (by decide +kernel) (by decide +kernel)
set_option maxRecDepth 20000 in
theorem gX9_row_J4_setLength_d00df : GoodIn wsX9_row (wsV RX9 320 RJ4 yJ4_setLength_d00df wsJ4_setLength_d00df) := goodIn_app (goodIn_of _ (by decide +kernel)) ggX9_row_J4_setLength_d00df
set_option maxRecDepth 20000 in
theorem ggX9_row_J4_append_cf468 : GoodIn wsX9_row wsJ4_append_cf468 := goodIn_r _ [93, 94, 95, 12, 96, 14, 97, 19, 20, 22, 23, 24, 25, 26, 27, 28, 29, 30, 31, 32, 33, 34, 35, 36, 37, 38, 39, 40, 41, 42, 43, 44, 45, 46, 47, 48, 49, 50, 51, 52, 53, 54, 55, 56, 57, 58, 59, 60, 61, 62, 63, 64, 65, 66, 67, 68, 69, 98, 99, 72, 100, 101, 102, 103, 104, 105, 106, 107, 87, 108, 109, 110, 111, 112, 113, 114, 115, 116, 117, 118, 119, 120, 121, 122, 123, 124, 125, 126, 127, 128, 129, 130, 131, 132, 133, 134, 135, 136, 137, 138, 139, 140, 141, 142, 143, 144, 145, 146, 147, 148, 149, 150, 151, 250, 251, 252, 253] (by decide +kernel) (by decide +kernel)
set_option maxRecDepth 20000 in
theorem gX9_row_J4_append_cf468 : GoodIn wsX9_row (wsV RX9 333 RJ4 yJ4_append_cf468 wsJ4_append_cf468) := goodIn_app (goodIn_of _ (by decide +kernel)) ggX9_row_J4_append_cf468
set_option maxRecDepth 20000 in
theorem ggX9_row_X6_visitorsIn : GoodIn wsX9_row wsX6_visitorsIn := goodIn_r _ [156, 157, 158, 159, 160, 161, 162, 163, 164, 165, 235, 236, 237, 238, 239, 240, 241, 242, 243, 260, 261, 262, 263, 264, 265, 266, 267] (by decide +kernel) (by decide +kernel)
set_option maxRecDepth 20000 in
theorem gX9_row_X6_visitorsIn : GoodIn wsX9_row (wsV RX9 355 RX6 yX6_visitorsIn wsX6_visitorsIn) := goodIn_app (goodIn_of _ (by decide +kernel)) ggX9_row_X6_visitorsIn
set_option maxRecDepth 20000 in
theorem ggX9_row_J4_append_bf812 : GoodIn wsX9_row wsJ4_append_bf812 := goodIn_r _ [169, 170, 171, 12, 172, 14, 173, 19, 20, 174, 175, 176, 177, 22, 23, 24, 25, 26, 27, 28, 29, 30, 31, 32, 33, 34, 35, 36, 37, 38, 39, 40, 41, 42, 43, 44, 45, 46, 47, 48, 49, 50, 51, 52, 53, 54, 55, 56, 57, 58, 59, 60, 61, 62, 63, 64, 65, 66, 67, 68, 69, 178, 179, 180, 181, 182, 183, 184, 87, 185, 137, 186, 187, 188, 122, 123, 124, 189, 190, 127, 191, 129, 192, 193, 132, 194, 195, 196, 197, 198, 199, 134, 135, 136, 138, 139, 250, 251, 252, 253] (by decide +kernel) (by decide +kernel)
set_option maxRecDepth 20000 in
theorem gX9_row_J4_append_bf812 : GoodIn wsX9_row (wsV RX9 330 RJ4 yJ4_append_bf812 wsJ4_append_bf812) := goodIn_app (goodIn_of _ (by decide +kernel)) ggX9_row_J4_append_bf812
set_option maxRecDepth 20000 in
theorem ggX9_row_X4_hedgeBetween : GoodIn wsX9_row wsX4_hedgeBetween := goodIn_ca (goodIn_r _ [203, 204, 58, 40, 59, 205, 39, 41, 206, 207] (by decide +kernel) (by decide +kernel)) (goodIn_sub (fun _ h => List.mem_cons_of_mem _ (List.mem_append_right _ h)) (by decide +kernel))
set_option maxRecDepth 20000 in
theorem gX9_row_X4_hedgeBetween : GoodIn wsX9_row (va_wsS RX9 136 yX4_hedgeBetween wsX4_hedgeBetween) := goodIn_app (goodIn_of _ (by decide +kernel)) ggX9_row_X4_hedgeBetween
set_option maxRecDepth 20000 in
theorem ggX9_row_X4_isOpen : GoodIn wsX9_row wsX4_isOpen := goodIn_ca (goodIn_r _ [211, 212, 213, 214, 202, 215, 216, 268] (by decide +kernel) (by decide +kernel)) (goodIn_sub (fun _ h => List.mem_cons_of_mem _ (List.mem_append_right _ h)) (by decide +kernel))
set_option maxRecDepth 20000 in
theorem gX9_row_X4_isOpen : GoodIn wsX9_row (wsV RX9 139 RX4 yX4_isOpen wsX4_isOpen) := goodIn_app (goodIn_of _ (by decide +kernel)) ggX9_row_X4_isOpen
set_option maxRecDepth 20000 in
theorem ggX9_row_J4_length_8abf5 : GoodIn wsX9_row wsJ4_length_8abf5 := goodIn_r _ [220, 221, 222, 12, 223, 14, 224, 19, 250, 251, 252, 253] (by decide +kernel) (by decide +kernel)
set_option maxRecDepth 20000 in
theorem gX9_row_J4_length_8abf5 : GoodIn wsX9_row (wsV RX9 348 RJ4 yJ4_length_8abf5 wsJ4_length_8abf5) := goodIn_app (goodIn_of _ (by decide +kernel)) ggX9_row_J4_length_8abf5
set_option maxRecDepth 20000 in
theorem ggX9_character_J4_length_8abf5 : GoodIn wsX9_character wsJ4_length_8abf5 := goodIn_r _ [8, 9, 10, 11, 12, 13, 14, 15, 59, 60, 61, 62] (by decide +kernel) (by decide +kernel)
set_option maxRecDepth 20000 in
theorem gX9_character_J4_length_8abf5 : GoodIn wsX9_character (wsV RX9 348 RJ4 yJ4_length_8abf5 wsJ4_length_8abf5) := goodIn_app (goodIn_of _ (by decide +kernel)) ggX9_character_J4_length_8abf5
set_option maxRecDepth 20000 in
theorem ggX9_character_J4_charAt_5068e : GoodIn wsX9_character wsJ4_charAt_5068e := goodIn_r _ [19, 20, 21, 11, 22, 13, 23, 24, 25, 15, 26, 27, 28, 29, 30, 31, 32, 33, 34, 35, 36, 37, 38, 39, 40, 41, 42, 43, 44, 45, 46, 47, 48, 59, 60, 61, 62] (by decide +kernel) (by decide +kernel)
