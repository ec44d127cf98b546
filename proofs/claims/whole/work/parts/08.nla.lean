theorem dL_hedge_0 : decode cL_hedge 0 = .ok (.aload 4, 2) := by decide +kernel
theorem dL_hedge_2 : decode cL_hedge 2 = .ok (.iconst 0, 1) := by decide +kernel
theorem dL_hedge_3 : decode cL_hedge 3 = .ok (.aload_n 0, 1) := by decide +kernel
theorem dL_hedge_4 : decode cL_hedge 4 = .ok (.iload_n 1, 1) := by decide +kernel
theorem dL_hedge_5 : decode cL_hedge 5 = .ok (.iload_n 2, 1) := by decide +kernel
theorem dL_hedge_6 : decode cL_hedge 6 = .ok (.iload_n 3, 1) := by decide +kernel
theorem dL_hedge_7 : decode cL_hedge 7 = .ok (.invokevirtual 7, 3) := by decide +kernel
theorem dL_hedge_10 : decode cL_hedge 10 = .ok (.i2l, 1) := by decide +kernel
theorem dL_hedge_11 : decode cL_hedge 11 = .ok (.lastore, 1) := by decide +kernel
theorem dL_hedge_12 : decode cL_hedge 12 = .ok (.goto 7, 3) := by decide +kernel
theorem dL_hedge_15 : decode cL_hedge 15 = .ok (.astore 5, 2) := by decide +kernel
theorem dL_hedge_17 : decode cL_hedge 17 = .ok (.iconst 1, 1) := by decide +kernel
theorem dL_hedge_18 : decode cL_hedge 18 = .ok (.ireturn, 1) := by decide +kernel
theorem dL_hedge_19 : decode cL_hedge 19 = .ok (.iconst 0, 1) := by decide +kernel
theorem dL_hedge_20 : decode cL_hedge 20 = .ok (.ireturn, 1) := by decide +kernel
set_option maxRecDepth 20000 in
theorem ggL_trim_X9_trim : GoodIn wsL_trim wsX9_trim := goodIn_ca (goodIn_ca (goodIn_r _ [6, 7, 8, 9, 10, 11, 12, 13, 14, 15, 16, 17, 18, 19, 20, 21, 22, 23, 24, 25, 26, 27, 28, 29, 30, 31, 32, 33, 34, 35, 36, 37, 38, 39, 40, 41, 42, 43, 44, 45, 46, 47, 48, 49, 50, 51, 52, 53, 54, 55, 56, 57, 58, 59, 60, 61, 62, 63, 64, 65, 66, 67, 68, 69, 70, 71, 72, 73, 74, 75, 76, 77, 78, 79, 80, 81, 82, 83, 84, 85, 86, 87, 88, 89, 90, 91, 92, 93, 94, 95, 96, 97, 98, 99, 100, 101, 102, 103, 104, 105, 5, 106, 107, 108, 109, 110, 111, 112, 113, 114, 115, 116, 117, 118, 119, 120, 121, 122, 123, 124, 125, 126, 127, 128, 129, 130, 131, 132, 133, 134, 135, 136, 137, 138, 139, 140, 141, 142, 143, 144, 145, 146, 147, 148, 149, 150, 151, 152, 153, 154, 155, 156, 157, 158, 159, 160] (by decide +kernel) (by decide +kernel)) (goodIn_sub (fun _ h => List.mem_cons_of_mem _ (List.mem_append_left _ (List.mem_append_right _ h))) (by decide +kernel))) (goodIn_sub (fun _ h => List.mem_cons_of_mem _ (List.mem_append_right _ h)) (by decide +kernel))
set_option maxRecDepth 20000 in
theorem gL_trim_X9_trim : GoodIn wsL_trim (wsV RL 15 RX9 yX9_trim wsX9_trim) := goodIn_app (goodIn_of _ (by decide +kernel)) ggL_trim_X9_trim
theorem dL_trim_0 : decode cL_trim 0 = .ok (.aload 4, 2) := by decide +kernel
theorem dL_trim_2 : decode cL_trim 2 = .ok (.iconst 0, 1) := by decide +kernel
theorem dL_trim_3 : decode cL_trim 3 = .ok (.aload_n 0, 1) := by decide +kernel
theorem dL_trim_4 : decode cL_trim 4 = .ok (.iload_n 1, 1) := by decide +kernel
theorem dL_trim_5 : decode cL_trim 5 = .ok (.iload_n 2, 1) := by decide +kernel
theorem dL_trim_6 : decode cL_trim 6 = .ok (.iload_n 3, 1) := by decide +kernel
theorem dL_trim_7 : decode cL_trim 7 = .ok (.invokevirtual 15, 3) := by decide +kernel
theorem dL_trim_10 : decode cL_trim 10 = .ok (.i2l, 1) := by decide +kernel
theorem dL_trim_11 : decode cL_trim 11 = .ok (.lastore, 1) := by decide +kernel
theorem dL_trim_12 : decode cL_trim 12 = .ok (.goto 7, 3) := by decide +kernel
theorem dL_trim_15 : decode cL_trim 15 = .ok (.astore 5, 2) := by decide +kernel
theorem dL_trim_17 : decode cL_trim 17 = .ok (.iconst 1, 1) := by decide +kernel
theorem dL_trim_18 : decode cL_trim 18 = .ok (.ireturn, 1) := by decide +kernel
theorem dL_trim_19 : decode cL_trim 19 = .ok (.iconst 0, 1) := by decide +kernel
theorem dL_trim_20 : decode cL_trim 20 = .ok (.ireturn, 1) := by decide +kernel
set_option maxRecDepth 20000 in
theorem ggL_minotaur_X9_minotaur : GoodIn wsL_minotaur wsX9_minotaur := goodIn_ca (goodIn_r _ [6, 7, 8, 9, 10, 11, 12, 13, 14, 15, 16, 17, 18, 19, 20, 21, 22, 23, 24, 25, 26, 27, 28, 29, 30, 31, 32, 33, 34, 35, 36, 37, 38, 39, 40, 41, 42, 43, 44, 45, 46, 47, 48, 49, 50, 51, 52, 53, 54, 55, 56, 57, 58, 59, 60, 61, 62, 63, 64, 65, 66, 67, 68, 69, 70, 71, 72, 73, 74, 75, 76, 77, 78, 79, 80, 81, 82, 83, 84, 85, 86, 87, 88, 89, 90, 91, 92, 93, 94, 95, 96, 97, 5, 98, 99, 100, 101, 102, 103, 104, 105, 106, 107, 108, 109, 110, 111, 112, 113, 114, 115, 116, 117, 118, 119, 120, 121, 122, 123, 124, 125, 126, 127, 128, 129, 130, 131, 132, 133, 134, 135, 136, 137, 138, 139, 140, 141, 142, 143, 144, 145, 146, 147, 148, 149, 150, 151, 152, 153, 154, 155] (by decide +kernel) (by decide +kernel)) (goodIn_sub (fun _ h => List.mem_cons_of_mem _ (List.mem_append_right _ h)) (by decide +kernel))
set_option maxRecDepth 20000 in
theorem gL_minotaur_X9_minotaur : GoodIn wsL_minotaur (wsV RL 18 RX9 yX9_minotaur wsX9_minotaur) := goodIn_app (goodIn_of _ (by decide +kernel)) ggL_minotaur_X9_minotaur
theorem dL_minotaur_0 : decode cL_minotaur 0 = .ok (.aload_n 2, 1) := by decide +kernel
theorem dL_minotaur_1 : decode cL_minotaur 1 = .ok (.iconst 0, 1) := by decide +kernel
theorem dL_minotaur_2 : decode cL_minotaur 2 = .ok (.aload_n 0, 1) := by decide +kernel
theorem dL_minotaur_3 : decode cL_minotaur 3 = .ok (.iload_n 1, 1) := by decide +kernel
theorem dL_minotaur_4 : decode cL_minotaur 4 = .ok (.invokevirtual 18, 3) := by decide +kernel
theorem dL_minotaur_7 : decode cL_minotaur 7 = .ok (.i2l, 1) := by decide +kernel
theorem dL_minotaur_8 : decode cL_minotaur 8 = .ok (.lastore, 1) := by decide +kernel
theorem dL_minotaur_9 : decode cL_minotaur 9 = .ok (.goto 6, 3) := by decide +kernel
theorem dL_minotaur_12 : decode cL_minotaur 12 = .ok (.astore_n 3, 1) := by decide +kernel
theorem dL_minotaur_13 : decode cL_minotaur 13 = .ok (.iconst 1, 1) := by decide +kernel
theorem dL_minotaur_14 : decode cL_minotaur 14 = .ok (.ireturn, 1) := by decide +kernel
theorem dL_minotaur_15 : decode cL_minotaur 15 = .ok (.iconst 0, 1) := by decide +kernel
theorem dL_minotaur_16 : decode cL_minotaur 16 = .ok (.ireturn, 1) := by decide +kernel
set_option maxRecDepth 20000 in
theorem ggL_gardener_X9_gardener : GoodIn wsL_gardener wsX9_gardener := goodIn_ca (goodIn_r _ [6, 7, 8, 9, 10, 11, 12, 13, 14, 15, 16, 17, 18, 19, 20, 21, 22, 23, 24, 25, 26, 27, 28, 29, 30, 31, 32, 33, 34, 35, 36, 37, 38, 39, 40, 41, 42, 43, 44, 45, 46, 47, 48, 49, 50, 51, 52, 53, 54, 55, 56, 57, 58, 59, 60, 61, 62, 63, 64, 65, 66, 67, 68, 69, 70, 71, 72, 73, 74, 75, 76, 77, 5, 78, 79, 80, 81, 82, 83, 84, 85, 86, 87, 88, 89, 90, 91, 92, 93, 94, 95, 96, 97, 98, 99, 100, 101, 102, 103, 104, 105, 106, 107, 108, 109, 110, 111, 112, 113, 114, 115, 116, 117, 118, 119, 120, 121, 122, 123, 124, 125, 126, 127, 128, 129, 130, 131, 132, 133, 134, 135] (by decide +kernel) (by decide +kernel)) (goodIn_sub (fun _ h => List.mem_cons_of_mem _ (List.mem_append_right _ h)) (by decide +kernel))
set_option maxRecDepth 20000 in
theorem gL_gardener_X9_gardener : GoodIn wsL_gardener (wsV RL 22 RX9 yX9_gardener wsX9_gardener) := goodIn_app (goodIn_of _ (by decide +kernel)) ggL_gardener_X9_gardener
theorem dL_gardener_0 : decode cL_gardener 0 = .ok (.aload_n 2, 1) := by decide +kernel
theorem dL_gardener_1 : decode cL_gardener 1 = .ok (.iconst 0, 1) := by decide +kernel
theorem dL_gardener_2 : decode cL_gardener 2 = .ok (.aload_n 0, 1) := by decide +kernel
theorem dL_gardener_3 : decode cL_gardener 3 = .ok (.iload_n 1, 1) := by decide +kernel
theorem dL_gardener_4 : decode cL_gardener 4 = .ok (.invokevirtual 22, 3) := by decide +kernel
theorem dL_gardener_7 : decode cL_gardener 7 = .ok (.i2l, 1) := by decide +kernel
theorem dL_gardener_8 : decode cL_gardener 8 = .ok (.lastore, 1) := by decide +kernel
theorem dL_gardener_9 : decode cL_gardener 9 = .ok (.goto 6, 3) := by decide +kernel
theorem dL_gardener_12 : decode cL_gardener 12 = .ok (.astore_n 3, 1) := by decide +kernel
theorem dL_gardener_13 : decode cL_gardener 13 = .ok (.iconst 1, 1) := by decide +kernel
theorem dL_gardener_14 : decode cL_gardener 14 = .ok (.ireturn, 1) := by decide +kernel
theorem dL_gardener_15 : decode cL_gardener 15 = .ok (.iconst 0, 1) := by decide +kernel
theorem dL_gardener_16 : decode cL_gardener 16 = .ok (.ireturn, 1) := by decide +kernel
set_option maxRecDepth 20000 in
theorem ggL_visitor_X9_visitor : GoodIn wsL_visitor wsX9_visitor := goodIn_ca (goodIn_ca (goodIn_r _ [6, 7, 8, 9, 10, 11, 12, 13, 14, 15, 16, 17, 18, 19, 20, 21, 22, 23, 24, 25, 26, 27, 28, 29, 30, 31, 32, 33, 34, 35, 36, 37, 38, 39, 40, 41, 42, 43, 44, 45, 46, 47, 48, 49, 50, 51, 52, 53, 54, 55, 56, 57, 58, 59, 60, 61, 62, 63, 64, 65, 66, 67, 68, 69, 70, 71, 72, 73, 74, 75, 76, 77, 78, 79, 80, 81, 82, 83, 84, 85, 86, 87, 88, 89, 90, 91, 92, 93, 94, 95, 96, 97, 98, 99, 100, 101, 102, 103, 104, 105, 106, 107, 108, 109, 110, 111, 112, 113, 114, 115, 116, 117, 118, 119, 120, 121, 122, 123, 124, 125, 126, 127, 128, 129, 130, 131, 132, 133, 134, 135, 136, 137, 138, 139, 140, 141, 5, 142, 143, 144, 145, 146, 147, 148, 149, 150, 151, 152, 153, 154, 155, 156, 157, 158, 159, 160, 161, 162, 163, 164, 165, 166, 167, 168, 169, 170, 171, 172, 173, 174, 175, 176, 177, 178, 179, 180, 181, 182, 183, 184, 185, 186, 187, 188, 189, 190, 191, 192, 193, 194, 195, 196, 197, 198, 199, 200, 201, 202] (by decide +kernel) (by decide +kernel)) (goodIn_sub (fun _ h => List.mem_cons_of_mem _ (List.mem_append_left _ (List.mem_append_right _ h))) (by decide +kernel))) (goodIn_sub (fun _ h => List.mem_cons_of_mem _ (List.mem_append_right _ h)) (by decide +kernel))
set_option maxRecDepth 20000 in
theorem gL_visitor_X9_visitor : GoodIn wsL_visitor (wsV RL 25 RX9 yX9_visitor wsX9_visitor) := goodIn_app (goodIn_of _ (by decide +kernel)) ggL_visitor_X9_visitor
theorem dL_visitor_0 : decode cL_visitor 0 = .ok (.aload_n 2, 1) := by decide +kernel
theorem dL_visitor_1 : decode cL_visitor 1 = .ok (.iconst 0, 1) := by decide +kernel
theorem dL_visitor_2 : decode cL_visitor 2 = .ok (.aload_n 0, 1) := by decide +kernel
theorem dL_visitor_3 : decode cL_visitor 3 = .ok (.iload_n 1, 1) := by decide +kernel
theorem dL_visitor_4 : decode cL_visitor 4 = .ok (.invokevirtual 25, 3) := by decide +kernel
theorem dL_visitor_7 : decode cL_visitor 7 = .ok (.i2l, 1) := by decide +kernel
theorem dL_visitor_8 : decode cL_visitor 8 = .ok (.lastore, 1) := by decide +kernel
theorem dL_visitor_9 : decode cL_visitor 9 = .ok (.goto 6, 3) := by decide +kernel
theorem dL_visitor_12 : decode cL_visitor 12 = .ok (.astore_n 3, 1) := by decide +kernel
theorem dL_visitor_13 : decode cL_visitor 13 = .ok (.iconst 1, 1) := by decide +kernel
theorem dL_visitor_14 : decode cL_visitor 14 = .ok (.ireturn, 1) := by decide +kernel
theorem dL_visitor_15 : decode cL_visitor 15 = .ok (.iconst 0, 1) := by decide +kernel
theorem dL_visitor_16 : decode cL_visitor 16 = .ok (.ireturn, 1) := by decide +kernel
set_option maxRecDepth 20000 in
theorem ggL_bond_X9_bond : GoodIn wsL_bond wsX9_bond := goodIn_ca (goodIn_r _ [6, 7, 8, 9, 10, 11, 12, 13, 14, 15, 16, 17, 18, 19, 20, 21, 22, 23, 24, 25, 26, 27, 28, 29, 30, 31, 32, 33, 34, 35, 36, 37, 38, 39, 40, 41, 42, 43, 44, 45, 46, 47, 48, 49, 50, 51, 52, 53, 54, 55, 56, 57, 58, 59, 60, 61, 62, 63, 64, 65, 66, 67, 68, 69, 70, 71, 72, 73, 74, 75, 76, 77, 78, 79, 80, 81, 82, 83, 84, 85, 86, 87, 88, 89, 90, 91, 92, 93, 5, 94, 95, 96, 97, 98, 99, 100, 101, 102, 103, 104, 105, 106, 107, 108, 109, 110, 111, 112, 113, 114, 115, 116, 117, 118, 119, 120, 121, 122, 123, 124, 125, 126, 127, 128, 129, 130, 131, 132, 133, 134, 135, 136, 137, 138, 139, 140, 141, 142, 143, 144, 145, 146, 147, 148, 149, 150, 151] (by decide +kernel) (by decide +kernel)) (goodIn_sub (fun _ h => List.mem_cons_of_mem _ (List.mem_append_right _ h)) (by decide +kernel))
set_option maxRecDepth 20000 in
theorem gL_bond_X9_bond : GoodIn wsL_bond (wsV RL 28 RX9 yX9_bond wsX9_bond) := goodIn_app (goodIn_of _ (by decide +kernel)) ggL_bond_X9_bond
theorem dL_bond_0 : decode cL_bond 0 = .ok (.aload 4, 2) := by decide +kernel
theorem dL_bond_2 : decode cL_bond 2 = .ok (.iconst 0, 1) := by decide +kernel
theorem dL_bond_3 : decode cL_bond 3 = .ok (.aload_n 0, 1) := by decide +kernel
theorem dL_bond_4 : decode cL_bond 4 = .ok (.iload_n 1, 1) := by decide +kernel
theorem dL_bond_5 : decode cL_bond 5 = .ok (.iload_n 2, 1) := by decide +kernel
theorem dL_bond_6 : decode cL_bond 6 = .ok (.iload_n 3, 1) := by decide +kernel
theorem dL_bond_7 : decode cL_bond 7 = .ok (.invokevirtual 28, 3) := by decide +kernel
theorem dL_bond_10 : decode cL_bond 10 = .ok (.i2l, 1) := by decide +kernel
theorem dL_bond_11 : decode cL_bond 11 = .ok (.lastore, 1) := by decide +kernel
theorem dL_bond_12 : decode cL_bond 12 = .ok (.goto 7, 3) := by decide +kernel
theorem dL_bond_15 : decode cL_bond 15 = .ok (.astore 5, 2) := by decide +kernel
theorem dL_bond_17 : decode cL_bond 17 = .ok (.iconst 1, 1) := by decide +kernel
theorem dL_bond_18 : decode cL_bond 18 = .ok (.ireturn, 1) := by decide +kernel
theorem dL_bond_19 : decode cL_bond 19 = .ok (.iconst 0, 1) := by decide +kernel
theorem dL_bond_20 : decode cL_bond 20 = .ok (.ireturn, 1) := by decide +kernel
set_option maxRecDepth 20000 in
theorem ggL_walk_X9_walk : GoodIn wsL_walk wsX9_walk := goodIn_ca (goodIn_ca (goodIn_r _ [6, 7, 8, 9, 10, 11, 12, 13, 14, 15, 16, 17, 18, 19, 20, 21, 22, 23, 24, 25, 26, 27, 28, 29, 30, 31, 32, 33, 34, 35, 36, 37, 38, 39, 40, 41, 42, 43, 44, 45, 46, 47, 48, 49, 50, 51, 52, 53, 54, 55, 56, 57, 58, 59, 60, 61, 62, 63, 64, 65, 66, 67, 68, 69, 70, 71, 72, 73, 74, 75, 76, 77, 78, 79, 80, 81, 82, 83, 84, 85, 86, 87, 88, 89, 90, 91, 92, 93, 94, 95, 96, 97, 98, 99, 100, 101, 102, 103, 104, 105, 106, 107, 108, 109, 110, 111, 112, 113, 114, 115, 116, 117, 118, 119, 120, 121, 122, 123, 124, 125, 126, 127, 128, 129, 130, 131, 132, 133, 134, 135, 136, 137, 138, 139, 5, 140, 141, 142, 143, 144, 145, 146, 147, 148, 149, 150, 151, 152, 153, 154, 155, 156, 157, 158, 159, 160, 161, 162, 163, 164, 165, 166, 167, 168, 169, 170, 171, 172, 173, 174, 175, 176, 177, 178, 179, 180, 181, 182, 183, 184, 185, 186, 187, 188, 189, 190, 191, 192, 193, 194] (by decide +kernel) (by decide +kernel)) (goodIn_sub (fun _ h => List.mem_cons_of_mem _ (List.mem_append_left _ (List.mem_append_right _ h))) (by decide +kernel))) (goodIn_sub (fun _ h => List.mem_cons_of_mem _ (List.mem_append_right _ h)) (by decide +kernel))
set_option maxRecDepth 20000 in
theorem gL_walk_X9_walk : GoodIn wsL_walk (wsV RL 31 RX9 yX9_walk wsX9_walk) := goodIn_app (goodIn_of _ (by decide +kernel)) ggL_walk_X9_walk
theorem dL_walk_0 : decode cL_walk 0 = .ok (.aload_n 3, 1) := by decide +kernel
theorem dL_walk_1 : decode cL_walk 1 = .ok (.iconst 0, 1) := by decide +kernel
theorem dL_walk_2 : decode cL_walk 2 = .ok (.aload_n 0, 1) := by decide +kernel
theorem dL_walk_3 : decode cL_walk 3 = .ok (.iload_n 1, 1) := by decide +kernel
theorem dL_walk_4 : decode cL_walk 4 = .ok (.iload_n 2, 1) := by decide +kernel
theorem dL_walk_5 : decode cL_walk 5 = .ok (.invokevirtual 31, 3) := by decide +kernel
theorem dL_walk_8 : decode cL_walk 8 = .ok (.i2l, 1) := by decide +kernel
theorem dL_walk_9 : decode cL_walk 9 = .ok (.lastore, 1) := by decide +kernel
theorem dL_walk_10 : decode cL_walk 10 = .ok (.goto 7, 3) := by decide +kernel
theorem dL_walk_13 : decode cL_walk 13 = .ok (.astore 4, 2) := by decide +kernel
theorem dL_walk_15 : decode cL_walk 15 = .ok (.iconst 1, 1) := by decide +kernel
theorem dL_walk_16 : decode cL_walk 16 = .ok (.ireturn, 1) := by decide +kernel
theorem dL_walk_17 : decode cL_walk 17 = .ok (.iconst 0, 1) := by decide +kernel
theorem dL_walk_18 : decode cL_walk 18 = .ok (.ireturn, 1) := by decide +kernel
set_option maxRecDepth 20000 in
theorem ggL_rest_X9_rest : GoodIn wsL_rest wsX9_rest := goodIn_ca (goodIn_r _ [6, 7, 8, 9, 10, 11, 12, 13, 14, 15, 16, 17, 18, 19, 20, 21, 22, 23, 24, 25, 26, 27, 28, 29, 30, 31, 32, 33, 34, 35, 36, 37, 38, 39, 40, 41, 42, 43, 44, 45, 46, 47, 48, 49, 50, 51, 52, 53, 54, 55, 56, 57, 58, 59, 60, 61, 62, 63, 64, 65, 66, 67, 68, 69, 70, 71, 72, 73, 74, 75, 76, 77, 5, 78, 79, 80, 81, 82, 83, 84, 85, 86, 87, 88, 89, 90, 91, 92, 93, 94, 95, 96, 97, 98, 99, 100, 101, 102, 103, 104, 105, 106, 107, 108, 109, 110, 111, 112, 113, 114, 115, 116, 117, 118, 119, 120, 121, 122, 123, 124, 125, 126, 127, 128, 129, 130, 131, 132, 133, 134, 135] (by decide +kernel) (by decide +kernel)) (goodIn_sub (fun _ h => List.mem_cons_of_mem _ (List.mem_append_right _ h)) (by decide +kernel))
set_option maxRecDepth 20000 in
theorem gL_rest_X9_rest : GoodIn wsL_rest (wsV RL 35 RX9 yX9_rest wsX9_rest) := goodIn_app (goodIn_of _ (by decide +kernel)) ggL_rest_X9_rest
theorem dL_rest_0 : decode cL_rest 0 = .ok (.aload_n 3, 1) := by decide +kernel
theorem dL_rest_1 : decode cL_rest 1 = .ok (.iconst 0, 1) := by decide +kernel
theorem dL_rest_2 : decode cL_rest 2 = .ok (.aload_n 0, 1) := by decide +kernel
theorem dL_rest_3 : decode cL_rest 3 = .ok (.iload_n 1, 1) := by decide +kernel
theorem dL_rest_4 : decode cL_rest 4 = .ok (.iload_n 2, 1) := by decide +kernel
theorem dL_rest_5 : decode cL_rest 5 = .ok (.invokevirtual 35, 3) := by decide +kernel
theorem dL_rest_8 : decode cL_rest 8 = .ok (.i2l, 1) := by decide +kernel
theorem dL_rest_9 : decode cL_rest 9 = .ok (.lastore, 1) := by decide +kernel
theorem dL_rest_10 : decode cL_rest 10 = .ok (.goto 7, 3) := by decide +kernel
theorem dL_rest_13 : decode cL_rest 13 = .ok (.astore 4, 2) := by decide +kernel
theorem dL_rest_15 : decode cL_rest 15 = .ok (.iconst 1, 1) := by decide +kernel
theorem dL_rest_16 : decode cL_rest 16 = .ok (.ireturn, 1) := by decide +kernel
theorem dL_rest_17 : decode cL_rest 17 = .ok (.iconst 0, 1) := by decide +kernel
theorem dL_rest_18 : decode cL_rest 18 = .ok (.ireturn, 1) := by decide +kernel
set_option maxRecDepth 20000 in
theorem ggL_leaves_X9_leaves : GoodIn wsL_leaves wsX9_leaves := goodIn_ca (goodIn_ca (goodIn_ca (goodIn_r _ [6, 7, 8, 9, 5, 10, 11, 12, 13, 14, 15, 16, 17, 18, 19, 20, 21, 22, 23, 24, 25, 26, 27, 28, 29, 30, 31, 32, 33, 34, 35, 36, 37, 38, 39, 40, 41, 42, 43, 44, 45, 46, 47, 48, 49, 50, 51, 52, 53, 54, 55, 56, 57, 58] (by decide +kernel) (by decide +kernel)) (goodIn_sub (fun _ h => List.mem_cons_of_mem _ (List.mem_append_left _ (List.mem_append_right _ h))) (by decide +kernel))) (goodIn_sub (fun _ h => List.mem_cons_of_mem _ (List.mem_append_right _ h)) (by decide +kernel))) (goodIn_sub (fun _ h => List.mem_cons_of_mem _ (List.mem_append_left _ (List.mem_append_left _ (List.mem_append_right _ h)))) (by decide +kernel))
set_option maxRecDepth 20000 in
theorem gL_leaves_X9_leaves : GoodIn wsL_leaves (wsV RL 38 RX9 yX9_leaves wsX9_leaves) := goodIn_app (goodIn_of _ (by decide +kernel)) ggL_leaves_X9_leaves
theorem dL_leaves_0 : decode cL_leaves 0 = .ok (.aload_n 3, 1) := by decide +kernel
theorem dL_leaves_1 : decode cL_leaves 1 = .ok (.iconst 0, 1) := by decide +kernel
theorem dL_leaves_2 : decode cL_leaves 2 = .ok (.aload_n 0, 1) := by decide +kernel
theorem dL_leaves_3 : decode cL_leaves 3 = .ok (.iload_n 1, 1) := by decide +kernel
theorem dL_leaves_4 : decode cL_leaves 4 = .ok (.iload_n 2, 1) := by decide +kernel
theorem dL_leaves_5 : decode cL_leaves 5 = .ok (.invokevirtual 38, 3) := by decide +kernel
theorem dL_leaves_8 : decode cL_leaves 8 = .ok (.i2l, 1) := by decide +kernel
theorem dL_leaves_9 : decode cL_leaves 9 = .ok (.lastore, 1) := by decide +kernel
theorem dL_leaves_10 : decode cL_leaves 10 = .ok (.goto 11, 3) := by decide +kernel
theorem dL_leaves_13 : decode cL_leaves 13 = .ok (.astore 4, 2) := by decide +kernel
theorem dL_leaves_15 : decode cL_leaves 15 = .ok (.iconst 1, 1) := by decide +kernel
theorem dL_leaves_16 : decode cL_leaves 16 = .ok (.ireturn, 1) := by decide +kernel
theorem dL_leaves_17 : decode cL_leaves 17 = .ok (.astore 4, 2) := by decide +kernel
theorem dL_leaves_19 : decode cL_leaves 19 = .ok (.iconst 2, 1) := by decide +kernel
theorem dL_leaves_20 : decode cL_leaves 20 = .ok (.ireturn, 1) := by decide +kernel
theorem dL_leaves_21 : decode cL_leaves 21 = .ok (.iconst 0, 1) := by decide +kernel
theorem dL_leaves_22 : decode cL_leaves 22 = .ok (.ireturn, 1) := by decide +kernel
set_option maxRecDepth 20000 in
theorem ggL_isGap_X9_isGap : GoodIn wsL_isGap wsX9_isGap := goodIn_ca (goodIn_ca (goodIn_r _ [6, 7, 8, 9, 5, 10, 11, 12, 13, 14, 15, 16, 17, 18, 19, 20, 21, 22, 23, 24, 25, 26, 27, 28, 29, 30, 31, 32, 33, 34, 35, 36, 37, 38, 39, 40, 41, 42, 43, 44, 45, 46, 47, 48, 49, 50, 51, 52, 53, 54, 55, 56, 57] (by decide +kernel) (by decide +kernel)) (goodIn_sub (fun _ h => List.mem_cons_of_mem _ (List.mem_append_right _ h)) (by decide +kernel))) (goodIn_sub (fun _ h => List.mem_cons_of_mem _ (List.mem_append_left _ (List.mem_append_right _ h))) (by decide +kernel))
set_option maxRecDepth 20000 in
theorem gL_isGap_X9_isGap : GoodIn wsL_isGap (wsV RL 45 RX9 yX9_isGap wsX9_isGap) := goodIn_app (goodIn_of _ (by decide +kernel)) ggL_isGap_X9_isGap
theorem dL_isGap_0 : decode cL_isGap 0 = .ok (.aload_n 3, 1) := by decide +kernel
theorem dL_isGap_1 : decode cL_isGap 1 = .ok (.iconst 0, 1) := by decide +kernel
theorem dL_isGap_2 : decode cL_isGap 2 = .ok (.aload_n 0, 1) := by decide +kernel
theorem dL_isGap_3 : decode cL_isGap 3 = .ok (.iload_n 1, 1) := by decide +kernel
theorem dL_isGap_4 : decode cL_isGap 4 = .ok (.iload_n 2, 1) := by decide +kernel
theorem dL_isGap_5 : decode cL_isGap 5 = .ok (.invokevirtual 45, 3) := by decide +kernel
theorem dL_isGap_8 : decode cL_isGap 8 = .ok (.ifCond .eq 7, 3) := by decide +kernel
theorem dL_isGap_11 : decode cL_isGap 11 = .ok (.lconst 1, 1) := by decide +kernel
theorem dL_isGap_12 : decode cL_isGap 12 = .ok (.goto 4, 3) := by decide +kernel
theorem dL_isGap_15 : decode cL_isGap 15 = .ok (.lconst 0, 1) := by decide +kernel
theorem dL_isGap_16 : decode cL_isGap 16 = .ok (.lastore, 1) := by decide +kernel
theorem dL_isGap_17 : decode cL_isGap 17 = .ok (.goto 7, 3) := by decide +kernel
theorem dL_isGap_20 : decode cL_isGap 20 = .ok (.astore 4, 2) := by decide +kernel
theorem dL_isGap_22 : decode cL_isGap 22 = .ok (.iconst 1, 1) := by decide +kernel
theorem dL_isGap_23 : decode cL_isGap 23 = .ok (.ireturn, 1) := by decide +kernel
theorem dL_isGap_24 : decode cL_isGap 24 = .ok (.iconst 0, 1) := by decide +kernel
theorem dL_isGap_25 : decode cL_isGap 25 = .ok (.ireturn, 1) := by decide +kernel
set_option maxRecDepth 20000 in
theorem ggL_hours_X9_hours : GoodIn wsL_hours wsX9_hours := goodIn_ca (goodIn_ca (goodIn_ca (goodIn_r _ [6, 7, 8, 9, 5, 10, 11, 12, 13, 14, 15, 16, 17, 18, 19, 20, 21, 22, 23, 24, 25, 26, 27, 28, 29, 30, 31, 32, 33, 34, 35, 36, 37, 38, 39, 40, 41, 42, 43, 44, 45, 46, 47, 48, 49, 50, 51, 52, 53, 54, 55, 56, 57, 58, 59, 60, 61, 62, 63, 64, 65, 66, 67, 68, 69, 70, 71, 72, 73, 74] (by decide +kernel) (by decide +kernel)) (goodIn_sub (fun _ h => List.mem_cons_of_mem _ (List.mem_append_left _ (List.mem_append_right _ h))) (by decide +kernel))) (goodIn_sub (fun _ h => List.mem_cons_of_mem _ (List.mem_append_left _ (List.mem_append_left _ (List.mem_append_right _ h)))) (by decide +kernel))) (goodIn_sub (fun _ h => List.mem_cons_of_mem _ (List.mem_append_right _ h)) (by decide +kernel))
set_option maxRecDepth 20000 in
theorem gL_hours_X9_hours : GoodIn wsL_hours (wsV RL 49 RX9 yX9_hours wsX9_hours) := goodIn_app (goodIn_of _ (by decide +kernel)) ggL_hours_X9_hours
theorem dL_hours_0 : decode cL_hours 0 = .ok (.aload_n 3, 1) := by decide +kernel
theorem dL_hours_1 : decode cL_hours 1 = .ok (.iconst 0, 1) := by decide +kernel
theorem dL_hours_2 : decode cL_hours 2 = .ok (.aload_n 0, 1) := by decide +kernel
theorem dL_hours_3 : decode cL_hours 3 = .ok (.iload_n 1, 1) := by decide +kernel
theorem dL_hours_4 : decode cL_hours 4 = .ok (.iload_n 2, 1) := by decide +kernel
theorem dL_hours_5 : decode cL_hours 5 = .ok (.invokevirtual 49, 3) := by decide +kernel
theorem dL_hours_8 : decode cL_hours 8 = .ok (.i2l, 1) := by decide +kernel
theorem dL_hours_9 : decode cL_hours 9 = .ok (.lastore, 1) := by decide +kernel
theorem dL_hours_10 : decode cL_hours 10 = .ok (.goto 11, 3) := by decide +kernel
theorem dL_hours_13 : decode cL_hours 13 = .ok (.astore 4, 2) := by decide +kernel
theorem dL_hours_15 : decode cL_hours 15 = .ok (.iconst 1, 1) := by decide +kernel
theorem dL_hours_16 : decode cL_hours 16 = .ok (.ireturn, 1) := by decide +kernel
theorem dL_hours_17 : decode cL_hours 17 = .ok (.astore 4, 2) := by decide +kernel
theorem dL_hours_19 : decode cL_hours 19 = .ok (.iconst 2, 1) := by decide +kernel
theorem dL_hours_20 : decode cL_hours 20 = .ok (.ireturn, 1) := by decide +kernel
theorem dL_hours_21 : decode cL_hours 21 = .ok (.iconst 0, 1) := by decide +kernel
theorem dL_hours_22 : decode cL_hours 22 = .ok (.ireturn, 1) := by decide +kernel
set_option maxRecDepth 20000 in
theorem ggL_hoursAgain_X9_hoursAgain : GoodIn wsL_hoursAgain wsX9_hoursAgain := goodIn_ca (goodIn_ca (goodIn_ca (goodIn_r _ [6, 7, 8, 9, 5, 10, 11, 12, 13, 14, 15, 16, 17, 18, 19, 20, 21, 22, 23, 24, 25, 26, 27, 28, 29, 30, 31, 32, 33, 34, 35, 36, 37, 38, 39, 40, 41, 42, 43, 44, 45, 46, 47, 48, 49, 50, 51, 52, 53, 54, 55, 56, 57, 58, 59, 60, 61, 62, 63, 64, 65, 66, 67, 68, 69, 70, 71, 72] (by decide +kernel) (by decide +kernel)) (goodIn_sub (fun _ h => List.mem_cons_of_mem _ (List.mem_append_left _ (List.mem_append_right _ h))) (by decide +kernel))) (goodIn_sub (fun _ h => List.mem_cons_of_mem _ (List.mem_append_left _ (List.mem_append_left _ (List.mem_append_right _ h)))) (by decide +kernel))) (goodIn_sub (fun _ h => List.mem_cons_of_mem _ (List.mem_append_right _ h)) (by decide +kernel))
set_option maxRecDepth 20000 in
theorem gL_hoursAgain_X9_hoursAgain : GoodIn wsL_hoursAgain (wsV RL 52 RX9 yX9_hoursAgain wsX9_hoursAgain) := goodIn_app (goodIn_of _ (by decide +kernel)) ggL_hoursAgain_X9_hoursAgain
theorem dL_hoursAgain_0 : decode cL_hoursAgain 0 = .ok (.aload_n 3, 1) := by decide +kernel
theorem dL_hoursAgain_1 : decode cL_hoursAgain 1 = .ok (.iconst 0, 1) := by decide +kernel
theorem dL_hoursAgain_2 : decode cL_hoursAgain 2 = .ok (.aload_n 0, 1) := by decide +kernel
theorem dL_hoursAgain_3 : decode cL_hoursAgain 3 = .ok (.iload_n 1, 1) := by decide +kernel
theorem dL_hoursAgain_4 : decode cL_hoursAgain 4 = .ok (.iload_n 2, 1) := by decide +kernel
theorem dL_hoursAgain_5 : decode cL_hoursAgain 5 = .ok (.invokevirtual 52, 3) := by decide +kernel
theorem dL_hoursAgain_8 : decode cL_hoursAgain 8 = .ok (.i2l, 1) := by decide +kernel
theorem dL_hoursAgain_9 : decode cL_hoursAgain 9 = .ok (.lastore, 1) := by decide +kernel
theorem dL_hoursAgain_10 : decode cL_hoursAgain 10 = .ok (.goto 11, 3) := by decide +kernel
theorem dL_hoursAgain_13 : decode cL_hoursAgain 13 = .ok (.astore 4, 2) := by decide +kernel
theorem dL_hoursAgain_15 : decode cL_hoursAgain 15 = .ok (.iconst 1, 1) := by decide +kernel
theorem dL_hoursAgain_16 : decode cL_hoursAgain 16 = .ok (.ireturn, 1) := by decide +kernel
theorem dL_hoursAgain_17 : decode cL_hoursAgain 17 = .ok (.astore 4, 2) := by decide +kernel
theorem dL_hoursAgain_19 : decode cL_hoursAgain 19 = .ok (.iconst 2, 1) := by decide +kernel
theorem dL_hoursAgain_20 : decode cL_hoursAgain 20 = .ok (.ireturn, 1) := by decide +kernel
theorem dL_hoursAgain_21 : decode cL_hoursAgain 21 = .ok (.iconst 0, 1) := by decide +kernel
theorem dL_hoursAgain_22 : decode cL_hoursAgain 22 = .ok (.ireturn, 1) := by decide +kernel
set_option maxRecDepth 20000 in
theorem ggL_next_X9_next : GoodIn wsL_next wsX9_next := goodIn_ca (goodIn_ca (goodIn_ca (goodIn_r _ [6, 7, 8, 9, 10, 11, 5, 12, 13, 14, 15, 16, 17, 18, 19, 20, 21, 22, 23, 24, 25, 26, 27, 28, 29, 30, 31, 32, 33, 34, 35, 36, 37, 38, 39, 40, 41, 42, 43, 44, 45, 46, 47, 48, 49, 50, 51, 52, 53, 54, 55, 56, 57, 58, 59, 60, 61, 62, 63, 64, 65, 66, 67, 68, 69, 70, 71] (by decide +kernel) (by decide +kernel)) (goodIn_sub (fun _ h => List.mem_cons_of_mem _ (List.mem_append_left _ (List.mem_append_right _ h))) (by decide +kernel))) (goodIn_sub (fun _ h => List.mem_cons_of_mem _ (List.mem_append_right _ h)) (by decide +kernel))) (goodIn_sub (fun _ h => List.mem_cons_of_mem _ (List.mem_append_left _ (List.mem_append_left _ (List.mem_append_right _ h)))) (by decide +kernel))
set_option maxRecDepth 20000 in
theorem gL_next_X9_next : GoodIn wsL_next (wsV RL 55 RX9 yX9_next wsX9_next) := goodIn_app (goodIn_of _ (by decide +kernel)) ggL_next_X9_next
theorem dL_next_0 : decode cL_next 0 = .ok (.aload_n 2, 1) := by decide +kernel
theorem dL_next_1 : decode cL_next 1 = .ok (.iconst 0, 1) := by decide +kernel
theorem dL_next_2 : decode cL_next 2 = .ok (.aload_n 0, 1) := by decide +kernel
theorem dL_next_3 : decode cL_next 3 = .ok (.iload_n 1, 1) := by decide +kernel
theorem dL_next_4 : decode cL_next 4 = .ok (.invokevirtual 55, 3) := by decide +kernel
theorem dL_next_7 : decode cL_next 7 = .ok (.i2l, 1) := by decide +kernel
theorem dL_next_8 : decode cL_next 8 = .ok (.lastore, 1) := by decide +kernel
theorem dL_next_9 : decode cL_next 9 = .ok (.goto 9, 3) := by decide +kernel
theorem dL_next_12 : decode cL_next 12 = .ok (.astore_n 3, 1) := by decide +kernel
theorem dL_next_13 : decode cL_next 13 = .ok (.iconst 1, 1) := by decide +kernel
theorem dL_next_14 : decode cL_next 14 = .ok (.ireturn, 1) := by decide +kernel
theorem dL_next_15 : decode cL_next 15 = .ok (.astore_n 3, 1) := by decide +kernel
theorem dL_next_16 : decode cL_next 16 = .ok (.iconst 2, 1) := by decide +kernel
theorem dL_next_17 : decode cL_next 17 = .ok (.ireturn, 1) := by decide +kernel
theorem dL_next_18 : decode cL_next 18 = .ok (.iconst 0, 1) := by decide +kernel
theorem dL_next_19 : decode cL_next 19 = .ok (.ireturn, 1) := by decide +kernel
set_option maxRecDepth 20000 in
theorem ggL_reached_X9_reached : GoodIn wsL_reached wsX9_reached := goodIn_ca (goodIn_ca (goodIn_r _ [6, 7, 8, 9, 5, 10, 11, 12, 13, 14, 15, 16, 17, 18, 19, 20, 21, 22, 23, 24, 25, 26, 27, 28, 29, 30, 31, 32, 33, 34, 35, 36, 37, 38, 39, 40, 41, 42, 43, 44, 45, 46, 47, 48] (by decide +kernel) (by decide +kernel)) (goodIn_sub (fun _ h => List.mem_cons_of_mem _ (List.mem_append_right _ h)) (by decide +kernel))) (goodIn_sub (fun _ h => List.mem_cons_of_mem _ (List.mem_append_left _ (List.mem_append_right _ h))) (by decide +kernel))
set_option maxRecDepth 20000 in
theorem gL_reached_X9_reached : GoodIn wsL_reached (wsV RL 58 RX9 yX9_reached wsX9_reached) := goodIn_app (goodIn_of _ (by decide +kernel)) ggL_reached_X9_reached
theorem dL_reached_0 : decode cL_reached 0 = .ok (.aload_n 2, 1) := by decide +kernel
theorem dL_reached_1 : decode cL_reached 1 = .ok (.iconst 0, 1) := by decide +kernel
theorem dL_reached_2 : decode cL_reached 2 = .ok (.aload_n 0, 1) := by decide +kernel
theorem dL_reached_3 : decode cL_reached 3 = .ok (.iload_n 1, 1) := by decide +kernel
theorem dL_reached_4 : decode cL_reached 4 = .ok (.invokevirtual 58, 3) := by decide +kernel
theorem dL_reached_7 : decode cL_reached 7 = .ok (.i2l, 1) := by decide +kernel
theorem dL_reached_8 : decode cL_reached 8 = .ok (.lastore, 1) := by decide +kernel
theorem dL_reached_9 : decode cL_reached 9 = .ok (.goto 6, 3) := by decide +kernel
theorem dL_reached_12 : decode cL_reached 12 = .ok (.astore_n 3, 1) := by decide +kernel
theorem dL_reached_13 : decode cL_reached 13 = .ok (.iconst 1, 1) := by decide +kernel
theorem dL_reached_14 : decode cL_reached 14 = .ok (.ireturn, 1) := by decide +kernel
theorem dL_reached_15 : decode cL_reached 15 = .ok (.iconst 0, 1) := by decide +kernel
theorem dL_reached_16 : decode cL_reached 16 = .ok (.ireturn, 1) := by decide +kernel
set_option maxRecDepth 20000 in
theorem ggL_trims_X9_trims : GoodIn wsL_trims wsX9_trims := goodIn_ca (goodIn_ca (goodIn_r _ [6, 7, 8, 9, 5, 10, 11, 12, 13, 14, 15, 16, 17, 18, 19, 20, 21, 22, 23, 24, 25, 26, 27, 28, 29, 30, 31, 32, 33, 34, 35, 36, 37, 38, 39, 40, 41, 42, 43, 44, 45, 46, 47, 48, 49, 50, 51, 52, 53, 54, 55, 56, 57, 58, 59] (by decide +kernel) (by decide +kernel)) (goodIn_sub (fun _ h => List.mem_cons_of_mem _ (List.mem_append_right _ h)) (by decide +kernel))) (goodIn_sub (fun _ h => List.mem_cons_of_mem _ (List.mem_append_left _ (List.mem_append_right _ h))) (by decide +kernel))
set_option maxRecDepth 20000 in
theorem gL_trims_X9_trims : GoodIn wsL_trims (wsV RL 61 RX9 yX9_trims wsX9_trims) := goodIn_app (goodIn_of _ (by decide +kernel)) ggL_trims_X9_trims
theorem dL_trims_0 : decode cL_trims 0 = .ok (.aload_n 2, 1) := by decide +kernel
theorem dL_trims_1 : decode cL_trims 1 = .ok (.iconst 0, 1) := by decide +kernel
theorem dL_trims_2 : decode cL_trims 2 = .ok (.aload_n 0, 1) := by decide +kernel
theorem dL_trims_3 : decode cL_trims 3 = .ok (.iload_n 1, 1) := by decide +kernel
theorem dL_trims_4 : decode cL_trims 4 = .ok (.invokevirtual 61, 3) := by decide +kernel
theorem dL_trims_7 : decode cL_trims 7 = .ok (.i2l, 1) := by decide +kernel
theorem dL_trims_8 : decode cL_trims 8 = .ok (.lastore, 1) := by decide +kernel
theorem dL_trims_9 : decode cL_trims 9 = .ok (.goto 6, 3) := by decide +kernel
theorem dL_trims_12 : decode cL_trims 12 = .ok (.astore_n 3, 1) := by decide +kernel
theorem dL_trims_13 : decode cL_trims 13 = .ok (.iconst 1, 1) := by decide +kernel
theorem dL_trims_14 : decode cL_trims 14 = .ok (.ireturn, 1) := by decide +kernel
theorem dL_trims_15 : decode cL_trims 15 = .ok (.iconst 0, 1) := by decide +kernel
theorem dL_trims_16 : decode cL_trims 16 = .ok (.ireturn, 1) := by decide +kernel
set_option maxRecDepth 20000 in
theorem ggL_trimsAgain_X9_trimsAgain : GoodIn wsL_trimsAgain wsX9_trimsAgain := goodIn_ca (goodIn_ca (goodIn_r _ [6, 7, 8, 9, 5, 10, 11, 12, 13, 14, 15, 16, 17, 18, 19, 20, 21, 22, 23, 24, 25, 26, 27, 28, 29, 30, 31, 32, 33, 34, 35, 36, 37, 38, 39, 40, 41, 42, 43, 44, 45, 46, 47, 48, 49, 50, 51, 52, 53, 54, 55, 56, 57, 58, 59, 60, 61, 62, 63, 64, 65, 66, 67] (by decide +kernel) (by decide +kernel)) (goodIn_sub (fun _ h => List.mem_cons_of_mem _ (List.mem_append_right _ h)) (by decide +kernel))) (goodIn_sub (fun _ h => List.mem_cons_of_mem _ (List.mem_append_left _ (List.mem_append_right _ h))) (by decide +kernel))
set_option maxRecDepth 20000 in
theorem gL_trimsAgain_X9_trimsAgain : GoodIn wsL_trimsAgain (wsV RL 64 RX9 yX9_trimsAgain wsX9_trimsAgain) := goodIn_app (goodIn_of _ (by decide +kernel)) ggL_trimsAgain_X9_trimsAgain
theorem dL_trimsAgain_0 : decode cL_trimsAgain 0 = .ok (.aload_n 2, 1) := by decide +kernel
theorem dL_trimsAgain_1 : decode cL_trimsAgain 1 = .ok (.iconst 0, 1) := by decide +kernel
theorem dL_trimsAgain_2 : decode cL_trimsAgain 2 = .ok (.aload_n 0, 1) := by decide +kernel
theorem dL_trimsAgain_3 : decode cL_trimsAgain 3 = .ok (.iload_n 1, 1) := by decide +kernel
theorem dL_trimsAgain_4 : decode cL_trimsAgain 4 = .ok (.invokevirtual 64, 3) := by decide +kernel
theorem dL_trimsAgain_7 : decode cL_trimsAgain 7 = .ok (.i2l, 1) := by decide +kernel
theorem dL_trimsAgain_8 : decode cL_trimsAgain 8 = .ok (.lastore, 1) := by decide +kernel
theorem dL_trimsAgain_9 : decode cL_trimsAgain 9 = .ok (.goto 6, 3) := by decide +kernel
theorem dL_trimsAgain_12 : decode cL_trimsAgain 12 = .ok (.astore_n 3, 1) := by decide +kernel
theorem dL_trimsAgain_13 : decode cL_trimsAgain 13 = .ok (.iconst 1, 1) := by decide +kernel
theorem dL_trimsAgain_14 : decode cL_trimsAgain 14 = .ok (.ireturn, 1) := by decide +kernel
theorem dL_trimsAgain_15 : decode cL_trimsAgain 15 = .ok (.iconst 0, 1) := by decide +kernel
theorem dL_trimsAgain_16 : decode cL_trimsAgain 16 = .ok (.ireturn, 1) := by decide +kernel
set_option maxRecDepth 20000 in
theorem ggL_isNeeded_X9_isNeeded : GoodIn wsL_isNeeded wsX9_isNeeded := goodIn_ca (goodIn_ca (goodIn_ca (goodIn_r _ [6, 7, 8, 9, 5, 10, 11, 12, 13, 14, 15, 16, 17, 18, 19, 20, 21, 22, 23, 24, 25, 26, 27, 28, 29, 30, 31, 32, 33, 34, 35, 36, 37, 38, 39, 40, 41, 42, 43, 44, 45, 46, 47, 48, 49, 50, 51, 52, 53, 54, 55, 56, 57, 58, 59, 60, 61, 62, 63, 64, 65, 66, 67, 68, 69] (by decide +kernel) (by decide +kernel)) (goodIn_sub (fun _ h => List.mem_cons_of_mem _ (List.mem_append_left _ (List.mem_append_right _ h))) (by decide +kernel))) (goodIn_sub (fun _ h => List.mem_cons_of_mem _ (List.mem_append_right _ h)) (by decide +kernel))) (goodIn_sub (fun _ h => List.mem_cons_of_mem _ (List.mem_append_left _ (List.mem_append_left _ (List.mem_append_right _ h)))) (by decide +kernel))
set_option maxRecDepth 20000 in
theorem gL_isNeeded_X9_isNeeded : GoodIn wsL_isNeeded (wsV RL 67 RX9 yX9_isNeeded wsX9_isNeeded) := goodIn_app (goodIn_of _ (by decide +kernel)) ggL_isNeeded_X9_isNeeded
theorem dL_isNeeded_0 : decode cL_isNeeded 0 = .ok (.aload_n 3, 1) := by decide +kernel
theorem dL_isNeeded_1 : decode cL_isNeeded 1 = .ok (.iconst 0, 1) := by decide +kernel
theorem dL_isNeeded_2 : decode cL_isNeeded 2 = .ok (.aload_n 0, 1) := by decide +kernel
theorem dL_isNeeded_3 : decode cL_isNeeded 3 = .ok (.iload_n 1, 1) := by decide +kernel
theorem dL_isNeeded_4 : decode cL_isNeeded 4 = .ok (.iload_n 2, 1) := by decide +kernel
theorem dL_isNeeded_5 : decode cL_isNeeded 5 = .ok (.invokevirtual 67, 3) := by decide +kernel
theorem dL_isNeeded_8 : decode cL_isNeeded 8 = .ok (.ifCond .eq 7, 3) := by decide +kernel
theorem dL_isNeeded_11 : decode cL_isNeeded 11 = .ok (.lconst 1, 1) := by decide +kernel
theorem dL_isNeeded_12 : decode cL_isNeeded 12 = .ok (.goto 4, 3) := by decide +kernel
theorem dL_isNeeded_15 : decode cL_isNeeded 15 = .ok (.lconst 0, 1) := by decide +kernel
theorem dL_isNeeded_16 : decode cL_isNeeded 16 = .ok (.lastore, 1) := by decide +kernel
theorem dL_isNeeded_17 : decode cL_isNeeded 17 = .ok (.goto 11, 3) := by decide +kernel
theorem dL_isNeeded_20 : decode cL_isNeeded 20 = .ok (.astore 4, 2) := by decide +kernel
theorem dL_isNeeded_22 : decode cL_isNeeded 22 = .ok (.iconst 1, 1) := by decide +kernel
theorem dL_isNeeded_23 : decode cL_isNeeded 23 = .ok (.ireturn, 1) := by decide +kernel
theorem dL_isNeeded_24 : decode cL_isNeeded 24 = .ok (.astore 4, 2) := by decide +kernel
theorem dL_isNeeded_26 : decode cL_isNeeded 26 = .ok (.iconst 2, 1) := by decide +kernel
theorem dL_isNeeded_27 : decode cL_isNeeded 27 = .ok (.ireturn, 1) := by decide +kernel
theorem dL_isNeeded_28 : decode cL_isNeeded 28 = .ok (.iconst 0, 1) := by decide +kernel
theorem dL_isNeeded_29 : decode cL_isNeeded 29 = .ok (.ireturn, 1) := by decide +kernel
set_option maxRecDepth 20000 in
theorem ggL_closesIn_X9_closesIn : GoodIn wsL_closesIn wsX9_closesIn := goodIn_ca (goodIn_ca (goodIn_ca (goodIn_r _ [6, 7, 8, 9, 10, 11, 12, 13, 5, 14, 15, 16, 17, 18, 19, 20, 21, 22, 23, 24, 25, 26, 27, 28, 29, 30, 31, 32, 33, 34, 35, 36, 37, 38, 39, 40, 41, 42, 43, 44, 45, 46, 47, 48, 49, 50, 51, 52, 53, 54, 55, 56, 57, 58, 59] (by decide +kernel) (by decide +kernel)) (goodIn_sub (fun _ h => List.mem_cons_of_mem _ (List.mem_append_left _ (List.mem_append_right _ h))) (by decide +kernel))) (goodIn_sub (fun _ h => List.mem_cons_of_mem _ (List.mem_append_right _ h)) (by decide +kernel))) (goodIn_sub (fun _ h => List.mem_cons_of_mem _ (List.mem_append_left _ (List.mem_append_left _ (List.mem_append_right _ h)))) (by decide +kernel))
set_option maxRecDepth 20000 in
theorem gL_closesIn_X9_closesIn : GoodIn wsL_closesIn (wsV RL 70 RX9 yX9_closesIn wsX9_closesIn) := goodIn_app (goodIn_of _ (by decide +kernel)) ggL_closesIn_X9_closesIn
theorem dL_closesIn_0 : decode cL_closesIn 0 = .ok (.aload_n 3, 1) := by decide +kernel
theorem dL_closesIn_1 : decode cL_closesIn 1 = .ok (.iconst 0, 1) := by decide +kernel
theorem dL_closesIn_2 : decode cL_closesIn 2 = .ok (.aload_n 0, 1) := by decide +kernel
theorem dL_closesIn_3 : decode cL_closesIn 3 = .ok (.iload_n 1, 1) := by decide +kernel
theorem dL_closesIn_4 : decode cL_closesIn 4 = .ok (.iload_n 2, 1) := by decide +kernel
theorem dL_closesIn_5 : decode cL_closesIn 5 = .ok (.invokevirtual 70, 3) := by decide +kernel
theorem dL_closesIn_8 : decode cL_closesIn 8 = .ok (.i2l, 1) := by decide +kernel
theorem dL_closesIn_9 : decode cL_closesIn 9 = .ok (.lastore, 1) := by decide +kernel
theorem dL_closesIn_10 : decode cL_closesIn 10 = .ok (.goto 11, 3) := by decide +kernel
theorem dL_closesIn_13 : decode cL_closesIn 13 = .ok (.astore 4, 2) := by decide +kernel
theorem dL_closesIn_15 : decode cL_closesIn 15 = .ok (.iconst 1, 1) := by decide +kernel
theorem dL_closesIn_16 : decode cL_closesIn 16 = .ok (.ireturn, 1) := by decide +kernel
theorem dL_closesIn_17 : decode cL_closesIn 17 = .ok (.astore 4, 2) := by decide +kernel
theorem dL_closesIn_19 : decode cL_closesIn 19 = .ok (.iconst 2, 1) := by decide +kernel
theorem dL_closesIn_20 : decode cL_closesIn 20 = .ok (.ireturn, 1) := by decide +kernel
theorem dL_closesIn_21 : decode cL_closesIn 21 = .ok (.iconst 0, 1) := by decide +kernel
theorem dL_closesIn_22 : decode cL_closesIn 22 = .ok (.ireturn, 1) := by decide +kernel
set_option maxRecDepth 20000 in
theorem ggL_gardenerOf_X9_gardenerOf : GoodIn wsL_gardenerOf wsX9_gardenerOf := goodIn_ca (goodIn_ca (goodIn_r _ [6, 7, 8, 9, 10, 11, 12, 5, 13, 14, 15, 16, 17, 18, 19, 20, 21, 22, 23, 24, 25, 26, 27, 28, 29, 30, 31, 32, 33, 34, 35, 36, 37, 38, 39, 40, 41, 42, 43, 44, 45, 46, 47, 48, 49, 50, 51, 52, 53, 54, 55, 56, 57, 58, 59] (by decide +kernel) (by decide +kernel)) (goodIn_sub (fun _ h => List.mem_cons_of_mem _ (List.mem_append_left _ (List.mem_append_right _ h))) (by decide +kernel))) (goodIn_sub (fun _ h => List.mem_cons_of_mem _ (List.mem_append_right _ h)) (by decide +kernel))
set_option maxRecDepth 20000 in
theorem gL_gardenerOf_X9_gardenerOf : GoodIn wsL_gardenerOf (wsV RL 73 RX9 yX9_gardenerOf wsX9_gardenerOf) := goodIn_app (goodIn_of _ (by decide +kernel)) ggL_gardenerOf_X9_gardenerOf
theorem dL_gardenerOf_0 : decode cL_gardenerOf 0 = .ok (.aload_n 3, 1) := by decide +kernel
theorem dL_gardenerOf_1 : decode cL_gardenerOf 1 = .ok (.iconst 0, 1) := by decide +kernel
theorem dL_gardenerOf_2 : decode cL_gardenerOf 2 = .ok (.aload_n 0, 1) := by decide +kernel
theorem dL_gardenerOf_3 : decode cL_gardenerOf 3 = .ok (.iload_n 1, 1) := by decide +kernel
theorem dL_gardenerOf_4 : decode cL_gardenerOf 4 = .ok (.iload_n 2, 1) := by decide +kernel
theorem dL_gardenerOf_5 : decode cL_gardenerOf 5 = .ok (.invokevirtual 73, 3) := by decide +kernel
theorem dL_gardenerOf_8 : decode cL_gardenerOf 8 = .ok (.i2l, 1) := by decide +kernel
theorem dL_gardenerOf_9 : decode cL_gardenerOf 9 = .ok (.lastore, 1) := by decide +kernel
theorem dL_gardenerOf_10 : decode cL_gardenerOf 10 = .ok (.goto 11, 3) := by decide +kernel
theorem dL_gardenerOf_13 : decode cL_gardenerOf 13 = .ok (.astore 4, 2) := by decide +kernel
theorem dL_gardenerOf_15 : decode cL_gardenerOf 15 = .ok (.iconst 1, 1) := by decide +kernel
theorem dL_gardenerOf_16 : decode cL_gardenerOf 16 = .ok (.ireturn, 1) := by decide +kernel
theorem dL_gardenerOf_17 : decode cL_gardenerOf 17 = .ok (.astore 4, 2) := by decide +kernel
theorem dL_gardenerOf_19 : decode cL_gardenerOf 19 = .ok (.iconst 2, 1) := by decide +kernel
theorem dL_gardenerOf_20 : decode cL_gardenerOf 20 = .ok (.ireturn, 1) := by decide +kernel
theorem dL_gardenerOf_21 : decode cL_gardenerOf 21 = .ok (.iconst 0, 1) := by decide +kernel
theorem dL_gardenerOf_22 : decode cL_gardenerOf 22 = .ok (.ireturn, 1) := by decide +kernel
set_option maxRecDepth 20000 in
theorem ggL_visitorOf_X9_visitorOf : GoodIn wsL_visitorOf wsX9_visitorOf := goodIn_ca (goodIn_ca (goodIn_r _ [6, 7, 8, 9, 10, 11, 5, 12, 13, 14, 15, 16, 17, 18, 19, 20, 21, 22, 23, 24, 25, 26, 27, 28, 29, 30, 31, 32, 33, 34, 35, 36, 37, 38, 39, 40, 41, 42, 43, 44, 45, 46, 47, 48, 49, 50, 51, 52, 53, 54, 55, 56, 57, 58, 59, 60, 61, 62, 63, 64, 65, 66, 67, 68, 69, 70] (by decide +kernel) (by decide +kernel)) (goodIn_sub (fun _ h => List.mem_cons_of_mem _ (List.mem_append_left _ (List.mem_append_right _ h))) (by decide +kernel))) (goodIn_sub (fun _ h => List.mem_cons_of_mem _ (List.mem_append_right _ h)) (by decide +kernel))
set_option maxRecDepth 20000 in
theorem gL_visitorOf_X9_visitorOf : GoodIn wsL_visitorOf (wsV RL 78 RX9 yX9_visitorOf wsX9_visitorOf) := goodIn_app (goodIn_of _ (by decide +kernel)) ggL_visitorOf_X9_visitorOf
theorem dL_visitorOf_0 : decode cL_visitorOf 0 = .ok (.aload_n 3, 1) := by decide +kernel
theorem dL_visitorOf_1 : decode cL_visitorOf 1 = .ok (.iconst 0, 1) := by decide +kernel
theorem dL_visitorOf_2 : decode cL_visitorOf 2 = .ok (.aload_n 0, 1) := by decide +kernel
theorem dL_visitorOf_3 : decode cL_visitorOf 3 = .ok (.iload_n 1, 1) := by decide +kernel
theorem dL_visitorOf_4 : decode cL_visitorOf 4 = .ok (.iload_n 2, 1) := by decide +kernel
theorem dL_visitorOf_5 : decode cL_visitorOf 5 = .ok (.invokevirtual 78, 3) := by decide +kernel
theorem dL_visitorOf_8 : decode cL_visitorOf 8 = .ok (.i2l, 1) := by decide +kernel
theorem dL_visitorOf_9 : decode cL_visitorOf 9 = .ok (.lastore, 1) := by decide +kernel
theorem dL_visitorOf_10 : decode cL_visitorOf 10 = .ok (.goto 11, 3) := by decide +kernel
theorem dL_visitorOf_13 : decode cL_visitorOf 13 = .ok (.astore 4, 2) := by decide +kernel
theorem dL_visitorOf_15 : decode cL_visitorOf 15 = .ok (.iconst 1, 1) := by decide +kernel
theorem dL_visitorOf_16 : decode cL_visitorOf 16 = .ok (.ireturn, 1) := by decide +kernel
theorem dL_visitorOf_17 : decode cL_visitorOf 17 = .ok (.astore 4, 2) := by decide +kernel
theorem dL_visitorOf_19 : decode cL_visitorOf 19 = .ok (.iconst 2, 1) := by decide +kernel
theorem dL_visitorOf_20 : decode cL_visitorOf 20 = .ok (.ireturn, 1) := by decide +kernel
theorem dL_visitorOf_21 : decode cL_visitorOf 21 = .ok (.iconst 0, 1) := by decide +kernel
theorem dL_visitorOf_22 : decode cL_visitorOf 22 = .ok (.ireturn, 1) := by decide +kernel
set_option maxRecDepth 20000 in
theorem ggL_wouldPay_X9_wouldPay : GoodIn wsL_wouldPay wsX9_wouldPay := goodIn_ca (goodIn_ca (goodIn_ca (goodIn_r _ [6, 7, 8, 9, 10, 11, 12, 13, 14, 15, 16, 17, 5, 18, 19, 20, 21, 22, 23, 24, 25, 26, 27, 28, 29, 30, 31, 32, 33, 34, 35, 36, 37, 38, 39, 40, 41, 42, 43, 44, 45, 46, 47, 48, 49, 50, 51, 52, 53, 54, 55, 56, 57, 58, 59, 60, 61, 62, 63, 64, 65, 66, 67, 68, 69, 70, 71, 72, 73, 74, 75, 76, 77, 78, 79, 80, 81, 82, 83, 84, 85, 86, 87, 88, 89, 90, 91, 92, 93, 94, 95, 96, 97, 98, 99, 100, 101, 102, 103, 104, 105, 106, 107, 108, 109, 110, 111, 112, 113, 114, 115, 116, 117, 118, 119, 120, 121, 122, 123, 124, 125, 126, 127, 128, 129] (by decide +kernel) (by decide +kernel)) (goodIn_sub (fun _ h => List.mem_cons_of_mem _ (List.mem_append_left _ (List.mem_append_right _ h))) (by decide +kernel))) (goodIn_sub (fun _ h => List.mem_cons_of_mem _ (List.mem_append_right _ h)) (by decide +kernel))) (goodIn_sub (fun _ h => List.mem_cons_of_mem _ (List.mem_append_left _ (List.mem_append_left _ (List.mem_append_right _ h)))) (by decide +kernel))
set_option maxRecDepth 20000 in
theorem gL_wouldPay_X9_wouldPay : GoodIn wsL_wouldPay (wsV RL 81 RX9 yX9_wouldPay wsX9_wouldPay) := goodIn_app (goodIn_of _ (by decide +kernel)) ggL_wouldPay_X9_wouldPay
theorem dL_wouldPay_0 : decode cL_wouldPay 0 = .ok (.aload_n 2, 1) := by decide +kernel
theorem dL_wouldPay_1 : decode cL_wouldPay 1 = .ok (.iconst 0, 1) := by decide +kernel
theorem dL_wouldPay_2 : decode cL_wouldPay 2 = .ok (.aload_n 0, 1) := by decide +kernel
theorem dL_wouldPay_3 : decode cL_wouldPay 3 = .ok (.iload_n 1, 1) := by decide +kernel
theorem dL_wouldPay_4 : decode cL_wouldPay 4 = .ok (.invokevirtual 81, 3) := by decide +kernel
theorem dL_wouldPay_7 : decode cL_wouldPay 7 = .ok (.i2l, 1) := by decide +kernel
theorem dL_wouldPay_8 : decode cL_wouldPay 8 = .ok (.lastore, 1) := by decide +kernel
theorem dL_wouldPay_9 : decode cL_wouldPay 9 = .ok (.goto 9, 3) := by decide +kernel
theorem dL_wouldPay_12 : decode cL_wouldPay 12 = .ok (.astore_n 3, 1) := by decide +kernel
theorem dL_wouldPay_13 : decode cL_wouldPay 13 = .ok (.iconst 1, 1) := by decide +kernel
theorem dL_wouldPay_14 : decode cL_wouldPay 14 = .ok (.ireturn, 1) := by decide +kernel
theorem dL_wouldPay_15 : decode cL_wouldPay 15 = .ok (.astore_n 3, 1) := by decide +kernel
theorem dL_wouldPay_16 : decode cL_wouldPay 16 = .ok (.iconst 2, 1) := by decide +kernel
theorem dL_wouldPay_17 : decode cL_wouldPay 17 = .ok (.ireturn, 1) := by decide +kernel
theorem dL_wouldPay_18 : decode cL_wouldPay 18 = .ok (.iconst 0, 1) := by decide +kernel
theorem dL_wouldPay_19 : decode cL_wouldPay 19 = .ok (.ireturn, 1) := by decide +kernel
set_option maxRecDepth 20000 in
theorem ggL_owed_X9_owed : GoodIn wsL_owed wsX9_owed := goodIn_ca (goodIn_r _ [6, 7, 8, 9, 10, 5, 11, 12, 13, 14, 15, 16, 17, 18, 19, 20, 21, 22, 23, 24, 25, 26, 27, 28, 29, 30, 31, 32, 33, 34, 35, 36, 37, 38, 39, 40, 41, 42, 43, 44, 45, 46, 47, 48, 49, 50, 51, 52, 53, 54, 55, 56, 57, 58, 59, 60, 61, 62, 63, 64, 65, 66, 67, 68, 69, 70] (by decide +kernel) (by decide +kernel)) (goodIn_sub (fun _ h => List.mem_cons_of_mem _ (List.mem_append_right _ h)) (by decide +kernel))
set_option maxRecDepth 20000 in
theorem gL_owed_X9_owed : GoodIn wsL_owed (wsV RL 84 RX9 yX9_owed wsX9_owed) := goodIn_app (goodIn_of _ (by decide +kernel)) ggL_owed_X9_owed
theorem dL_owed_0 : decode cL_owed 0 = .ok (.aload_n 2, 1) := by decide +kernel
theorem dL_owed_1 : decode cL_owed 1 = .ok (.iconst 0, 1) := by decide +kernel
theorem dL_owed_2 : decode cL_owed 2 = .ok (.aload_n 0, 1) := by decide +kernel
theorem dL_owed_3 : decode cL_owed 3 = .ok (.iload_n 1, 1) := by decide +kernel
theorem dL_owed_4 : decode cL_owed 4 = .ok (.invokevirtual 84, 3) := by decide +kernel
theorem dL_owed_7 : decode cL_owed 7 = .ok (.i2l, 1) := by decide +kernel
theorem dL_owed_8 : decode cL_owed 8 = .ok (.lastore, 1) := by decide +kernel
theorem dL_owed_9 : decode cL_owed 9 = .ok (.goto 6, 3) := by decide +kernel
theorem dL_owed_12 : decode cL_owed 12 = .ok (.astore_n 3, 1) := by decide +kernel
theorem dL_owed_13 : decode cL_owed 13 = .ok (.iconst 1, 1) := by decide +kernel
theorem dL_owed_14 : decode cL_owed 14 = .ok (.ireturn, 1) := by decide +kernel
theorem dL_owed_15 : decode cL_owed 15 = .ok (.iconst 0, 1) := by decide +kernel
theorem dL_owed_16 : decode cL_owed 16 = .ok (.ireturn, 1) := by decide +kernel
set_option maxRecDepth 20000 in
theorem ggL_ranked_X9_ranked : GoodIn wsL_ranked wsX9_ranked := goodIn_ca (goodIn_ca (goodIn_r _ [6, 7, 8, 9, 10, 11, 5, 12, 13, 14, 15, 16, 17, 18, 19, 20, 21, 22, 23, 24, 25, 26, 27, 28, 29, 30, 31, 32, 33, 34, 35, 36, 37, 38, 39, 40, 41, 42, 43, 44, 45, 46, 47, 48, 49, 50, 51, 52, 53, 54, 55, 56, 57, 58, 59, 60, 61, 62, 63, 64, 65, 66, 67, 68, 69, 70, 71, 72, 73, 74] (by decide +kernel) (by decide +kernel)) (goodIn_sub (fun _ h => List.mem_cons_of_mem _ (List.mem_append_left _ (List.mem_append_right _ h))) (by decide +kernel))) (goodIn_sub (fun _ h => List.mem_cons_of_mem _ (List.mem_append_right _ h)) (by decide +kernel))
set_option maxRecDepth 20000 in
theorem gL_ranked_X9_ranked : GoodIn wsL_ranked (wsV RL 87 RX9 yX9_ranked wsX9_ranked) := goodIn_app (goodIn_of _ (by decide +kernel)) ggL_ranked_X9_ranked
theorem dL_ranked_0 : decode cL_ranked 0 = .ok (.aload_n 3, 1) := by decide +kernel
theorem dL_ranked_1 : decode cL_ranked 1 = .ok (.iconst 0, 1) := by decide +kernel
theorem dL_ranked_2 : decode cL_ranked 2 = .ok (.aload_n 0, 1) := by decide +kernel
theorem dL_ranked_3 : decode cL_ranked 3 = .ok (.iload_n 1, 1) := by decide +kernel
theorem dL_ranked_4 : decode cL_ranked 4 = .ok (.iload_n 2, 1) := by decide +kernel
theorem dL_ranked_5 : decode cL_ranked 5 = .ok (.invokevirtual 87, 3) := by decide +kernel
theorem dL_ranked_8 : decode cL_ranked 8 = .ok (.i2l, 1) := by decide +kernel
theorem dL_ranked_9 : decode cL_ranked 9 = .ok (.lastore, 1) := by decide +kernel
theorem dL_ranked_10 : decode cL_ranked 10 = .ok (.goto 11, 3) := by decide +kernel
theorem dL_ranked_13 : decode cL_ranked 13 = .ok (.astore 4, 2) := by decide +kernel
theorem dL_ranked_15 : decode cL_ranked 15 = .ok (.iconst 1, 1) := by decide +kernel
theorem dL_ranked_16 : decode cL_ranked 16 = .ok (.ireturn, 1) := by decide +kernel
theorem dL_ranked_17 : decode cL_ranked 17 = .ok (.astore 4, 2) := by decide +kernel
theorem dL_ranked_19 : decode cL_ranked 19 = .ok (.iconst 2, 1) := by decide +kernel
theorem dL_ranked_20 : decode cL_ranked 20 = .ok (.ireturn, 1) := by decide +kernel
theorem dL_ranked_21 : decode cL_ranked 21 = .ok (.iconst 0, 1) := by decide +kernel
theorem dL_ranked_22 : decode cL_ranked 22 = .ok (.ireturn, 1) := by decide +kernel
set_option maxRecDepth 20000 in
theorem ggL_richest_X9_richest : GoodIn wsL_richest wsX9_richest := goodIn_ca (goodIn_r _ [6, 7, 8, 9, 10, 11, 12, 13, 14, 15, 16, 17, 18, 19, 20, 21, 22, 23, 24, 25, 26, 27, 28, 29, 30, 31, 32, 33, 34, 35, 36, 37, 38, 39, 40, 41, 42, 43, 44, 45, 46, 47, 48, 49, 50, 51, 52, 53, 54, 55, 56, 57, 58, 59, 60, 61, 62, 63, 64, 65, 66, 67, 68, 69, 70, 71, 72, 73, 74, 75, 76, 77, 78] (by decide +kernel) (by decide +kernel)) (goodIn_sub (fun _ h => List.mem_cons_of_mem _ (List.mem_append_right _ h)) (by decide +kernel))
set_option maxRecDepth 20000 in
theorem gL_richest_X9_richest : GoodIn wsL_richest (wsV RL 90 RX9 yX9_richest wsX9_richest) := goodIn_app (goodIn_of _ (by decide +kernel)) ggL_richest_X9_richest
theorem dL_richest_0 : decode cL_richest 0 = .ok (.aload_n 2, 1) := by decide +kernel
theorem dL_richest_1 : decode cL_richest 1 = .ok (.iconst 0, 1) := by decide +kernel
theorem dL_richest_2 : decode cL_richest 2 = .ok (.aload_n 0, 1) := by decide +kernel
theorem dL_richest_3 : decode cL_richest 3 = .ok (.iload_n 1, 1) := by decide +kernel
theorem dL_richest_4 : decode cL_richest 4 = .ok (.invokevirtual 90, 3) := by decide +kernel
theorem dL_richest_7 : decode cL_richest 7 = .ok (.i2l, 1) := by decide +kernel
theorem dL_richest_8 : decode cL_richest 8 = .ok (.lastore, 1) := by decide +kernel
theorem dL_richest_9 : decode cL_richest 9 = .ok (.goto 6, 3) := by decide +kernel
theorem dL_richest_12 : decode cL_richest 12 = .ok (.astore_n 3, 1) := by decide +kernel
theorem dL_richest_13 : decode cL_richest 13 = .ok (.iconst 1, 1) := by decide +kernel
theorem dL_richest_14 : decode cL_richest 14 = .ok (.ireturn, 1) := by decide +kernel
theorem dL_richest_15 : decode cL_richest 15 = .ok (.iconst 0, 1) := by decide +kernel
theorem dL_richest_16 : decode cL_richest 16 = .ok (.ireturn, 1) := by decide +kernel
set_option maxRecDepth 20000 in
theorem ggL_append_X9_append : GoodIn wsL_append wsX9_append := goodIn_ca (goodIn_ca (goodIn_r _ [6, 7, 8, 9, 10, 11, 12, 13, 14, 15, 16, 17, 18, 19, 20, 21, 22, 23, 24, 25, 26, 27, 28, 29, 30, 31, 32, 33, 34] (by decide +kernel) (by decide +kernel)) (goodIn_sub (fun _ h => List.mem_cons_of_mem _ (List.mem_append_right _ h)) (by decide +kernel))) (goodIn_sub (fun _ h => List.mem_cons_of_mem _ (List.mem_append_left _ (List.mem_append_right _ h))) (by decide +kernel))
set_option maxRecDepth 20000 in
theorem gL_append_X9_append : GoodIn wsL_append (wsV RL 93 RX9 yX9_append wsX9_append) := goodIn_app (goodIn_of _ (by decide +kernel)) ggL_append_X9_append
theorem dL_append_0 : decode cL_append 0 = .ok (.aload_n 2, 1) := by decide +kernel
theorem dL_append_1 : decode cL_append 1 = .ok (.iconst 0, 1) := by decide +kernel
theorem dL_append_2 : decode cL_append 2 = .ok (.aload_n 0, 1) := by decide +kernel
theorem dL_append_3 : decode cL_append 3 = .ok (.iload_n 1, 1) := by decide +kernel
theorem dL_append_4 : decode cL_append 4 = .ok (.invokevirtual 93, 3) := by decide +kernel
theorem dL_append_7 : decode cL_append 7 = .ok (.i2l, 1) := by decide +kernel
theorem dL_append_8 : decode cL_append 8 = .ok (.lastore, 1) := by decide +kernel
theorem dL_append_9 : decode cL_append 9 = .ok (.goto 6, 3) := by decide +kernel
theorem dL_append_12 : decode cL_append 12 = .ok (.astore_n 3, 1) := by decide +kernel
theorem dL_append_13 : decode cL_append 13 = .ok (.iconst 1, 1) := by decide +kernel
theorem dL_append_14 : decode cL_append 14 = .ok (.ireturn, 1) := by decide +kernel
theorem dL_append_15 : decode cL_append 15 = .ok (.iconst 0, 1) := by decide +kernel
theorem dL_append_16 : decode cL_append 16 = .ok (.ireturn, 1) := by decide +kernel
set_option maxRecDepth 20000 in
theorem ggL_commands_X9_commands : GoodIn wsL_commands wsX9_commands := goodIn_ca (goodIn_ca (goodIn_ca (goodIn_r _ [6, 7, 8, 9, 10, 11, 12, 13, 14, 15, 16, 17, 18, 19, 20, 21, 22, 23, 24, 25, 26, 27, 28, 29, 30, 31, 32, 33, 34, 35, 36, 37, 38, 39, 40, 41, 42, 43, 44, 45, 46, 47, 48, 49, 50, 51, 52, 53, 54, 55, 56, 57, 58, 59, 60, 61, 62, 63, 64, 65, 66, 67, 68, 69, 70, 71, 72, 73, 74, 75, 76, 77, 78, 79, 80, 81, 82, 83, 84, 85, 86, 87, 88, 89, 90, 91, 92, 93, 94, 95, 96, 97, 98, 99, 100, 101, 102, 103, 104, 105, 106, 107, 108, 109, 110, 111, 112, 113, 114, 115, 116, 117, 118, 119, 120, 121, 122, 123, 124, 125, 126, 127, 128, 129, 130, 131, 132, 133, 134, 135, 136, 137, 138, 139, 140, 141, 142, 143, 144, 145, 146, 147, 148, 149, 150, 151, 152, 153, 154, 155, 156, 157, 158, 159, 160, 161, 162, 163, 164, 165, 166, 167, 168, 169, 170, 171, 172, 173, 174, 175, 176, 177, 178, 179, 180, 181, 182, 183, 184, 185, 186, 187, 188, 189, 190, 191, 192, 193, 194, 195, 196, 197, 198, 199, 200, 201, 202, 203, 204, 205, 206, 207, 208, 209, 210, 211, 212, 213, 214, 215, 216, 217, 218, 219, 220, 221, 222, 223, 224, 225, 226, 227, 228, 229, 230, 231, 232, 233, 234, 235, 236, 237, 238, 239, 240, 241, 242, 243, 244, 245, 246, 247, 248, 249, 250, 251, 252, 253, 254, 255, 256, 257, 258, 259, 260, 261, 262, 263, 264, 265, 266, 267, 268, 269, 270, 271, 272, 273, 274, 275, 276, 277, 278, 279, 280, 281, 282, 283, 284, 285, 286, 287, 288, 289, 290, 291, 292, 293, 294, 295, 296, 297, 298, 299, 300, 301, 302, 303, 304, 305, 306, 307, 308, 309, 310, 311, 312, 313, 314, 315, 316, 317, 318, 319, 320, 321, 322, 323, 324, 325, 326, 327, 328, 329, 330, 331, 332, 333, 334, 335, 336, 337, 338, 339, 340, 341, 342, 343, 344, 345, 346, 347, 348, 349, 350, 351, 352, 353, 354, 355, 356, 357, 358, 359, 360, 361, 362, 363, 364, 365, 366, 367, 368, 369, 370, 371, 5, 372, 373, 374, 375, 376, 377, 378, 379, 380, 381, 382, 383, 384, 385, 386, 387, 388, 389, 390, 391, 392, 393, 394, 395, 396, 397, 398, 399, 400, 401, 402, 403, 404, 405, 406, 407, 408, 409, 410, 411, 412, 413, 414, 415, 416, 417, 418, 419, 420, 421, 422, 423, 424, 425, 426, 427, 428, 429, 430, 431, 432, 433, 434, 435, 436, 437, 438, 439] (by decide +kernel) (by decide +kernel)) (goodIn_sub (fun _ h => List.mem_cons_of_mem _ (List.mem_append_left _ (List.mem_append_right _ h))) (by decide +kernel))) (goodIn_sub (fun _ h => List.mem_cons_of_mem _ (List.mem_append_right _ h)) (by decide +kernel))) (goodIn_sub (fun _ h => List.mem_cons_of_mem _ (List.mem_append_left _ (List.mem_append_left _ (List.mem_append_right _ h)))) (by decide +kernel))
set_option maxRecDepth 20000 in
theorem gL_commands_X9_commands : GoodIn wsL_commands (wsV RL 99 RX9 yX9_commands wsX9_commands) := goodIn_app (goodIn_of _ (by decide +kernel)) ggL_commands_X9_commands
theorem dL_commands_0 : decode cL_commands 0 = .ok (.aload_n 1, 1) := by decide +kernel
theorem dL_commands_1 : decode cL_commands 1 = .ok (.iconst 0, 1) := by decide +kernel
theorem dL_commands_2 : decode cL_commands 2 = .ok (.aload_n 0, 1) := by decide +kernel
theorem dL_commands_3 : decode cL_commands 3 = .ok (.invokevirtual 99, 3) := by decide +kernel
theorem dL_commands_6 : decode cL_commands 6 = .ok (.i2l, 1) := by decide +kernel
theorem dL_commands_7 : decode cL_commands 7 = .ok (.lastore, 1) := by decide +kernel
theorem dL_commands_8 : decode cL_commands 8 = .ok (.goto 9, 3) := by decide +kernel
theorem dL_commands_11 : decode cL_commands 11 = .ok (.astore_n 2, 1) := by decide +kernel
theorem dL_commands_12 : decode cL_commands 12 = .ok (.iconst 1, 1) := by decide +kernel
theorem dL_commands_13 : decode cL_commands 13 = .ok (.ireturn, 1) := by decide +kernel
theorem dL_commands_14 : decode cL_commands 14 = .ok (.astore_n 2, 1) := by decide +kernel
theorem dL_commands_15 : decode cL_commands 15 = .ok (.iconst 2, 1) := by decide +kernel
theorem dL_commands_16 : decode cL_commands 16 = .ok (.ireturn, 1) := by decide +kernel
theorem dL_commands_17 : decode cL_commands 17 = .ok (.iconst 0, 1) := by decide +kernel
theorem dL_commands_18 : decode cL_commands 18 = .ok (.ireturn, 1) := by decide +kernel
set_option maxRecDepth 20000 in
theorem ggL_reason_X9_reason : GoodIn wsL_reason wsX9_reason := goodIn_ca (goodIn_ca (goodIn_r _ [6, 7, 8, 9, 10, 11, 12, 13, 14, 15, 16, 17, 18, 19, 20, 21, 22, 23, 24] (by decide +kernel) (by decide +kernel)) (goodIn_sub (fun _ h => List.mem_cons_of_mem _ (List.mem_append_left _ (List.mem_append_right _ h))) (by decide +kernel))) (goodIn_sub (fun _ h => List.mem_cons_of_mem _ (List.mem_append_right _ h)) (by decide +kernel))
set_option maxRecDepth 20000 in
theorem gL_reason_X9_reason : GoodIn wsL_reason (wsV RL 103 RX9 yX9_reason wsX9_reason) := goodIn_app (goodIn_of _ (by decide +kernel)) ggL_reason_X9_reason
theorem dL_reason_0 : decode cL_reason 0 = .ok (.aload_n 2, 1) := by decide +kernel
theorem dL_reason_1 : decode cL_reason 1 = .ok (.iconst 0, 1) := by decide +kernel
theorem dL_reason_2 : decode cL_reason 2 = .ok (.aload_n 0, 1) := by decide +kernel
theorem dL_reason_3 : decode cL_reason 3 = .ok (.iload_n 1, 1) := by decide +kernel
theorem dL_reason_4 : decode cL_reason 4 = .ok (.invokevirtual 103, 3) := by decide +kernel
theorem dL_reason_7 : decode cL_reason 7 = .ok (.i2l, 1) := by decide +kernel
theorem dL_reason_8 : decode cL_reason 8 = .ok (.lastore, 1) := by decide +kernel
theorem dL_reason_9 : decode cL_reason 9 = .ok (.goto 9, 3) := by decide +kernel
theorem dL_reason_12 : decode cL_reason 12 = .ok (.astore_n 3, 1) := by decide +kernel
theorem dL_reason_13 : decode cL_reason 13 = .ok (.iconst 1, 1) := by decide +kernel
theorem dL_reason_14 : decode cL_reason 14 = .ok (.ireturn, 1) := by decide +kernel
theorem dL_reason_15 : decode cL_reason 15 = .ok (.astore_n 3, 1) := by decide +kernel
theorem dL_reason_16 : decode cL_reason 16 = .ok (.iconst 2, 1) := by decide +kernel
theorem dL_reason_17 : decode cL_reason 17 = .ok (.ireturn, 1) := by decide +kernel
theorem dL_reason_18 : decode cL_reason 18 = .ok (.iconst 0, 1) := by decide +kernel
theorem dL_reason_19 : decode cL_reason 19 = .ok (.ireturn, 1) := by decide +kernel
set_option maxRecDepth 20000 in
theorem ggL_line_X9_line : GoodIn wsL_line wsX9_line := goodIn_ca (goodIn_r _ [6, 7, 8, 9, 10, 5, 11, 12, 13, 14, 15, 16, 17, 18, 19, 20, 21, 22, 23, 24, 25, 26, 27, 28, 29, 30, 31, 32, 33, 34, 35, 36, 37, 38, 39, 40, 41, 42, 43, 44, 45, 46, 47, 48, 49, 50, 51, 52, 53, 54, 55, 56, 57, 58, 59, 60, 61, 62, 63, 64, 65, 66, 67, 68, 69, 70, 71, 72, 73, 74, 75, 76, 77, 78, 79, 80, 81, 82, 83, 84, 85, 86, 87, 88, 89, 90, 91, 92, 93, 94, 95, 96, 97, 98, 99, 100, 101, 102, 103, 104, 105, 106, 107, 108, 109, 110, 111, 112, 113, 114, 115, 116, 117, 118, 119, 120, 121, 122, 123, 124, 125, 126, 127, 128, 129, 130, 131, 132, 133, 134, 135, 136, 137, 138, 139, 140, 141, 142, 143, 144, 145, 146, 147, 148, 149, 150, 151, 152, 153, 154, 155, 156, 157, 158, 159, 160, 161, 162, 163, 164, 165, 166, 167, 168, 169, 170, 171, 172, 173, 174, 175, 176, 177, 178, 179, 180, 181, 182, 183, 184, 185, 186, 187, 188, 189, 190, 191, 192, 193, 194, 195, 196, 197, 198, 199, 200, 201, 202, 203, 204, 205, 206, 207, 208, 209, 210, 211, 212, 213, 214, 215, 216, 217, 218, 219, 220, 221, 222, 223, 224, 225, 226, 227, 228, 229, 230, 231, 232, 233, 234, 235, 236, 237, 238, 239, 240, 241, 242, 243, 244, 245, 246, 247, 248, 249, 250, 251, 252, 253, 254, 255, 256, 257, 258, 259, 260, 261, 262, 263, 264, 265, 266, 267, 268, 269, 270, 271, 272, 273, 274, 275, 276, 277, 278, 279, 280, 281, 282, 283, 284, 285, 286, 287, 288, 289, 290, 291, 292, 293, 294, 295, 296, 297, 298, 299, 300, 301, 302, 303, 304, 305, 306, 307] (by decide +kernel) (by decide +kernel)) (goodIn_sub (fun _ h => List.mem_cons_of_mem _ (List.mem_append_right _ h)) (by decide +kernel))
set_option maxRecDepth 20000 in
theorem gL_line_X9_line : GoodIn wsL_line (wsV RL 106 RX9 yX9_line wsX9_line) := goodIn_app (goodIn_of _ (by decide +kernel)) ggL_line_X9_line
theorem dL_line_0 : decode cL_line 0 = .ok (.aload_n 2, 1) := by decide +kernel
theorem dL_line_1 : decode cL_line 1 = .ok (.iconst 0, 1) := by decide +kernel
theorem dL_line_2 : decode cL_line 2 = .ok (.aload_n 0, 1) := by decide +kernel
theorem dL_line_3 : decode cL_line 3 = .ok (.iload_n 1, 1) := by decide +kernel
theorem dL_line_4 : decode cL_line 4 = .ok (.invokevirtual 106, 3) := by decide +kernel
theorem dL_line_7 : decode cL_line 7 = .ok (.i2l, 1) := by decide +kernel
theorem dL_line_8 : decode cL_line 8 = .ok (.lastore, 1) := by decide +kernel
theorem dL_line_9 : decode cL_line 9 = .ok (.goto 6, 3) := by decide +kernel
theorem dL_line_12 : decode cL_line 12 = .ok (.astore_n 3, 1) := by decide +kernel
theorem dL_line_13 : decode cL_line 13 = .ok (.iconst 1, 1) := by decide +kernel
theorem dL_line_14 : decode cL_line 14 = .ok (.ireturn, 1) := by decide +kernel
theorem dL_line_15 : decode cL_line 15 = .ok (.iconst 0, 1) := by decide +kernel
theorem dL_line_16 : decode cL_line 16 = .ok (.ireturn, 1) := by decide +kernel
set_option maxRecDepth 20000 in
theorem ggL_row_X9_row : GoodIn wsL_row wsX9_row := goodIn_ca (goodIn_ca (goodIn_r _ [6, 7, 8, 9, 10, 11, 12, 13, 14, 15, 16, 17, 18, 19, 20, 21, 22, 23, 24, 25, 26, 27, 28, 29, 30, 31, 32, 33, 34, 35, 36, 37, 38, 39, 40, 41, 42, 43, 44, 45, 46, 47, 48, 49, 50, 51, 52, 53, 54, 55, 56, 57, 58, 59, 60, 61, 62, 63, 64, 65, 66, 67, 68, 69, 70, 71, 72, 73, 74, 75, 76, 77, 78, 79, 80, 81, 82, 83, 84, 85, 86, 87, 88, 89, 90, 91, 92, 93, 94, 95, 96, 97, 98, 99, 100, 101, 102, 103, 104, 105, 106, 107, 108, 109, 110, 111, 112, 113, 114, 115, 116, 117, 118, 119, 120, 121, 122, 123, 124, 125, 126, 127, 128, 129, 130, 131, 132, 133, 134, 135, 136, 137, 138, 139, 140, 141, 142, 143, 144, 145, 146, 147, 148, 149, 150, 151, 152, 153, 154, 155, 156, 157, 158, 159, 160, 161, 162, 163, 164, 165, 166, 167, 168, 169, 170, 171, 172, 173, 174, 175, 176, 177, 178, 179, 180, 181, 182, 183, 184, 185, 186, 187, 188, 189, 190, 191, 192, 193, 194, 195, 196, 197, 198, 199, 200, 201, 202, 203, 204, 205, 206, 207, 208, 209, 210, 211, 212, 213, 214, 215, 216, 217, 218, 219, 220, 221, 222, 223, 224, 225, 226, 227, 228, 229, 230, 231, 232, 233, 234, 235, 236, 237, 238, 239, 240, 241, 242, 243, 244, 245, 246, 247, 248, 249, 250, 251, 252, 253, 254, 255, 256, 257, 258, 259, 260, 261, 262, 263, 264, 265, 266, 267, 268, 269, 270, 271, 272, 273, 274] (by decide +kernel) (by decide +kernel)) (goodIn_sub (fun _ h => List.mem_cons_of_mem _ (List.mem_append_right _ h)) (by decide +kernel))) (goodIn_sub (fun _ h => List.mem_cons_of_mem _ (List.mem_append_left _ (List.mem_append_right _ h))) (by decide +kernel))
set_option maxRecDepth 20000 in
theorem gL_row_X9_row : GoodIn wsL_row (wsV RL 109 RX9 yX9_row wsX9_row) := goodIn_app (goodIn_of _ (by decide +kernel)) ggL_row_X9_row
theorem dL_row_0 : decode cL_row 0 = .ok (.aload_n 2, 1) := by decide +kernel
theorem dL_row_1 : decode cL_row 1 = .ok (.iconst 0, 1) := by decide +kernel
theorem dL_row_2 : decode cL_row 2 = .ok (.aload_n 0, 1) := by decide +kernel
theorem dL_row_3 : decode cL_row 3 = .ok (.iload_n 1, 1) := by decide +kernel
theorem dL_row_4 : decode cL_row 4 = .ok (.invokevirtual 109, 3) := by decide +kernel
theorem dL_row_7 : decode cL_row 7 = .ok (.i2l, 1) := by decide +kernel
theorem dL_row_8 : decode cL_row 8 = .ok (.lastore, 1) := by decide +kernel
theorem dL_row_9 : decode cL_row 9 = .ok (.goto 6, 3) := by decide +kernel
theorem dL_row_12 : decode cL_row 12 = .ok (.astore_n 3, 1) := by decide +kernel
theorem dL_row_13 : decode cL_row 13 = .ok (.iconst 1, 1) := by decide +kernel
theorem dL_row_14 : decode cL_row 14 = .ok (.ireturn, 1) := by decide +kernel
theorem dL_row_15 : decode cL_row 15 = .ok (.iconst 0, 1) := by decide +kernel
theorem dL_row_16 : decode cL_row 16 = .ok (.ireturn, 1) := by decide +kernel
set_option maxRecDepth 20000 in
theorem ggL_character_X9_character : GoodIn wsL_character wsX9_character := goodIn_ca (goodIn_r _ [6, 7, 8, 9, 10, 11, 12, 13, 14, 15, 16, 17, 18, 19, 20, 21, 22, 23, 24, 25, 26, 27, 28, 29, 30, 31, 32, 33, 34, 35, 36, 37, 38, 39, 40, 41, 42, 43, 44, 45, 46, 47, 48, 49, 50, 51, 52, 53, 54, 55, 56, 57, 58, 59, 60, 61, 62, 63, 64, 65, 66, 67, 68] (by decide +kernel) (by decide +kernel)) (goodIn_sub (fun _ h => List.mem_cons_of_mem _ (List.mem_append_right _ h)) (by decide +kernel))
set_option maxRecDepth 20000 in
theorem gL_character_X9_character : GoodIn wsL_character (wsV RL 112 RX9 yX9_character wsX9_character) := goodIn_app (goodIn_of _ (by decide +kernel)) ggL_character_X9_character
theorem dL_character_0 : decode cL_character 0 = .ok (.aload_n 2, 1) := by decide +kernel
theorem dL_character_1 : decode cL_character 1 = .ok (.iconst 0, 1) := by decide +kernel
theorem dL_character_2 : decode cL_character 2 = .ok (.aload_n 0, 1) := by decide +kernel
theorem dL_character_3 : decode cL_character 3 = .ok (.iload_n 1, 1) := by decide +kernel
theorem dL_character_4 : decode cL_character 4 = .ok (.invokevirtual 112, 3) := by decide +kernel
theorem dL_character_7 : decode cL_character 7 = .ok (.i2l, 1) := by decide +kernel
theorem dL_character_8 : decode cL_character 8 = .ok (.lastore, 1) := by decide +kernel
theorem dL_character_9 : decode cL_character 9 = .ok (.goto 6, 3) := by decide +kernel
theorem dL_character_12 : decode cL_character 12 = .ok (.astore_n 3, 1) := by decide +kernel
theorem dL_character_13 : decode cL_character 13 = .ok (.iconst 1, 1) := by decide +kernel
theorem dL_character_14 : decode cL_character 14 = .ok (.ireturn, 1) := by decide +kernel
theorem dL_character_15 : decode cL_character 15 = .ok (.iconst 0, 1) := by decide +kernel
theorem dL_character_16 : decode cL_character 16 = .ok (.ireturn, 1) := by decide +kernel
set_option maxRecDepth 20000 in
theorem ggL_meanLost_X9_meanLost : GoodIn wsL_meanLost wsX9_meanLost := goodIn_ca (goodIn_r _ [6, 7, 8, 9, 10, 11, 12, 13, 14, 15, 16, 17, 18, 19, 20, 21, 22, 23, 24, 25, 26, 27, 28, 29, 30, 31, 32, 33, 34, 35, 36, 37, 38, 39, 40, 41, 42, 43, 44, 45, 46, 47, 48, 49, 50, 51, 52, 53, 54, 55, 56, 57, 58, 59, 60, 61, 62, 63, 64] (by decide +kernel) (by decide +kernel)) (goodIn_sub (fun _ h => List.mem_cons_of_mem _ (List.mem_append_right _ h)) (by decide +kernel))
set_option maxRecDepth 20000 in
theorem gL_meanLost_X9_meanLost : GoodIn wsL_meanLost (wsV RL 116 RX9 yX9_meanLost wsX9_meanLost) := goodIn_app (goodIn_of _ (by decide +kernel)) ggL_meanLost_X9_meanLost
theorem dL_meanLost_0 : decode cL_meanLost 0 = .ok (.aload_n 1, 1) := by decide +kernel
theorem dL_meanLost_1 : decode cL_meanLost 1 = .ok (.iconst 0, 1) := by decide +kernel
theorem dL_meanLost_2 : decode cL_meanLost 2 = .ok (.aload_n 0, 1) := by decide +kernel
theorem dL_meanLost_3 : decode cL_meanLost 3 = .ok (.invokevirtual 116, 3) := by decide +kernel
theorem dL_meanLost_6 : decode cL_meanLost 6 = .ok (.dastore, 1) := by decide +kernel
theorem dL_meanLost_7 : decode cL_meanLost 7 = .ok (.goto 6, 3) := by decide +kernel
theorem dL_meanLost_10 : decode cL_meanLost 10 = .ok (.astore_n 2, 1) := by decide +kernel
theorem dL_meanLost_11 : decode cL_meanLost 11 = .ok (.iconst 1, 1) := by decide +kernel
theorem dL_meanLost_12 : decode cL_meanLost 12 = .ok (.ireturn, 1) := by decide +kernel
theorem dL_meanLost_13 : decode cL_meanLost 13 = .ok (.iconst 0, 1) := by decide +kernel
theorem dL_meanLost_14 : decode cL_meanLost 14 = .ok (.ireturn, 1) := by decide +kernel
set_option maxRecDepth 20000 in
theorem ggL_account_X9_account : GoodIn wsL_account wsX9_account := goodIn_ca (goodIn_ca (goodIn_r _ [6, 7, 8, 9, 10, 11, 12, 13, 14, 15, 16, 17, 18, 19, 20, 21, 22, 23, 24, 25, 26, 27, 28, 29, 30, 31, 32, 33, 34, 35, 36, 37, 38, 39, 40, 41, 42, 43, 44, 45, 46, 47, 48, 49, 50, 51, 52, 53, 54, 55, 56, 57, 58, 59, 60, 61, 62, 63, 64, 65, 66, 67, 68, 69, 70, 71, 72, 73, 74, 75, 76, 77, 78, 79, 80, 81, 82, 83, 84, 85, 86, 87, 88, 89, 90, 91, 92, 93, 94, 95, 96, 97, 98, 99, 100, 101, 102, 103, 104, 105, 106, 107, 108, 109, 110, 111] (by decide +kernel) (by decide +kernel)) (goodIn_sub (fun _ h => List.mem_cons_of_mem _ (List.mem_append_right _ h)) (by decide +kernel))) (goodIn_sub (fun _ h => List.mem_cons_of_mem _ (List.mem_append_left _ (List.mem_append_right _ h))) (by decide +kernel))
set_option maxRecDepth 20000 in
theorem gL_account_X9_account : GoodIn wsL_account (wsV RL 122 RX9 yX9_account wsX9_account) := goodIn_app (goodIn_of _ (by decide +kernel)) ggL_account_X9_account
theorem dL_account_0 : decode cL_account 0 = .ok (.aload_n 2, 1) := by decide +kernel
theorem dL_account_1 : decode cL_account 1 = .ok (.iconst 0, 1) := by decide +kernel
theorem dL_account_2 : decode cL_account 2 = .ok (.aload_n 0, 1) := by decide +kernel
theorem dL_account_3 : decode cL_account 3 = .ok (.iload_n 1, 1) := by decide +kernel
theorem dL_account_4 : decode cL_account 4 = .ok (.invokevirtual 122, 3) := by decide +kernel
theorem dL_account_7 : decode cL_account 7 = .ok (.i2l, 1) := by decide +kernel
theorem dL_account_8 : decode cL_account 8 = .ok (.lastore, 1) := by decide +kernel
theorem dL_account_9 : decode cL_account 9 = .ok (.goto 6, 3) := by decide +kernel
theorem dL_account_12 : decode cL_account 12 = .ok (.astore_n 3, 1) := by decide +kernel
theorem dL_account_13 : decode cL_account 13 = .ok (.iconst 1, 1) := by decide +kernel
theorem dL_account_14 : decode cL_account 14 = .ok (.ireturn, 1) := by decide +kernel
theorem dL_account_15 : decode cL_account 15 = .ok (.iconst 0, 1) := by decide +kernel
theorem dL_account_16 : decode cL_account 16 = .ok (.ireturn, 1) := by decide +kernel
set_option maxRecDepth 20000 in
theorem ggL_undo_X9_undo : GoodIn wsL_undo wsX9_undo := goodIn_ca (goodIn_r _ [6, 7, 8, 9, 10, 11, 12, 13, 14, 15, 16, 17, 18, 19, 20, 21, 22, 23, 24, 25, 26, 27, 28, 29, 30, 31, 32, 33, 34, 35, 36, 37, 38, 39, 40, 41, 42, 43, 44, 45, 46, 47, 48, 49, 50, 51, 52, 53, 54, 55, 56, 57, 58, 59, 60, 61, 62, 63, 64, 65, 66, 67, 68, 69, 70, 71, 72, 73, 74, 75, 76, 77, 78, 79, 80, 81, 82, 83, 84, 85, 86, 87, 88, 89, 90, 91, 92, 93, 94, 95, 96, 97, 98, 99] (by decide +kernel) (by decide +kernel)) (goodIn_sub (fun _ h => List.mem_cons_of_mem _ (List.mem_append_right _ h)) (by decide +kernel))
set_option maxRecDepth 20000 in
theorem gL_undo_X9_undo : GoodIn wsL_undo (wsV RL 125 RX9 yX9_undo wsX9_undo) := goodIn_app (goodIn_of _ (by decide +kernel)) ggL_undo_X9_undo
theorem dL_undo_0 : decode cL_undo 0 = .ok (.aload_n 1, 1) := by decide +kernel
theorem dL_undo_1 : decode cL_undo 1 = .ok (.iconst 0, 1) := by decide +kernel
theorem dL_undo_2 : decode cL_undo 2 = .ok (.aload_n 0, 1) := by decide +kernel
theorem dL_undo_3 : decode cL_undo 3 = .ok (.invokevirtual 125, 3) := by decide +kernel
theorem dL_undo_6 : decode cL_undo 6 = .ok (.i2l, 1) := by decide +kernel
theorem dL_undo_7 : decode cL_undo 7 = .ok (.lastore, 1) := by decide +kernel
theorem dL_undo_8 : decode cL_undo 8 = .ok (.goto 6, 3) := by decide +kernel
theorem dL_undo_11 : decode cL_undo 11 = .ok (.astore_n 2, 1) := by decide +kernel
theorem dL_undo_12 : decode cL_undo 12 = .ok (.iconst 1, 1) := by decide +kernel
theorem dL_undo_13 : decode cL_undo 13 = .ok (.ireturn, 1) := by decide +kernel
theorem dL_undo_14 : decode cL_undo 14 = .ok (.iconst 0, 1) := by decide +kernel
theorem dL_undo_15 : decode cL_undo 15 = .ok (.ireturn, 1) := by decide +kernel
set_option maxRecDepth 20000 in
theorem ggL_restore_X9_restore : GoodIn wsL_restore wsX9_restore := goodIn_ca (goodIn_r _ [6, 7, 8, 9, 10, 11, 12, 13, 14, 15, 16, 17, 18, 19, 20, 21, 22, 23, 24, 25, 26, 27, 28, 29, 30, 31, 32, 33, 34, 35, 36, 37, 38, 39, 40, 41, 42, 43, 44, 45, 46, 47, 48, 49, 50, 51, 52, 53, 54, 55, 56, 57, 58, 59, 60, 61, 62, 63, 64, 65, 66, 67, 68, 69, 70, 71, 72, 73, 74, 75, 76, 77, 78, 79, 80, 81, 82, 83, 84, 85, 86, 87, 88, 89, 90, 91, 92, 93, 94, 95, 96, 97, 98, 99] (by decide +kernel) (by decide +kernel)) (goodIn_sub (fun _ h => List.mem_cons_of_mem _ (List.mem_append_right _ h)) (by decide +kernel))
set_option maxRecDepth 20000 in
theorem gL_restore_X9_restore : GoodIn wsL_restore (wsV RL 128 RX9 yX9_restore wsX9_restore) := goodIn_app (goodIn_of _ (by decide +kernel)) ggL_restore_X9_restore
theorem dL_restore_0 : decode cL_restore 0 = .ok (.aload_n 1, 1) := by decide +kernel
theorem dL_restore_1 : decode cL_restore 1 = .ok (.iconst 0, 1) := by decide +kernel
theorem dL_restore_2 : decode cL_restore 2 = .ok (.aload_n 0, 1) := by decide +kernel
theorem dL_restore_3 : decode cL_restore 3 = .ok (.invokevirtual 128, 3) := by decide +kernel
theorem dL_restore_6 : decode cL_restore 6 = .ok (.i2l, 1) := by decide +kernel
theorem dL_restore_7 : decode cL_restore 7 = .ok (.lastore, 1) := by decide +kernel
theorem dL_restore_8 : decode cL_restore 8 = .ok (.goto 6, 3) := by decide +kernel
theorem dL_restore_11 : decode cL_restore 11 = .ok (.astore_n 2, 1) := by decide +kernel
theorem dL_restore_12 : decode cL_restore 12 = .ok (.iconst 1, 1) := by decide +kernel
theorem dL_restore_13 : decode cL_restore 13 = .ok (.ireturn, 1) := by decide +kernel
theorem dL_restore_14 : decode cL_restore 14 = .ok (.iconst 0, 1) := by decide +kernel
theorem dL_restore_15 : decode cL_restore 15 = .ok (.ireturn, 1) := by decide +kernel
theorem dL_law_0 : decode cL_law 0 = .ok (.new 8, 3) := by decide +kernel
theorem dL_law_3 : decode cL_law 3 = .ok (.dup, 1) := by decide +kernel
theorem dL_law_4 : decode cL_law 4 = .ok (.invokespecial 131, 3) := by decide +kernel
theorem dL_law_7 : decode cL_law 7 = .ok (.astore_n 1, 1) := by decide +kernel
theorem dL_law_8 : decode cL_law 8 = .ok (.new 132, 3) := by decide +kernel
theorem dL_law_11 : decode cL_law 11 = .ok (.dup, 1) := by decide +kernel
theorem dL_law_12 : decode cL_law 12 = .ok (.invokespecial 134, 3) := by decide +kernel
theorem dL_law_15 : decode cL_law 15 = .ok (.astore_n 2, 1) := by decide +kernel
theorem dL_law_16 : decode cL_law 16 = .ok (.iconst 1, 1) := by decide +kernel
theorem dL_law_17 : decode cL_law 17 = .ok (.newarray .long, 2) := by decide +kernel
theorem dL_law_19 : decode cL_law 19 = .ok (.astore_n 3, 1) := by decide +kernel
theorem dL_law_20 : decode cL_law 20 = .ok (.iconst 1, 1) := by decide +kernel
theorem dL_law_21 : decode cL_law 21 = .ok (.newarray .double, 2) := by decide +kernel
theorem dL_law_23 : decode cL_law 23 = .ok (.astore 4, 2) := by decide +kernel
theorem dL_law_25 : decode cL_law 25 = .ok (.iconst 0, 1) := by decide +kernel
theorem dL_law_26 : decode cL_law 26 = .ok (.istore 5, 2) := by decide +kernel
theorem dL_law_28 : decode cL_law 28 = .ok (.iload 5, 2) := by decide +kernel
theorem dL_law_30 : decode cL_law 30 = .ok (.aload_n 0, 1) := by decide +kernel
theorem dL_law_31 : decode cL_law 31 = .ok (.arraylength, 1) := by decide +kernel
theorem dL_law_32 : decode cL_law 32 = .ok (.iconst 4, 1) := by decide +kernel
theorem dL_law_33 : decode cL_law 33 = .ok (.isub, 1) := by decide +kernel
theorem dL_law_34 : decode cL_law 34 = .ok (.if_icmp .gt 2380, 3) := by decide +kernel
theorem dL_law_37 : decode cL_law 37 = .ok (.aload_n 0, 1) := by decide +kernel
theorem dL_law_38 : decode cL_law 38 = .ok (.iload 5, 2) := by decide +kernel
theorem dL_law_40 : decode cL_law 40 = .ok (.iaload, 1) := by decide +kernel
theorem dL_law_41 : decode cL_law 41 = .ok (.bipush 63, 2) := by decide +kernel
theorem dL_law_43 : decode cL_law 43 = .ok (.iand, 1) := by decide +kernel
theorem dL_law_44 : decode cL_law 44 = .ok (.tableswitch 2364 0 38 #[172, 252, 265, 345, 401, 457, 513, 593, 661, 729, 797, 872, 940, 1008, 1064, 1120, 1176, 1232, 1307, 1375, 1388, 1456, 1524, 1580, 1636, 1704, 1760, 1818, 1862, 1875, 1931, 1987, 2043, 2099, 2164, 2207, 2263, 2307, 2320], 172) := by decide +kernel
theorem dL_law_216 : decode cL_law 216 = .ok (.aload_n 1, 1) := by decide +kernel
theorem dL_law_217 : decode cL_law 217 = .ok (.aload_n 0, 1) := by decide +kernel
theorem dL_law_218 : decode cL_law 218 = .ok (.iload 5, 2) := by decide +kernel
theorem dL_law_220 : decode cL_law 220 = .ok (.iconst 1, 1) := by decide +kernel
theorem dL_law_221 : decode cL_law 221 = .ok (.iadd, 1) := by decide +kernel
theorem dL_law_222 : decode cL_law 222 = .ok (.iaload, 1) := by decide +kernel
theorem dL_law_223 : decode cL_law 223 = .ok (.aload_n 0, 1) := by decide +kernel
theorem dL_law_224 : decode cL_law 224 = .ok (.iload 5, 2) := by decide +kernel
theorem dL_law_226 : decode cL_law 226 = .ok (.iconst 2, 1) := by decide +kernel
theorem dL_law_227 : decode cL_law 227 = .ok (.iadd, 1) := by decide +kernel
theorem dL_law_228 : decode cL_law 228 = .ok (.iaload, 1) := by decide +kernel
theorem dL_law_229 : decode cL_law 229 = .ok (.aload_n 0, 1) := by decide +kernel
theorem dL_law_230 : decode cL_law 230 = .ok (.iload 5, 2) := by decide +kernel
theorem dL_law_232 : decode cL_law 232 = .ok (.iconst 3, 1) := by decide +kernel
theorem dL_law_233 : decode cL_law 233 = .ok (.iadd, 1) := by decide +kernel
theorem dL_law_234 : decode cL_law 234 = .ok (.iaload, 1) := by decide +kernel
theorem dL_law_235 : decode cL_law 235 = .ok (.aload_n 3, 1) := by decide +kernel
theorem dL_law_236 : decode cL_law 236 = .ok (.invokestatic 135, 3) := by decide +kernel
theorem dL_law_239 : decode cL_law 239 = .ok (.istore 6, 2) := by decide +kernel
theorem dL_law_241 : decode cL_law 241 = .ok (.aload_n 2, 1) := by decide +kernel
theorem dL_law_242 : decode cL_law 242 = .ok (.aload_n 0, 1) := by decide +kernel
theorem dL_law_243 : decode cL_law 243 = .ok (.iload 5, 2) := by decide +kernel
theorem dL_law_245 : decode cL_law 245 = .ok (.iconst 1, 1) := by decide +kernel
theorem dL_law_246 : decode cL_law 246 = .ok (.iadd, 1) := by decide +kernel
theorem dL_law_247 : decode cL_law 247 = .ok (.iaload, 1) := by decide +kernel
theorem dL_law_248 : decode cL_law 248 = .ok (.aload_n 0, 1) := by decide +kernel
theorem dL_law_249 : decode cL_law 249 = .ok (.iload 5, 2) := by decide +kernel
theorem dL_law_251 : decode cL_law 251 = .ok (.iconst 2, 1) := by decide +kernel
