theorem dX10_walkIt_289 : decode cX10_walkIt 289 = .ok (.getfield 9, 3) := by decide +kernel
theorem dX10_walkIt_292 : decode cX10_walkIt 292 = .ok (.iload_n 3, 1) := by decide +kernel
theorem dX10_walkIt_293 : decode cX10_walkIt 293 = .ok (.bipush 7, 2) := by decide +kernel
theorem dX10_walkIt_295 : decode cX10_walkIt 295 = .ok (.iadd, 1) := by decide +kernel
theorem dX10_walkIt_296 : decode cX10_walkIt 296 = .ok (.iconst 1, 1) := by decide +kernel
theorem dX10_walkIt_297 : decode cX10_walkIt 297 = .ok (.iastore, 1) := by decide +kernel
theorem dX10_walkIt_298 : decode cX10_walkIt 298 = .ok (.aload_n 0, 1) := by decide +kernel
theorem dX10_walkIt_299 : decode cX10_walkIt 299 = .ok (.getfield 9, 3) := by decide +kernel
theorem dX10_walkIt_302 : decode cX10_walkIt 302 = .ok (.iload_n 3, 1) := by decide +kernel
theorem dX10_walkIt_303 : decode cX10_walkIt 303 = .ok (.iconst 4, 1) := by decide +kernel
theorem dX10_walkIt_304 : decode cX10_walkIt 304 = .ok (.iadd, 1) := by decide +kernel
theorem dX10_walkIt_305 : decode cX10_walkIt 305 = .ok (.iconst (-1), 1) := by decide +kernel
theorem dX10_walkIt_306 : decode cX10_walkIt 306 = .ok (.iastore, 1) := by decide +kernel
theorem dX10_walkIt_307 : decode cX10_walkIt 307 = .ok (.aload_n 0, 1) := by decide +kernel
theorem dX10_walkIt_308 : decode cX10_walkIt 308 = .ok (.getfield 9, 3) := by decide +kernel
theorem dX10_walkIt_311 : decode cX10_walkIt 311 = .ok (.iload_n 3, 1) := by decide +kernel
theorem dX10_walkIt_312 : decode cX10_walkIt 312 = .ok (.iconst 5, 1) := by decide +kernel
theorem dX10_walkIt_313 : decode cX10_walkIt 313 = .ok (.iadd, 1) := by decide +kernel
theorem dX10_walkIt_314 : decode cX10_walkIt 314 = .ok (.iconst 0, 1) := by decide +kernel
theorem dX10_walkIt_315 : decode cX10_walkIt 315 = .ok (.iastore, 1) := by decide +kernel
theorem dX10_walkIt_316 : decode cX10_walkIt 316 = .ok (.aload_n 0, 1) := by decide +kernel
theorem dX10_walkIt_317 : decode cX10_walkIt 317 = .ok (.getfield 9, 3) := by decide +kernel
theorem dX10_walkIt_320 : decode cX10_walkIt 320 = .ok (.iload_n 3, 1) := by decide +kernel
theorem dX10_walkIt_321 : decode cX10_walkIt 321 = .ok (.bipush 6, 2) := by decide +kernel
theorem dX10_walkIt_323 : decode cX10_walkIt 323 = .ok (.iadd, 1) := by decide +kernel
theorem dX10_walkIt_324 : decode cX10_walkIt 324 = .ok (.iconst 0, 1) := by decide +kernel
theorem dX10_walkIt_325 : decode cX10_walkIt 325 = .ok (.iastore, 1) := by decide +kernel
theorem dX10_walkIt_326 : decode cX10_walkIt 326 = .ok (.iload 5, 2) := by decide +kernel
theorem dX10_walkIt_328 : decode cX10_walkIt 328 = .ok (.ireturn, 1) := by decide +kernel
set_option maxRecDepth 20000 in
theorem ggX10_walk_X10_starts : GoodIn wsX10_walk wsX10_starts := goodIn_ca (goodIn_r _ [5, 6, 7, 8, 73, 74, 75, 76, 77, 78, 79, 80, 81, 82, 83, 84, 85, 86, 87, 88, 89, 90, 91, 92, 93] (by decide +kernel) (by decide +kernel)) (goodIn_sub (fun _ h => List.mem_cons_of_mem _ (List.mem_append_right _ h)) (by decide +kernel))
set_option maxRecDepth 20000 in
theorem gX10_walk_X10_starts : GoodIn wsX10_walk (wsV RX10 100 RX10 yX10_starts wsX10_starts) := goodIn_app (goodIn_of _ (by decide +kernel)) ggX10_walk_X10_starts
set_option maxRecDepth 20000 in
theorem ggX10_walk_X10_walkIt : GoodIn wsX10_walk wsX10_walkIt := goodIn_ca (goodIn_r _ [12, 8, 13, 14, 15, 16, 4, 17, 18, 19, 20, 21, 22, 23, 24, 25, 26, 27, 28, 29, 30, 31, 6, 32, 33, 34, 35, 36, 37, 38, 39, 40, 41, 42, 43, 44, 45, 46, 47, 48, 49, 50, 51, 52, 53, 54, 55, 56, 57, 58, 59, 60, 61, 62, 63, 64, 65, 66, 73, 74, 75, 76, 77, 78, 79, 80, 81, 82, 83, 84, 85, 86, 87, 88, 89, 90, 91, 92, 93] (by decide +kernel) (by decide +kernel)) (goodIn_sub (fun _ h => List.mem_cons_of_mem _ (List.mem_append_right _ h)) (by decide +kernel))
set_option maxRecDepth 20000 in
theorem gX10_walk_X10_walkIt : GoodIn wsX10_walk (wsV RX10 168 RX10 yX10_walkIt wsX10_walkIt) := goodIn_app (goodIn_of _ (by decide +kernel)) ggX10_walk_X10_walkIt
set_option maxRecDepth 20000 in
theorem ggX10_walk_X10_changed : GoodIn wsX10_walk wsX10_changed := goodIn_ca (goodIn_r _ [70, 6, 71, 72, 7, 73, 74, 75, 76, 77, 78, 79, 80, 81, 82, 83, 84, 85, 86, 87, 88, 89, 90, 91, 92, 93] (by decide +kernel) (by decide +kernel)) (goodIn_sub (fun _ h => List.mem_cons_of_mem _ (List.mem_append_right _ h)) (by decide +kernel))
set_option maxRecDepth 20000 in
theorem gX10_walk_X10_changed : GoodIn wsX10_walk (wsV RX10 107 RX10 yX10_changed wsX10_changed) := goodIn_app (goodIn_of _ (by decide +kernel)) ggX10_walk_X10_changed
theorem dX10_walk_0 : decode cX10_walk 0 = .ok (.aload_n 0, 1) := by decide +kernel
theorem dX10_walk_1 : decode cX10_walk 1 = .ok (.invokevirtual 100, 3) := by decide +kernel
theorem dX10_walk_4 : decode cX10_walk 4 = .ok (.aload_n 0, 1) := by decide +kernel
theorem dX10_walk_5 : decode cX10_walk 5 = .ok (.aload_n 0, 1) := by decide +kernel
theorem dX10_walk_6 : decode cX10_walk 6 = .ok (.iload_n 1, 1) := by decide +kernel
theorem dX10_walk_7 : decode cX10_walk 7 = .ok (.iload_n 2, 1) := by decide +kernel
theorem dX10_walk_8 : decode cX10_walk 8 = .ok (.invokevirtual 168, 3) := by decide +kernel
theorem dX10_walk_11 : decode cX10_walk 11 = .ok (.invokevirtual 107, 3) := by decide +kernel
theorem dX10_walk_14 : decode cX10_walk 14 = .ok (.ireturn, 1) := by decide +kernel
set_option maxRecDepth 20000 in
theorem ggX10_restIt_X10_isVisitor : GoodIn wsX10_restIt wsX10_isVisitor := goodIn_ca (goodIn_r _ [7, 1, 8, 9, 6, 10, 26, 27, 28, 29, 30, 31, 32, 33, 34, 35, 36, 37, 38, 39, 40, 41, 42, 43, 44, 45, 46] (by decide +kernel) (by decide +kernel)) (goodIn_sub (fun _ h => List.mem_cons_of_mem _ (List.mem_append_right _ h)) (by decide +kernel))
set_option maxRecDepth 20000 in
theorem gX10_restIt_X10_isVisitor : GoodIn wsX10_restIt (wsV RX10 154 RX10 yX10_isVisitor wsX10_isVisitor) := goodIn_app (goodIn_of _ (by decide +kernel)) ggX10_restIt_X10_isVisitor
set_option maxRecDepth 20000 in
theorem ggX10_restIt_X10_refuse : GoodIn wsX10_restIt wsX10_refuse := goodIn_r _ [14, 15, 16, 17, 18, 19, 20, 6, 21, 22, 26, 27, 28, 29, 30, 31, 32, 33, 34, 35, 36, 37, 38, 39, 40, 41, 42, 43, 44, 45, 46] (by decide +kernel) (by decide +kernel)
set_option maxRecDepth 20000 in
theorem gX10_restIt_X10_refuse : GoodIn wsX10_restIt (wsV RX10 91 RX10 yX10_refuse wsX10_refuse) := goodIn_app (goodIn_of _ (by decide +kernel)) ggX10_restIt_X10_refuse
set_option maxRecDepth 20000 in
theorem ggX10_restIt_X10_in : GoodIn wsX10_restIt wsX10_in := goodIn_r _ [10] (by decide +kernel) (by decide +kernel)
set_option maxRecDepth 20000 in
theorem gX10_restIt_X10_in : GoodIn wsX10_restIt (va_wsS RX10 59 yX10_in wsX10_in) := goodIn_app (goodIn_of _ (by decide +kernel)) ggX10_restIt_X10_in
set_option maxRecDepth 20000 in
theorem ggX10_restIt_X10_visitorAt : GoodIn wsX10_restIt wsX10_visitorAt := goodIn_r _ [25] (by decide +kernel) (by decide +kernel)
set_option maxRecDepth 20000 in
theorem gX10_restIt_X10_visitorAt : GoodIn wsX10_restIt (va_wsS RX10 126 yX10_visitorAt wsX10_visitorAt) := goodIn_app (goodIn_of _ (by decide +kernel)) ggX10_restIt_X10_visitorAt
theorem dX10_restIt_0 : decode cX10_restIt 0 = .ok (.aload_n 0, 1) := by decide +kernel
theorem dX10_restIt_1 : decode cX10_restIt 1 = .ok (.iload_n 1, 1) := by decide +kernel
theorem dX10_restIt_2 : decode cX10_restIt 2 = .ok (.invokevirtual 154, 3) := by decide +kernel
theorem dX10_restIt_5 : decode cX10_restIt 5 = .ok (.ifCond .ne 16, 3) := by decide +kernel
theorem dX10_restIt_8 : decode cX10_restIt 8 = .ok (.aload_n 0, 1) := by decide +kernel
theorem dX10_restIt_9 : decode cX10_restIt 9 = .ok (.bipush 7, 2) := by decide +kernel
theorem dX10_restIt_11 : decode cX10_restIt 11 = .ok (.aload_n 0, 1) := by decide +kernel
theorem dX10_restIt_12 : decode cX10_restIt 12 = .ok (.getfield 9, 3) := by decide +kernel
theorem dX10_restIt_15 : decode cX10_restIt 15 = .ok (.iconst 1, 1) := by decide +kernel
theorem dX10_restIt_16 : decode cX10_restIt 16 = .ok (.iaload, 1) := by decide +kernel
theorem dX10_restIt_17 : decode cX10_restIt 17 = .ok (.invokevirtual 91, 3) := by decide +kernel
theorem dX10_restIt_20 : decode cX10_restIt 20 = .ok (.ireturn, 1) := by decide +kernel
theorem dX10_restIt_21 : decode cX10_restIt 21 = .ok (.iload_n 2, 1) := by decide +kernel
theorem dX10_restIt_22 : decode cX10_restIt 22 = .ok (.i2l, 1) := by decide +kernel
theorem dX10_restIt_23 : decode cX10_restIt 23 = .ok (.lconst 1, 1) := by decide +kernel
theorem dX10_restIt_24 : decode cX10_restIt 24 = .ok (.ldc2_w 94, 3) := by decide +kernel
theorem dX10_restIt_27 : decode cX10_restIt 27 = .ok (.invokestatic 59, 3) := by decide +kernel
theorem dX10_restIt_30 : decode cX10_restIt 30 = .ok (.ifCond .ne 10, 3) := by decide +kernel
theorem dX10_restIt_33 : decode cX10_restIt 33 = .ok (.aload_n 0, 1) := by decide +kernel
theorem dX10_restIt_34 : decode cX10_restIt 34 = .ok (.iconst 1, 1) := by decide +kernel
theorem dX10_restIt_35 : decode cX10_restIt 35 = .ok (.iconst 0, 1) := by decide +kernel
theorem dX10_restIt_36 : decode cX10_restIt 36 = .ok (.invokevirtual 91, 3) := by decide +kernel
theorem dX10_restIt_39 : decode cX10_restIt 39 = .ok (.ireturn, 1) := by decide +kernel
theorem dX10_restIt_40 : decode cX10_restIt 40 = .ok (.iload_n 1, 1) := by decide +kernel
theorem dX10_restIt_41 : decode cX10_restIt 41 = .ok (.invokestatic 126, 3) := by decide +kernel
theorem dX10_restIt_44 : decode cX10_restIt 44 = .ok (.istore_n 3, 1) := by decide +kernel
theorem dX10_restIt_45 : decode cX10_restIt 45 = .ok (.aload_n 0, 1) := by decide +kernel
theorem dX10_restIt_46 : decode cX10_restIt 46 = .ok (.getfield 9, 3) := by decide +kernel
theorem dX10_restIt_49 : decode cX10_restIt 49 = .ok (.iload_n 3, 1) := by decide +kernel
theorem dX10_restIt_50 : decode cX10_restIt 50 = .ok (.bipush 7, 2) := by decide +kernel
theorem dX10_restIt_52 : decode cX10_restIt 52 = .ok (.iadd, 1) := by decide +kernel
theorem dX10_restIt_53 : decode cX10_restIt 53 = .ok (.iaload, 1) := by decide +kernel
theorem dX10_restIt_54 : decode cX10_restIt 54 = .ok (.iconst 1, 1) := by decide +kernel
theorem dX10_restIt_55 : decode cX10_restIt 55 = .ok (.if_icmp .ne 18, 3) := by decide +kernel
theorem dX10_restIt_58 : decode cX10_restIt 58 = .ok (.aload_n 0, 1) := by decide +kernel
theorem dX10_restIt_59 : decode cX10_restIt 59 = .ok (.bipush 9, 2) := by decide +kernel
theorem dX10_restIt_61 : decode cX10_restIt 61 = .ok (.aload_n 0, 1) := by decide +kernel
theorem dX10_restIt_62 : decode cX10_restIt 62 = .ok (.getfield 9, 3) := by decide +kernel
theorem dX10_restIt_65 : decode cX10_restIt 65 = .ok (.iload_n 3, 1) := by decide +kernel
theorem dX10_restIt_66 : decode cX10_restIt 66 = .ok (.iconst 2, 1) := by decide +kernel
theorem dX10_restIt_67 : decode cX10_restIt 67 = .ok (.iadd, 1) := by decide +kernel
theorem dX10_restIt_68 : decode cX10_restIt 68 = .ok (.iaload, 1) := by decide +kernel
theorem dX10_restIt_69 : decode cX10_restIt 69 = .ok (.invokevirtual 91, 3) := by decide +kernel
theorem dX10_restIt_72 : decode cX10_restIt 72 = .ok (.ireturn, 1) := by decide +kernel
theorem dX10_restIt_73 : decode cX10_restIt 73 = .ok (.aload_n 0, 1) := by decide +kernel
theorem dX10_restIt_74 : decode cX10_restIt 74 = .ok (.getfield 9, 3) := by decide +kernel
theorem dX10_restIt_77 : decode cX10_restIt 77 = .ok (.iload_n 3, 1) := by decide +kernel
theorem dX10_restIt_78 : decode cX10_restIt 78 = .ok (.iconst 2, 1) := by decide +kernel
theorem dX10_restIt_79 : decode cX10_restIt 79 = .ok (.iadd, 1) := by decide +kernel
theorem dX10_restIt_80 : decode cX10_restIt 80 = .ok (.dup2, 1) := by decide +kernel
theorem dX10_restIt_81 : decode cX10_restIt 81 = .ok (.iaload, 1) := by decide +kernel
theorem dX10_restIt_82 : decode cX10_restIt 82 = .ok (.iload_n 2, 1) := by decide +kernel
theorem dX10_restIt_83 : decode cX10_restIt 83 = .ok (.iadd, 1) := by decide +kernel
theorem dX10_restIt_84 : decode cX10_restIt 84 = .ok (.iastore, 1) := by decide +kernel
theorem dX10_restIt_85 : decode cX10_restIt 85 = .ok (.aload_n 0, 1) := by decide +kernel
theorem dX10_restIt_86 : decode cX10_restIt 86 = .ok (.getfield 9, 3) := by decide +kernel
theorem dX10_restIt_89 : decode cX10_restIt 89 = .ok (.iload_n 3, 1) := by decide +kernel
theorem dX10_restIt_90 : decode cX10_restIt 90 = .ok (.iconst 2, 1) := by decide +kernel
theorem dX10_restIt_91 : decode cX10_restIt 91 = .ok (.iadd, 1) := by decide +kernel
theorem dX10_restIt_92 : decode cX10_restIt 92 = .ok (.iaload, 1) := by decide +kernel
theorem dX10_restIt_93 : decode cX10_restIt 93 = .ok (.ireturn, 1) := by decide +kernel
set_option maxRecDepth 20000 in
theorem ggX10_rest_X10_starts : GoodIn wsX10_rest wsX10_starts := goodIn_ca (goodIn_r _ [5, 6, 7, 8, 41, 42, 43, 44, 45, 46, 47, 48, 49, 50, 51, 52, 53, 54, 55, 56, 57, 58, 59, 60, 61] (by decide +kernel) (by decide +kernel)) (goodIn_sub (fun _ h => List.mem_cons_of_mem _ (List.mem_append_right _ h)) (by decide +kernel))
set_option maxRecDepth 20000 in
theorem gX10_rest_X10_starts : GoodIn wsX10_rest (wsV RX10 100 RX10 yX10_starts wsX10_starts) := goodIn_app (goodIn_of _ (by decide +kernel)) ggX10_rest_X10_starts
set_option maxRecDepth 20000 in
theorem ggX10_rest_X10_restIt : GoodIn wsX10_rest wsX10_restIt := goodIn_ca (goodIn_r _ [12, 8, 13, 14, 15, 16, 4, 17, 18, 19, 20, 21, 22, 23, 24, 25, 26, 27, 28, 29, 30, 31, 6, 32, 33, 34, 41, 42, 43, 44, 45, 46, 47, 48, 49, 50, 51, 52, 53, 54, 55, 56, 57, 58, 59, 60, 61] (by decide +kernel) (by decide +kernel)) (goodIn_sub (fun _ h => List.mem_cons_of_mem _ (List.mem_append_right _ h)) (by decide +kernel))
set_option maxRecDepth 20000 in
theorem gX10_rest_X10_restIt : GoodIn wsX10_rest (wsV RX10 171 RX10 yX10_restIt wsX10_restIt) := goodIn_app (goodIn_of _ (by decide +kernel)) ggX10_rest_X10_restIt
set_option maxRecDepth 20000 in
theorem ggX10_rest_X10_changed : GoodIn wsX10_rest wsX10_changed := goodIn_ca (goodIn_r _ [38, 6, 39, 40, 7, 41, 42, 43, 44, 45, 46, 47, 48, 49, 50, 51, 52, 53, 54, 55, 56, 57, 58, 59, 60, 61] (by decide +kernel) (by decide +kernel)) (goodIn_sub (fun _ h => List.mem_cons_of_mem _ (List.mem_append_right _ h)) (by decide +kernel))
set_option maxRecDepth 20000 in
theorem gX10_rest_X10_changed : GoodIn wsX10_rest (wsV RX10 107 RX10 yX10_changed wsX10_changed) := goodIn_app (goodIn_of _ (by decide +kernel)) ggX10_rest_X10_changed
theorem dX10_rest_0 : decode cX10_rest 0 = .ok (.aload_n 0, 1) := by decide +kernel
theorem dX10_rest_1 : decode cX10_rest 1 = .ok (.invokevirtual 100, 3) := by decide +kernel
theorem dX10_rest_4 : decode cX10_rest 4 = .ok (.aload_n 0, 1) := by decide +kernel
theorem dX10_rest_5 : decode cX10_rest 5 = .ok (.aload_n 0, 1) := by decide +kernel
theorem dX10_rest_6 : decode cX10_rest 6 = .ok (.iload_n 1, 1) := by decide +kernel
theorem dX10_rest_7 : decode cX10_rest 7 = .ok (.iload_n 2, 1) := by decide +kernel
theorem dX10_rest_8 : decode cX10_rest 8 = .ok (.invokevirtual 171, 3) := by decide +kernel
theorem dX10_rest_11 : decode cX10_rest 11 = .ok (.invokevirtual 107, 3) := by decide +kernel
theorem dX10_rest_14 : decode cX10_rest 14 = .ok (.ireturn, 1) := by decide +kernel
set_option maxRecDepth 20000 in
theorem ggX10_areCells_X10_isCell : GoodIn wsX10_areCells wsX10_isCell := goodIn_r _ [5, 6, 7, 8, 4, 9] (by decide +kernel) (by decide +kernel)
set_option maxRecDepth 20000 in
theorem gX10_areCells_X10_isCell : GoodIn wsX10_areCells (va_wsS RX10 88 yX10_isCell wsX10_isCell) := goodIn_app (goodIn_of _ (by decide +kernel)) ggX10_areCells_X10_isCell
theorem dX10_areCells_0 : decode cX10_areCells 0 = .ok (.aload_n 0, 1) := by decide +kernel
theorem dX10_areCells_1 : decode cX10_areCells 1 = .ok (.iload_n 1, 1) := by decide +kernel
theorem dX10_areCells_2 : decode cX10_areCells 2 = .ok (.invokestatic 88, 3) := by decide +kernel
theorem dX10_areCells_5 : decode cX10_areCells 5 = .ok (.ifCond .eq 14, 3) := by decide +kernel
theorem dX10_areCells_8 : decode cX10_areCells 8 = .ok (.iload_n 2, 1) := by decide +kernel
theorem dX10_areCells_9 : decode cX10_areCells 9 = .ok (.invokestatic 88, 3) := by decide +kernel
theorem dX10_areCells_12 : decode cX10_areCells 12 = .ok (.ifCond .eq 7, 3) := by decide +kernel
theorem dX10_areCells_15 : decode cX10_areCells 15 = .ok (.iconst 0, 1) := by decide +kernel
theorem dX10_areCells_16 : decode cX10_areCells 16 = .ok (.goto 4, 3) := by decide +kernel
theorem dX10_areCells_19 : decode cX10_areCells 19 = .ok (.iconst 1, 1) := by decide +kernel
theorem dX10_areCells_20 : decode cX10_areCells 20 = .ok (.putfield 38, 3) := by decide +kernel
theorem dX10_areCells_23 : decode cX10_areCells 23 = .ok (.aload_n 0, 1) := by decide +kernel
theorem dX10_areCells_24 : decode cX10_areCells 24 = .ok (.getfield 38, 3) := by decide +kernel
theorem dX10_areCells_27 : decode cX10_areCells 27 = .ok (.ifCond .ne 7, 3) := by decide +kernel
theorem dX10_areCells_30 : decode cX10_areCells 30 = .ok (.iconst 1, 1) := by decide +kernel
theorem dX10_areCells_31 : decode cX10_areCells 31 = .ok (.goto 4, 3) := by decide +kernel
theorem dX10_areCells_34 : decode cX10_areCells 34 = .ok (.iconst 0, 1) := by decide +kernel
theorem dX10_areCells_35 : decode cX10_areCells 35 = .ok (.ireturn, 1) := by decide +kernel
set_option maxRecDepth 20000 in
theorem ggX10_leaves_X10_areCells : GoodIn wsX10_leaves wsX10_areCells := goodIn_r _ [6, 7, 8, 9, 5, 10, 11, 12, 13, 14, 29, 30, 31, 32, 33, 34, 35, 36, 37, 38, 39, 40, 41, 42, 43, 44, 45, 46, 47, 48, 49] (by decide +kernel) (by decide +kernel)
set_option maxRecDepth 20000 in
theorem gX10_leaves_X10_areCells : GoodIn wsX10_leaves (wsV RX10 174 RX10 yX10_areCells wsX10_areCells) := goodIn_app (goodIn_of _ (by decide +kernel)) ggX10_leaves_X10_areCells
set_option maxRecDepth 20000 in
theorem ggX10_leaves_X10_hedgeAt : GoodIn wsX10_leaves wsX10_hedgeAt := goodIn_r _ [17, 18, 19, 20, 21, 22, 23, 24] (by decide +kernel) (by decide +kernel)
set_option maxRecDepth 20000 in
theorem gX10_leaves_X10_hedgeAt : GoodIn wsX10_leaves (va_wsS RX10 77 yX10_hedgeAt wsX10_hedgeAt) := goodIn_app (goodIn_of _ (by decide +kernel)) ggX10_leaves_X10_hedgeAt
set_option maxRecDepth 20000 in
theorem ggX10_leaves_X10_throwing : GoodIn wsX10_leaves wsX10_throwing := goodIn_r _ [28, 7, 29, 30, 31, 32, 33, 34, 35, 36, 37, 38, 39, 40, 41, 42, 43, 44, 45, 46, 47, 48, 49] (by decide +kernel) (by decide +kernel)
set_option maxRecDepth 20000 in
theorem gX10_leaves_X10_throwing : GoodIn wsX10_leaves (wsV RX10 50 RX10 yX10_throwing wsX10_throwing) := goodIn_app (goodIn_of _ (by decide +kernel)) ggX10_leaves_X10_throwing
theorem dX10_leaves_0 : decode cX10_leaves 0 = .ok (.aload_n 0, 1) := by decide +kernel
theorem dX10_leaves_1 : decode cX10_leaves 1 = .ok (.iload_n 1, 1) := by decide +kernel
theorem dX10_leaves_2 : decode cX10_leaves 2 = .ok (.iload_n 2, 1) := by decide +kernel
theorem dX10_leaves_3 : decode cX10_leaves 3 = .ok (.invokevirtual 174, 3) := by decide +kernel
theorem dX10_leaves_6 : decode cX10_leaves 6 = .ok (.ifCond .ne 5, 3) := by decide +kernel
theorem dX10_leaves_9 : decode cX10_leaves 9 = .ok (.iconst (-1), 1) := by decide +kernel
theorem dX10_leaves_10 : decode cX10_leaves 10 = .ok (.ireturn, 1) := by decide +kernel
theorem dX10_leaves_11 : decode cX10_leaves 11 = .ok (.iload_n 1, 1) := by decide +kernel
theorem dX10_leaves_12 : decode cX10_leaves 12 = .ok (.iload_n 2, 1) := by decide +kernel
theorem dX10_leaves_13 : decode cX10_leaves 13 = .ok (.invokestatic 77, 3) := by decide +kernel
theorem dX10_leaves_16 : decode cX10_leaves 16 = .ok (.istore_n 3, 1) := by decide +kernel
theorem dX10_leaves_17 : decode cX10_leaves 17 = .ok (.iload_n 3, 1) := by decide +kernel
theorem dX10_leaves_18 : decode cX10_leaves 18 = .ok (.iconst (-1), 1) := by decide +kernel
theorem dX10_leaves_19 : decode cX10_leaves 19 = .ok (.if_icmp .ne 11, 3) := by decide +kernel
theorem dX10_leaves_22 : decode cX10_leaves 22 = .ok (.aload_n 0, 1) := by decide +kernel
theorem dX10_leaves_23 : decode cX10_leaves 23 = .ok (.iconst 2, 1) := by decide +kernel
theorem dX10_leaves_24 : decode cX10_leaves 24 = .ok (.invokevirtual 50, 3) := by decide +kernel
theorem dX10_leaves_27 : decode cX10_leaves 27 = .ok (.goto 9, 3) := by decide +kernel
theorem dX10_leaves_30 : decode cX10_leaves 30 = .ok (.aload_n 0, 1) := by decide +kernel
theorem dX10_leaves_31 : decode cX10_leaves 31 = .ok (.getfield 9, 3) := by decide +kernel
theorem dX10_leaves_34 : decode cX10_leaves 34 = .ok (.iload_n 3, 1) := by decide +kernel
theorem dX10_leaves_35 : decode cX10_leaves 35 = .ok (.iaload, 1) := by decide +kernel
theorem dX10_leaves_36 : decode cX10_leaves 36 = .ok (.ireturn, 1) := by decide +kernel
set_option maxRecDepth 20000 in
theorem ggX10_isGap_X10_areCells : GoodIn wsX10_isGap wsX10_areCells := goodIn_r _ [5, 6, 7, 8, 4, 9, 10, 11, 12, 13, 29, 30, 31, 32, 33, 34, 35, 36, 37, 38, 39, 40, 41, 42, 43, 44, 45, 46, 47, 48, 49] (by decide +kernel) (by decide +kernel)
set_option maxRecDepth 20000 in
theorem gX10_isGap_X10_areCells : GoodIn wsX10_isGap (wsV RX10 174 RX10 yX10_areCells wsX10_areCells) := goodIn_app (goodIn_of _ (by decide +kernel)) ggX10_isGap_X10_areCells
set_option maxRecDepth 20000 in
theorem ggX10_isGap_X10_hedgeAt : GoodIn wsX10_isGap wsX10_hedgeAt := goodIn_r _ [16, 17, 18, 19, 20, 21, 22, 23] (by decide +kernel) (by decide +kernel)
set_option maxRecDepth 20000 in
theorem gX10_isGap_X10_hedgeAt : GoodIn wsX10_isGap (va_wsS RX10 77 yX10_hedgeAt wsX10_hedgeAt) := goodIn_app (goodIn_of _ (by decide +kernel)) ggX10_isGap_X10_hedgeAt
set_option maxRecDepth 20000 in
theorem ggX10_isGap_X10_isGapAt : GoodIn wsX10_isGap wsX10_isGapAt := goodIn_ca (goodIn_r _ [27, 28, 29, 30, 31, 32, 33, 34, 35, 36, 37, 38, 39, 40, 41, 42, 43, 44, 45, 46, 47, 48, 49] (by decide +kernel) (by decide +kernel)) (goodIn_sub (fun _ h => List.mem_cons_of_mem _ (List.mem_append_right _ h)) (by decide +kernel))
set_option maxRecDepth 20000 in
theorem gX10_isGap_X10_isGapAt : GoodIn wsX10_isGap (wsV RX10 80 RX10 yX10_isGapAt wsX10_isGapAt) := goodIn_app (goodIn_of _ (by decide +kernel)) ggX10_isGap_X10_isGapAt
theorem dX10_isGap_0 : decode cX10_isGap 0 = .ok (.aload_n 0, 1) := by decide +kernel
theorem dX10_isGap_1 : decode cX10_isGap 1 = .ok (.iload_n 1, 1) := by decide +kernel
theorem dX10_isGap_2 : decode cX10_isGap 2 = .ok (.iload_n 2, 1) := by decide +kernel
theorem dX10_isGap_3 : decode cX10_isGap 3 = .ok (.invokevirtual 174, 3) := by decide +kernel
theorem dX10_isGap_6 : decode cX10_isGap 6 = .ok (.ifCond .eq 19, 3) := by decide +kernel
theorem dX10_isGap_9 : decode cX10_isGap 9 = .ok (.aload_n 0, 1) := by decide +kernel
theorem dX10_isGap_10 : decode cX10_isGap 10 = .ok (.iload_n 1, 1) := by decide +kernel
theorem dX10_isGap_11 : decode cX10_isGap 11 = .ok (.iload_n 2, 1) := by decide +kernel
theorem dX10_isGap_12 : decode cX10_isGap 12 = .ok (.invokestatic 77, 3) := by decide +kernel
theorem dX10_isGap_15 : decode cX10_isGap 15 = .ok (.invokevirtual 80, 3) := by decide +kernel
theorem dX10_isGap_18 : decode cX10_isGap 18 = .ok (.ifCond .eq 7, 3) := by decide +kernel
theorem dX10_isGap_21 : decode cX10_isGap 21 = .ok (.iconst 1, 1) := by decide +kernel
theorem dX10_isGap_22 : decode cX10_isGap 22 = .ok (.goto 4, 3) := by decide +kernel
theorem dX10_isGap_25 : decode cX10_isGap 25 = .ok (.iconst 0, 1) := by decide +kernel
theorem dX10_isGap_26 : decode cX10_isGap 26 = .ok (.ireturn, 1) := by decide +kernel
set_option maxRecDepth 20000 in
theorem ggX10_hours_X10_areCells : GoodIn wsX10_hours wsX10_areCells := goodIn_r _ [5, 6, 7, 8, 4, 9, 10, 11, 12, 13, 46, 47, 48, 49, 50, 51, 52, 53, 54, 55, 56, 57, 58, 59, 60, 61, 62, 63, 64, 65, 66] (by decide +kernel) (by decide +kernel)
set_option maxRecDepth 20000 in
theorem gX10_hours_X10_areCells : GoodIn wsX10_hours (wsV RX10 174 RX10 yX10_areCells wsX10_areCells) := goodIn_app (goodIn_of _ (by decide +kernel)) ggX10_hours_X10_areCells
set_option maxRecDepth 20000 in
theorem ggX10_hours_X10_hoursOf : GoodIn wsX10_hours wsX10_hoursOf := goodIn_ca (goodIn_r _ [17, 18, 19, 20, 21, 4, 22, 23, 24, 25, 26, 27, 28, 29, 30, 11, 12, 13, 31, 32, 33, 34, 35, 36, 37, 38, 39, 40, 41, 46, 47, 48, 49, 50, 51, 52, 53, 54, 55, 56, 57, 58, 59, 60, 61, 62, 63, 64, 65, 66] (by decide +kernel) (by decide +kernel)) (goodIn_sub (fun _ h => List.mem_cons_of_mem _ (List.mem_append_right _ h)) (by decide +kernel))
set_option maxRecDepth 20000 in
theorem gX10_hours_X10_hoursOf : GoodIn wsX10_hours (wsV RX10 142 RX10 yX10_hoursOf wsX10_hoursOf) := goodIn_app (goodIn_of _ (by decide +kernel)) ggX10_hours_X10_hoursOf
set_option maxRecDepth 20000 in
theorem ggX10_hours_X10_throwing : GoodIn wsX10_hours wsX10_throwing := goodIn_r _ [45, 6, 46, 47, 48, 49, 50, 51, 52, 53, 54, 55, 56, 57, 58, 59, 60, 61, 62, 63, 64, 65, 66] (by decide +kernel) (by decide +kernel)
set_option maxRecDepth 20000 in
theorem gX10_hours_X10_throwing : GoodIn wsX10_hours (wsV RX10 50 RX10 yX10_throwing wsX10_throwing) := goodIn_app (goodIn_of _ (by decide +kernel)) ggX10_hours_X10_throwing
theorem dX10_hours_0 : decode cX10_hours 0 = .ok (.aload_n 0, 1) := by decide +kernel
theorem dX10_hours_1 : decode cX10_hours 1 = .ok (.iload_n 1, 1) := by decide +kernel
theorem dX10_hours_2 : decode cX10_hours 2 = .ok (.iload_n 2, 1) := by decide +kernel
theorem dX10_hours_3 : decode cX10_hours 3 = .ok (.invokevirtual 174, 3) := by decide +kernel
theorem dX10_hours_6 : decode cX10_hours 6 = .ok (.ifCond .ne 5, 3) := by decide +kernel
theorem dX10_hours_9 : decode cX10_hours 9 = .ok (.iconst (-1), 1) := by decide +kernel
theorem dX10_hours_10 : decode cX10_hours 10 = .ok (.ireturn, 1) := by decide +kernel
theorem dX10_hours_11 : decode cX10_hours 11 = .ok (.aload_n 0, 1) := by decide +kernel
theorem dX10_hours_12 : decode cX10_hours 12 = .ok (.iload_n 1, 1) := by decide +kernel
theorem dX10_hours_13 : decode cX10_hours 13 = .ok (.iload_n 2, 1) := by decide +kernel
theorem dX10_hours_14 : decode cX10_hours 14 = .ok (.invokevirtual 142, 3) := by decide +kernel
theorem dX10_hours_17 : decode cX10_hours 17 = .ok (.istore_n 3, 1) := by decide +kernel
theorem dX10_hours_18 : decode cX10_hours 18 = .ok (.iload_n 3, 1) := by decide +kernel
theorem dX10_hours_19 : decode cX10_hours 19 = .ok (.iconst (-1), 1) := by decide +kernel
theorem dX10_hours_20 : decode cX10_hours 20 = .ok (.if_icmp .ne 11, 3) := by decide +kernel
theorem dX10_hours_23 : decode cX10_hours 23 = .ok (.aload_n 0, 1) := by decide +kernel
theorem dX10_hours_24 : decode cX10_hours 24 = .ok (.iconst 2, 1) := by decide +kernel
theorem dX10_hours_25 : decode cX10_hours 25 = .ok (.invokevirtual 50, 3) := by decide +kernel
theorem dX10_hours_28 : decode cX10_hours 28 = .ok (.goto 4, 3) := by decide +kernel
theorem dX10_hours_31 : decode cX10_hours 31 = .ok (.iload_n 3, 1) := by decide +kernel
theorem dX10_hours_32 : decode cX10_hours 32 = .ok (.ireturn, 1) := by decide +kernel
set_option maxRecDepth 20000 in
theorem ggX10_hoursAgain_X10_hours : GoodIn wsX10_hoursAgain wsX10_hours := goodIn_ca (goodIn_r _ [5, 6, 7, 8, 4, 9, 10, 11, 12, 13, 14, 15, 16, 17, 18, 19, 20, 21, 22, 23, 24, 25, 26, 27, 28, 29, 30, 31, 32, 33, 34, 35, 36, 37, 38, 39, 40, 41, 42, 43, 44, 45, 46, 47, 48, 49, 50, 51, 52, 53, 54, 55, 56, 57, 58, 59, 60, 61, 62, 63, 64, 65, 66, 67, 68, 69, 70] (by decide +kernel) (by decide +kernel)) (goodIn_sub (fun _ h => List.mem_cons_of_mem _ (List.mem_append_right _ h)) (by decide +kernel))
set_option maxRecDepth 20000 in
theorem gX10_hoursAgain_X10_hours : GoodIn wsX10_hoursAgain (wsV RX10 177 RX10 yX10_hours wsX10_hours) := goodIn_app (goodIn_of _ (by decide +kernel)) ggX10_hoursAgain_X10_hours
theorem dX10_hoursAgain_0 : decode cX10_hoursAgain 0 = .ok (.aload_n 0, 1) := by decide +kernel
theorem dX10_hoursAgain_1 : decode cX10_hoursAgain 1 = .ok (.iload_n 1, 1) := by decide +kernel
theorem dX10_hoursAgain_2 : decode cX10_hoursAgain 2 = .ok (.iload_n 2, 1) := by decide +kernel
theorem dX10_hoursAgain_3 : decode cX10_hoursAgain 3 = .ok (.invokevirtual 177, 3) := by decide +kernel
theorem dX10_hoursAgain_6 : decode cX10_hoursAgain 6 = .ok (.ireturn, 1) := by decide +kernel
set_option maxRecDepth 20000 in
theorem ggX10_next_X10_areCells : GoodIn wsX10_next wsX10_areCells := goodIn_r _ [6, 7, 8, 9, 5, 10, 11, 12, 13, 14, 42, 43, 44, 45, 46, 47, 48, 49, 50, 51, 52, 53, 54, 55, 56, 57, 58, 59, 60, 61, 62] (by decide +kernel) (by decide +kernel)
set_option maxRecDepth 20000 in
theorem gX10_next_X10_areCells : GoodIn wsX10_next (wsV RX10 174 RX10 yX10_areCells wsX10_areCells) := goodIn_app (goodIn_of _ (by decide +kernel)) ggX10_next_X10_areCells
set_option maxRecDepth 20000 in
theorem ggX10_next_X10_laysWays : GoodIn wsX10_next wsX10_laysWays := goodIn_ca (goodIn_r _ [18, 1, 19, 20, 21, 22, 23, 24, 5, 25, 26, 12, 13, 14, 27, 28, 29, 30, 31, 32, 33, 34, 35, 36, 37, 42, 43, 44, 45, 46, 47, 48, 49, 50, 51, 52, 53, 54, 55, 56, 57, 58, 59, 60, 61, 62] (by decide +kernel) (by decide +kernel)) (goodIn_sub (fun _ h => List.mem_cons_of_mem _ (List.mem_append_right _ h)) (by decide +kernel))
set_option maxRecDepth 20000 in
theorem gX10_next_X10_laysWays : GoodIn wsX10_next (wsV RX10 84 RX10 yX10_laysWays wsX10_laysWays) := goodIn_app (goodIn_of _ (by decide +kernel)) ggX10_next_X10_laysWays
set_option maxRecDepth 20000 in
theorem ggX10_next_X10_throwing : GoodIn wsX10_next wsX10_throwing := goodIn_r _ [41, 7, 42, 43, 44, 45, 46, 47, 48, 49, 50, 51, 52, 53, 54, 55, 56, 57, 58, 59, 60, 61, 62] (by decide +kernel) (by decide +kernel)
set_option maxRecDepth 20000 in
theorem gX10_next_X10_throwing : GoodIn wsX10_next (wsV RX10 50 RX10 yX10_throwing wsX10_throwing) := goodIn_app (goodIn_of _ (by decide +kernel)) ggX10_next_X10_throwing
set_option maxRecDepth 20000 in
theorem ggX10_next_X10_hedgeAt : GoodIn wsX10_next wsX10_hedgeAt := goodIn_r _ [29, 19, 20, 21, 22, 30, 31, 32] (by decide +kernel) (by decide +kernel)
set_option maxRecDepth 20000 in
theorem gX10_next_X10_hedgeAt : GoodIn wsX10_next (va_wsS RX10 77 yX10_hedgeAt wsX10_hedgeAt) := goodIn_app (goodIn_of _ (by decide +kernel)) ggX10_next_X10_hedgeAt
set_option maxRecDepth 20000 in
theorem ggX10_next_X10_isGapAt : GoodIn wsX10_next wsX10_isGapAt := goodIn_ca (goodIn_r _ [36, 37, 42, 43, 44, 45, 46, 47, 48, 49, 50, 51, 52, 53, 54, 55, 56, 57, 58, 59, 60, 61, 62] (by decide +kernel) (by decide +kernel)) (goodIn_sub (fun _ h => List.mem_cons_of_mem _ (List.mem_append_right _ h)) (by decide +kernel))
set_option maxRecDepth 20000 in
theorem gX10_next_X10_isGapAt : GoodIn wsX10_next (wsV RX10 80 RX10 yX10_isGapAt wsX10_isGapAt) := goodIn_app (goodIn_of _ (by decide +kernel)) ggX10_next_X10_isGapAt
theorem dX10_next_0 : decode cX10_next 0 = .ok (.aload_n 0, 1) := by decide +kernel
theorem dX10_next_1 : decode cX10_next 1 = .ok (.iload_n 1, 1) := by decide +kernel
theorem dX10_next_2 : decode cX10_next 2 = .ok (.iload_n 1, 1) := by decide +kernel
theorem dX10_next_3 : decode cX10_next 3 = .ok (.invokevirtual 174, 3) := by decide +kernel
theorem dX10_next_6 : decode cX10_next 6 = .ok (.ifCond .ne 5, 3) := by decide +kernel
theorem dX10_next_9 : decode cX10_next 9 = .ok (.iconst (-1), 1) := by decide +kernel
theorem dX10_next_10 : decode cX10_next 10 = .ok (.ireturn, 1) := by decide +kernel
theorem dX10_next_11 : decode cX10_next 11 = .ok (.aload_n 0, 1) := by decide +kernel
theorem dX10_next_12 : decode cX10_next 12 = .ok (.bipush 15, 2) := by decide +kernel
theorem dX10_next_14 : decode cX10_next 14 = .ok (.iconst 0, 1) := by decide +kernel
theorem dX10_next_15 : decode cX10_next 15 = .ok (.invokevirtual 84, 3) := by decide +kernel
theorem dX10_next_18 : decode cX10_next 18 = .ok (.iload_n 1, 1) := by decide +kernel
theorem dX10_next_19 : decode cX10_next 19 = .ok (.bipush 15, 2) := by decide +kernel
theorem dX10_next_21 : decode cX10_next 21 = .ok (.if_icmp .eq 14, 3) := by decide +kernel
theorem dX10_next_24 : decode cX10_next 24 = .ok (.aload_n 0, 1) := by decide +kernel
theorem dX10_next_25 : decode cX10_next 25 = .ok (.getfield 29, 3) := by decide +kernel
theorem dX10_next_28 : decode cX10_next 28 = .ok (.iload_n 1, 1) := by decide +kernel
theorem dX10_next_29 : decode cX10_next 29 = .ok (.iaload, 1) := by decide +kernel
theorem dX10_next_30 : decode cX10_next 30 = .ok (.bipush 99, 2) := by decide +kernel
theorem dX10_next_32 : decode cX10_next 32 = .ok (.if_icmp .lt 9, 3) := by decide +kernel
theorem dX10_next_35 : decode cX10_next 35 = .ok (.aload_n 0, 1) := by decide +kernel
theorem dX10_next_36 : decode cX10_next 36 = .ok (.iconst 2, 1) := by decide +kernel
theorem dX10_next_37 : decode cX10_next 37 = .ok (.invokevirtual 50, 3) := by decide +kernel
theorem dX10_next_40 : decode cX10_next 40 = .ok (.ireturn, 1) := by decide +kernel
theorem dX10_next_41 : decode cX10_next 41 = .ok (.iconst 0, 1) := by decide +kernel
theorem dX10_next_42 : decode cX10_next 42 = .ok (.istore_n 2, 1) := by decide +kernel
theorem dX10_next_43 : decode cX10_next 43 = .ok (.iload_n 1, 1) := by decide +kernel
theorem dX10_next_44 : decode cX10_next 44 = .ok (.iload_n 2, 1) := by decide +kernel
theorem dX10_next_45 : decode cX10_next 45 = .ok (.invokestatic 77, 3) := by decide +kernel
theorem dX10_next_48 : decode cX10_next 48 = .ok (.iconst (-1), 1) := by decide +kernel
theorem dX10_next_49 : decode cX10_next 49 = .ok (.if_icmp .eq 32, 3) := by decide +kernel
theorem dX10_next_52 : decode cX10_next 52 = .ok (.aload_n 0, 1) := by decide +kernel
theorem dX10_next_53 : decode cX10_next 53 = .ok (.iload_n 1, 1) := by decide +kernel
theorem dX10_next_54 : decode cX10_next 54 = .ok (.iload_n 2, 1) := by decide +kernel
theorem dX10_next_55 : decode cX10_next 55 = .ok (.invokestatic 77, 3) := by decide +kernel
theorem dX10_next_58 : decode cX10_next 58 = .ok (.invokevirtual 80, 3) := by decide +kernel
theorem dX10_next_61 : decode cX10_next 61 = .ok (.ifCond .eq 20, 3) := by decide +kernel
theorem dX10_next_64 : decode cX10_next 64 = .ok (.aload_n 0, 1) := by decide +kernel
theorem dX10_next_65 : decode cX10_next 65 = .ok (.getfield 29, 3) := by decide +kernel
theorem dX10_next_68 : decode cX10_next 68 = .ok (.iload_n 2, 1) := by decide +kernel
theorem dX10_next_69 : decode cX10_next 69 = .ok (.iaload, 1) := by decide +kernel
theorem dX10_next_70 : decode cX10_next 70 = .ok (.aload_n 0, 1) := by decide +kernel
theorem dX10_next_71 : decode cX10_next 71 = .ok (.getfield 29, 3) := by decide +kernel
theorem dX10_next_74 : decode cX10_next 74 = .ok (.iload_n 1, 1) := by decide +kernel
theorem dX10_next_75 : decode cX10_next 75 = .ok (.iaload, 1) := by decide +kernel
theorem dX10_next_76 : decode cX10_next 76 = .ok (.iconst 1, 1) := by decide +kernel
theorem dX10_next_77 : decode cX10_next 77 = .ok (.isub, 1) := by decide +kernel
theorem dX10_next_78 : decode cX10_next 78 = .ok (.if_icmp .eq 9, 3) := by decide +kernel
theorem dX10_next_81 : decode cX10_next 81 = .ok (.iinc 2 1, 3) := by decide +kernel
theorem dX10_next_84 : decode cX10_next 84 = .ok (.goto (-41), 3) := by decide +kernel
theorem dX10_next_87 : decode cX10_next 87 = .ok (.iload_n 2, 1) := by decide +kernel
theorem dX10_next_88 : decode cX10_next 88 = .ok (.ireturn, 1) := by decide +kernel
set_option maxRecDepth 20000 in
theorem ggX10_reached_X10_areCells : GoodIn wsX10_reached wsX10_areCells := goodIn_r _ [5, 6, 7, 8, 4, 9, 10, 11, 12, 13, 42, 43, 44, 45, 46, 47, 48, 49, 50, 51, 52, 53, 54, 55, 56, 57, 58, 59, 60, 61, 62] (by decide +kernel) (by decide +kernel)
set_option maxRecDepth 20000 in
theorem gX10_reached_X10_areCells : GoodIn wsX10_reached (wsV RX10 174 RX10 yX10_areCells wsX10_areCells) := goodIn_app (goodIn_of _ (by decide +kernel)) ggX10_reached_X10_areCells
set_option maxRecDepth 20000 in
theorem ggX10_reached_X10_reachedFrom : GoodIn wsX10_reached wsX10_reachedFrom := goodIn_ca (goodIn_r _ [17, 18, 19, 20, 21, 4, 22, 23, 24, 25, 26, 27, 28, 29, 30, 11, 12, 13, 31, 32, 33, 34, 35, 36, 37, 38, 39, 40, 41, 42, 43, 44, 45, 46, 47, 48, 49, 50, 51, 52, 53, 54, 55, 56, 57, 58, 59, 60, 61, 62] (by decide +kernel) (by decide +kernel)) (goodIn_sub (fun _ h => List.mem_cons_of_mem _ (List.mem_append_right _ h)) (by decide +kernel))
set_option maxRecDepth 20000 in
theorem gX10_reached_X10_reachedFrom : GoodIn wsX10_reached (wsV RX10 145 RX10 yX10_reachedFrom wsX10_reachedFrom) := goodIn_app (goodIn_of _ (by decide +kernel)) ggX10_reached_X10_reachedFrom
theorem dX10_reached_0 : decode cX10_reached 0 = .ok (.aload_n 0, 1) := by decide +kernel
theorem dX10_reached_1 : decode cX10_reached 1 = .ok (.iload_n 1, 1) := by decide +kernel
theorem dX10_reached_2 : decode cX10_reached 2 = .ok (.iload_n 1, 1) := by decide +kernel
theorem dX10_reached_3 : decode cX10_reached 3 = .ok (.invokevirtual 174, 3) := by decide +kernel
theorem dX10_reached_6 : decode cX10_reached 6 = .ok (.ifCond .eq 11, 3) := by decide +kernel
theorem dX10_reached_9 : decode cX10_reached 9 = .ok (.aload_n 0, 1) := by decide +kernel
theorem dX10_reached_10 : decode cX10_reached 10 = .ok (.iload_n 1, 1) := by decide +kernel
theorem dX10_reached_11 : decode cX10_reached 11 = .ok (.invokevirtual 145, 3) := by decide +kernel
theorem dX10_reached_14 : decode cX10_reached 14 = .ok (.goto 4, 3) := by decide +kernel
theorem dX10_reached_17 : decode cX10_reached 17 = .ok (.iconst (-1), 1) := by decide +kernel
theorem dX10_reached_18 : decode cX10_reached 18 = .ok (.ireturn, 1) := by decide +kernel
set_option maxRecDepth 20000 in
theorem ggX10_trims_X10_areCells : GoodIn wsX10_trims wsX10_areCells := goodIn_r _ [6, 7, 8, 9, 5, 10, 11, 12, 13, 14, 38, 39, 40, 41, 42, 43, 44, 45, 46, 47, 48, 49, 50, 51, 52, 53, 54, 55, 56, 57, 58] (by decide +kernel) (by decide +kernel)
set_option maxRecDepth 20000 in
theorem gX10_trims_X10_areCells : GoodIn wsX10_trims (wsV RX10 174 RX10 yX10_areCells wsX10_areCells) := goodIn_app (goodIn_of _ (by decide +kernel)) ggX10_trims_X10_areCells
set_option maxRecDepth 20000 in
theorem ggX10_trims_X10_laysWays : GoodIn wsX10_trims wsX10_laysWays := goodIn_ca (goodIn_r _ [18, 1, 19, 20, 21, 22, 23, 24, 5, 25, 26, 12, 13, 14, 27, 28, 29, 30, 31, 32, 33, 34, 35, 36, 37, 38, 39, 40, 41, 42, 43, 44, 45, 46, 47, 48, 49, 50, 51, 52, 53, 54, 55, 56, 57, 58] (by decide +kernel) (by decide +kernel)) (goodIn_sub (fun _ h => List.mem_cons_of_mem _ (List.mem_append_right _ h)) (by decide +kernel))
set_option maxRecDepth 20000 in
theorem gX10_trims_X10_laysWays : GoodIn wsX10_trims (wsV RX10 84 RX10 yX10_laysWays wsX10_laysWays) := goodIn_app (goodIn_of _ (by decide +kernel)) ggX10_trims_X10_laysWays
theorem dX10_trims_0 : decode cX10_trims 0 = .ok (.aload_n 0, 1) := by decide +kernel
theorem dX10_trims_1 : decode cX10_trims 1 = .ok (.iload_n 1, 1) := by decide +kernel
theorem dX10_trims_2 : decode cX10_trims 2 = .ok (.iload_n 1, 1) := by decide +kernel
theorem dX10_trims_3 : decode cX10_trims 3 = .ok (.invokevirtual 174, 3) := by decide +kernel
theorem dX10_trims_6 : decode cX10_trims 6 = .ok (.ifCond .ne 5, 3) := by decide +kernel
theorem dX10_trims_9 : decode cX10_trims 9 = .ok (.iconst (-1), 1) := by decide +kernel
theorem dX10_trims_10 : decode cX10_trims 10 = .ok (.ireturn, 1) := by decide +kernel
theorem dX10_trims_11 : decode cX10_trims 11 = .ok (.aload_n 0, 1) := by decide +kernel
theorem dX10_trims_12 : decode cX10_trims 12 = .ok (.iload_n 1, 1) := by decide +kernel
theorem dX10_trims_13 : decode cX10_trims 13 = .ok (.iconst 1, 1) := by decide +kernel
theorem dX10_trims_14 : decode cX10_trims 14 = .ok (.invokevirtual 84, 3) := by decide +kernel
theorem dX10_trims_17 : decode cX10_trims 17 = .ok (.aload_n 0, 1) := by decide +kernel
theorem dX10_trims_18 : decode cX10_trims 18 = .ok (.getfield 29, 3) := by decide +kernel
theorem dX10_trims_21 : decode cX10_trims 21 = .ok (.bipush 15, 2) := by decide +kernel
theorem dX10_trims_23 : decode cX10_trims 23 = .ok (.iaload, 1) := by decide +kernel
theorem dX10_trims_24 : decode cX10_trims 24 = .ok (.ireturn, 1) := by decide +kernel
set_option maxRecDepth 20000 in
theorem ggX10_trimsAgain_X10_trims : GoodIn wsX10_trimsAgain wsX10_trims := goodIn_ca (goodIn_r _ [5, 6, 7, 8, 9, 4, 10, 11, 12, 13, 14, 15, 16, 17, 18, 19, 20, 21, 22, 23, 24, 25, 26, 27, 28, 29, 30, 31, 32, 33, 34, 35, 36, 37, 38, 39, 40, 41, 42, 43, 44, 45, 46, 47, 48, 49, 50, 51, 52, 53, 54, 55, 56, 57, 58, 59, 60, 61, 62] (by decide +kernel) (by decide +kernel)) (goodIn_sub (fun _ h => List.mem_cons_of_mem _ (List.mem_append_right _ h)) (by decide +kernel))
set_option maxRecDepth 20000 in
theorem gX10_trimsAgain_X10_trims : GoodIn wsX10_trimsAgain (wsV RX10 180 RX10 yX10_trims wsX10_trims) := goodIn_app (goodIn_of _ (by decide +kernel)) ggX10_trimsAgain_X10_trims
theorem dX10_trimsAgain_0 : decode cX10_trimsAgain 0 = .ok (.aload_n 0, 1) := by decide +kernel
theorem dX10_trimsAgain_1 : decode cX10_trimsAgain 1 = .ok (.iload_n 1, 1) := by decide +kernel
theorem dX10_trimsAgain_2 : decode cX10_trimsAgain 2 = .ok (.invokevirtual 180, 3) := by decide +kernel
theorem dX10_trimsAgain_5 : decode cX10_trimsAgain 5 = .ok (.ireturn, 1) := by decide +kernel
set_option maxRecDepth 20000 in
theorem ggX10_isNeeded_X10_areCells : GoodIn wsX10_isNeeded wsX10_areCells := goodIn_r _ [6, 7, 8, 9, 5, 10, 11, 12, 13, 14, 46, 47, 48, 49, 50, 51, 52, 53, 54, 55, 56, 57, 58, 59, 60, 61, 62, 63, 64, 65, 66] (by decide +kernel) (by decide +kernel)
set_option maxRecDepth 20000 in
theorem gX10_isNeeded_X10_areCells : GoodIn wsX10_isNeeded (wsV RX10 174 RX10 yX10_areCells wsX10_areCells) := goodIn_app (goodIn_of _ (by decide +kernel)) ggX10_isNeeded_X10_areCells
set_option maxRecDepth 20000 in
theorem ggX10_isNeeded_X10_hedgeAt : GoodIn wsX10_isNeeded wsX10_hedgeAt := goodIn_r _ [17, 18, 19, 20, 21, 22, 23, 24] (by decide +kernel) (by decide +kernel)
set_option maxRecDepth 20000 in
theorem gX10_isNeeded_X10_hedgeAt : GoodIn wsX10_isNeeded (va_wsS RX10 77 yX10_hedgeAt wsX10_hedgeAt) := goodIn_app (goodIn_of _ (by decide +kernel)) ggX10_isNeeded_X10_hedgeAt
set_option maxRecDepth 20000 in
theorem ggX10_isNeeded_X10_throwing : GoodIn wsX10_isNeeded wsX10_throwing := goodIn_r _ [28, 7, 46, 47, 48, 49, 50, 51, 52, 53, 54, 55, 56, 57, 58, 59, 60, 61, 62, 63, 64, 65, 66] (by decide +kernel) (by decide +kernel)
set_option maxRecDepth 20000 in
theorem gX10_isNeeded_X10_throwing : GoodIn wsX10_isNeeded (wsV RX10 50 RX10 yX10_throwing wsX10_throwing) := goodIn_app (goodIn_of _ (by decide +kernel)) ggX10_isNeeded_X10_throwing
set_option maxRecDepth 20000 in
theorem ggX10_isNeeded_X10_isGapAt : GoodIn wsX10_isNeeded wsX10_isGapAt := goodIn_ca (goodIn_r _ [32, 1, 46, 47, 48, 49, 50, 51, 52, 53, 54, 55, 56, 57, 58, 59, 60, 61, 62, 63, 64, 65, 66] (by decide +kernel) (by decide +kernel)) (goodIn_sub (fun _ h => List.mem_cons_of_mem _ (List.mem_append_right _ h)) (by decide +kernel))
set_option maxRecDepth 20000 in
theorem gX10_isNeeded_X10_isGapAt : GoodIn wsX10_isNeeded (wsV RX10 80 RX10 yX10_isGapAt wsX10_isGapAt) := goodIn_app (goodIn_of _ (by decide +kernel)) ggX10_isNeeded_X10_isGapAt
set_option maxRecDepth 20000 in
theorem ggX10_isNeeded_X10_hoursOf : GoodIn wsX10_isNeeded wsX10_hoursOf := goodIn_ca (goodIn_r _ [36, 37, 38, 39, 40, 5, 41, 18, 19, 20, 21, 42, 43, 44, 45, 12, 13, 14, 15, 16, 17, 22, 23, 24, 29, 30, 31, 32, 1, 46, 47, 48, 49, 50, 51, 52, 53, 54, 55, 56, 57, 58, 59, 60, 61, 62, 63, 64, 65, 66] (by decide +kernel) (by decide +kernel)) (goodIn_sub (fun _ h => List.mem_cons_of_mem _ (List.mem_append_right _ h)) (by decide +kernel))
set_option maxRecDepth 20000 in
theorem gX10_isNeeded_X10_hoursOf : GoodIn wsX10_isNeeded (wsV RX10 142 RX10 yX10_hoursOf wsX10_hoursOf) := goodIn_app (goodIn_of _ (by decide +kernel)) ggX10_isNeeded_X10_hoursOf
theorem dX10_isNeeded_0 : decode cX10_isNeeded 0 = .ok (.aload_n 0, 1) := by decide +kernel
theorem dX10_isNeeded_1 : decode cX10_isNeeded 1 = .ok (.iload_n 1, 1) := by decide +kernel
theorem dX10_isNeeded_2 : decode cX10_isNeeded 2 = .ok (.iload_n 2, 1) := by decide +kernel
theorem dX10_isNeeded_3 : decode cX10_isNeeded 3 = .ok (.invokevirtual 174, 3) := by decide +kernel
theorem dX10_isNeeded_6 : decode cX10_isNeeded 6 = .ok (.ifCond .ne 5, 3) := by decide +kernel
theorem dX10_isNeeded_9 : decode cX10_isNeeded 9 = .ok (.iconst 0, 1) := by decide +kernel
theorem dX10_isNeeded_10 : decode cX10_isNeeded 10 = .ok (.ireturn, 1) := by decide +kernel
theorem dX10_isNeeded_11 : decode cX10_isNeeded 11 = .ok (.iload_n 1, 1) := by decide +kernel
theorem dX10_isNeeded_12 : decode cX10_isNeeded 12 = .ok (.iload_n 2, 1) := by decide +kernel
theorem dX10_isNeeded_13 : decode cX10_isNeeded 13 = .ok (.invokestatic 77, 3) := by decide +kernel
theorem dX10_isNeeded_16 : decode cX10_isNeeded 16 = .ok (.istore_n 3, 1) := by decide +kernel
theorem dX10_isNeeded_17 : decode cX10_isNeeded 17 = .ok (.iload_n 3, 1) := by decide +kernel
theorem dX10_isNeeded_18 : decode cX10_isNeeded 18 = .ok (.iconst (-1), 1) := by decide +kernel
theorem dX10_isNeeded_19 : decode cX10_isNeeded 19 = .ok (.if_icmp .ne 11, 3) := by decide +kernel
theorem dX10_isNeeded_22 : decode cX10_isNeeded 22 = .ok (.aload_n 0, 1) := by decide +kernel
theorem dX10_isNeeded_23 : decode cX10_isNeeded 23 = .ok (.iconst 2, 1) := by decide +kernel
theorem dX10_isNeeded_24 : decode cX10_isNeeded 24 = .ok (.invokevirtual 50, 3) := by decide +kernel
theorem dX10_isNeeded_27 : decode cX10_isNeeded 27 = .ok (.pop, 1) := by decide +kernel
theorem dX10_isNeeded_28 : decode cX10_isNeeded 28 = .ok (.iconst 0, 1) := by decide +kernel
theorem dX10_isNeeded_29 : decode cX10_isNeeded 29 = .ok (.ireturn, 1) := by decide +kernel
theorem dX10_isNeeded_30 : decode cX10_isNeeded 30 = .ok (.aload_n 0, 1) := by decide +kernel
theorem dX10_isNeeded_31 : decode cX10_isNeeded 31 = .ok (.iload_n 3, 1) := by decide +kernel
theorem dX10_isNeeded_32 : decode cX10_isNeeded 32 = .ok (.invokevirtual 80, 3) := by decide +kernel
theorem dX10_isNeeded_35 : decode cX10_isNeeded 35 = .ok (.ifCond .eq 14, 3) := by decide +kernel
theorem dX10_isNeeded_38 : decode cX10_isNeeded 38 = .ok (.aload_n 0, 1) := by decide +kernel
theorem dX10_isNeeded_39 : decode cX10_isNeeded 39 = .ok (.iconst 0, 1) := by decide +kernel
theorem dX10_isNeeded_40 : decode cX10_isNeeded 40 = .ok (.bipush 15, 2) := by decide +kernel
theorem dX10_isNeeded_42 : decode cX10_isNeeded 42 = .ok (.invokevirtual 142, 3) := by decide +kernel
theorem dX10_isNeeded_45 : decode cX10_isNeeded 45 = .ok (.iconst (-1), 1) := by decide +kernel
theorem dX10_isNeeded_46 : decode cX10_isNeeded 46 = .ok (.if_icmp .ne 5, 3) := by decide +kernel
theorem dX10_isNeeded_49 : decode cX10_isNeeded 49 = .ok (.iconst 0, 1) := by decide +kernel
theorem dX10_isNeeded_50 : decode cX10_isNeeded 50 = .ok (.ireturn, 1) := by decide +kernel
theorem dX10_isNeeded_51 : decode cX10_isNeeded 51 = .ok (.aload_n 0, 1) := by decide +kernel
theorem dX10_isNeeded_52 : decode cX10_isNeeded 52 = .ok (.getfield 9, 3) := by decide +kernel
theorem dX10_isNeeded_55 : decode cX10_isNeeded 55 = .ok (.iload_n 3, 1) := by decide +kernel
theorem dX10_isNeeded_56 : decode cX10_isNeeded 56 = .ok (.iaload, 1) := by decide +kernel
theorem dX10_isNeeded_57 : decode cX10_isNeeded 57 = .ok (.istore 4, 2) := by decide +kernel
theorem dX10_isNeeded_59 : decode cX10_isNeeded 59 = .ok (.aload_n 0, 1) := by decide +kernel
theorem dX10_isNeeded_60 : decode cX10_isNeeded 60 = .ok (.getfield 9, 3) := by decide +kernel
theorem dX10_isNeeded_63 : decode cX10_isNeeded 63 = .ok (.iload_n 3, 1) := by decide +kernel
theorem dX10_isNeeded_64 : decode cX10_isNeeded 64 = .ok (.iconst 5, 1) := by decide +kernel
theorem dX10_isNeeded_65 : decode cX10_isNeeded 65 = .ok (.iastore, 1) := by decide +kernel
theorem dX10_isNeeded_66 : decode cX10_isNeeded 66 = .ok (.aload_n 0, 1) := by decide +kernel
theorem dX10_isNeeded_67 : decode cX10_isNeeded 67 = .ok (.iconst 0, 1) := by decide +kernel
theorem dX10_isNeeded_68 : decode cX10_isNeeded 68 = .ok (.bipush 15, 2) := by decide +kernel
theorem dX10_isNeeded_70 : decode cX10_isNeeded 70 = .ok (.invokevirtual 142, 3) := by decide +kernel
theorem dX10_isNeeded_73 : decode cX10_isNeeded 73 = .ok (.iconst (-1), 1) := by decide +kernel
theorem dX10_isNeeded_74 : decode cX10_isNeeded 74 = .ok (.if_icmp .ne 7, 3) := by decide +kernel
theorem dX10_isNeeded_77 : decode cX10_isNeeded 77 = .ok (.iconst 1, 1) := by decide +kernel
theorem dX10_isNeeded_78 : decode cX10_isNeeded 78 = .ok (.goto 4, 3) := by decide +kernel
theorem dX10_isNeeded_81 : decode cX10_isNeeded 81 = .ok (.iconst 0, 1) := by decide +kernel
theorem dX10_isNeeded_82 : decode cX10_isNeeded 82 = .ok (.istore 5, 2) := by decide +kernel
theorem dX10_isNeeded_84 : decode cX10_isNeeded 84 = .ok (.aload_n 0, 1) := by decide +kernel
theorem dX10_isNeeded_85 : decode cX10_isNeeded 85 = .ok (.getfield 9, 3) := by decide +kernel
theorem dX10_isNeeded_88 : decode cX10_isNeeded 88 = .ok (.iload_n 3, 1) := by decide +kernel
theorem dX10_isNeeded_89 : decode cX10_isNeeded 89 = .ok (.iload 4, 2) := by decide +kernel
theorem dX10_isNeeded_91 : decode cX10_isNeeded 91 = .ok (.iastore, 1) := by decide +kernel
theorem dX10_isNeeded_92 : decode cX10_isNeeded 92 = .ok (.iload 5, 2) := by decide +kernel
theorem dX10_isNeeded_94 : decode cX10_isNeeded 94 = .ok (.ireturn, 1) := by decide +kernel
set_option maxRecDepth 20000 in
theorem ggX10_closesIn_X10_areCells : GoodIn wsX10_closesIn wsX10_areCells := goodIn_r _ [10, 11, 12, 13, 9, 14, 15, 16, 17, 18, 29, 30, 31, 32, 33, 34, 35, 36, 37, 38, 39, 40, 41, 42, 43, 44, 45, 46, 47, 48, 49] (by decide +kernel) (by decide +kernel)
set_option maxRecDepth 20000 in
theorem gX10_closesIn_X10_areCells : GoodIn wsX10_closesIn (wsV RX10 174 RX10 yX10_areCells wsX10_areCells) := goodIn_app (goodIn_of _ (by decide +kernel)) ggX10_closesIn_X10_areCells
set_option maxRecDepth 20000 in
theorem ggX10_closesIn_X10_hedgeAt : GoodIn wsX10_closesIn wsX10_hedgeAt := goodIn_r _ [21, 22, 23, 4, 24, 2, 3, 5] (by decide +kernel) (by decide +kernel)
set_option maxRecDepth 20000 in
theorem gX10_closesIn_X10_hedgeAt : GoodIn wsX10_closesIn (va_wsS RX10 77 yX10_hedgeAt wsX10_hedgeAt) := goodIn_app (goodIn_of _ (by decide +kernel)) ggX10_closesIn_X10_hedgeAt
set_option maxRecDepth 20000 in
theorem ggX10_closesIn_X10_throwing : GoodIn wsX10_closesIn wsX10_throwing := goodIn_r _ [28, 11, 29, 30, 31, 32, 33, 34, 35, 36, 37, 38, 39, 40, 41, 42, 43, 44, 45, 46, 47, 48, 49] (by decide +kernel) (by decide +kernel)
set_option maxRecDepth 20000 in
theorem gX10_closesIn_X10_throwing : GoodIn wsX10_closesIn (wsV RX10 50 RX10 yX10_throwing wsX10_throwing) := goodIn_app (goodIn_of _ (by decide +kernel)) ggX10_closesIn_X10_throwing
theorem dX10_closesIn_0 : decode cX10_closesIn 0 = .ok (.aload_n 0, 1) := by decide +kernel
theorem dX10_closesIn_1 : decode cX10_closesIn 1 = .ok (.iload_n 1, 1) := by decide +kernel
theorem dX10_closesIn_2 : decode cX10_closesIn 2 = .ok (.iload_n 2, 1) := by decide +kernel
theorem dX10_closesIn_3 : decode cX10_closesIn 3 = .ok (.invokevirtual 174, 3) := by decide +kernel
theorem dX10_closesIn_6 : decode cX10_closesIn 6 = .ok (.ifCond .ne 5, 3) := by decide +kernel
theorem dX10_closesIn_9 : decode cX10_closesIn 9 = .ok (.iconst (-1), 1) := by decide +kernel
theorem dX10_closesIn_10 : decode cX10_closesIn 10 = .ok (.ireturn, 1) := by decide +kernel
theorem dX10_closesIn_11 : decode cX10_closesIn 11 = .ok (.iload_n 1, 1) := by decide +kernel
theorem dX10_closesIn_12 : decode cX10_closesIn 12 = .ok (.iload_n 2, 1) := by decide +kernel
theorem dX10_closesIn_13 : decode cX10_closesIn 13 = .ok (.invokestatic 77, 3) := by decide +kernel
theorem dX10_closesIn_16 : decode cX10_closesIn 16 = .ok (.istore_n 3, 1) := by decide +kernel
theorem dX10_closesIn_17 : decode cX10_closesIn 17 = .ok (.iload_n 3, 1) := by decide +kernel
theorem dX10_closesIn_18 : decode cX10_closesIn 18 = .ok (.iconst (-1), 1) := by decide +kernel
theorem dX10_closesIn_19 : decode cX10_closesIn 19 = .ok (.if_icmp .ne 11, 3) := by decide +kernel
theorem dX10_closesIn_22 : decode cX10_closesIn 22 = .ok (.aload_n 0, 1) := by decide +kernel
theorem dX10_closesIn_23 : decode cX10_closesIn 23 = .ok (.iconst 2, 1) := by decide +kernel
theorem dX10_closesIn_24 : decode cX10_closesIn 24 = .ok (.invokevirtual 50, 3) := by decide +kernel
theorem dX10_closesIn_27 : decode cX10_closesIn 27 = .ok (.goto 15, 3) := by decide +kernel
theorem dX10_closesIn_30 : decode cX10_closesIn 30 = .ok (.iconst 0, 1) := by decide +kernel
theorem dX10_closesIn_31 : decode cX10_closesIn 31 = .ok (.iconst 5, 1) := by decide +kernel
theorem dX10_closesIn_32 : decode cX10_closesIn 32 = .ok (.aload_n 0, 1) := by decide +kernel
theorem dX10_closesIn_33 : decode cX10_closesIn 33 = .ok (.getfield 9, 3) := by decide +kernel
theorem dX10_closesIn_36 : decode cX10_closesIn 36 = .ok (.iload_n 3, 1) := by decide +kernel
theorem dX10_closesIn_37 : decode cX10_closesIn 37 = .ok (.iaload, 1) := by decide +kernel
theorem dX10_closesIn_38 : decode cX10_closesIn 38 = .ok (.isub, 1) := by decide +kernel
theorem dX10_closesIn_39 : decode cX10_closesIn 39 = .ok (.invokestatic 71, 3) := by decide +kernel
theorem dX10_closesIn_42 : decode cX10_closesIn 42 = .ok (.ireturn, 1) := by decide +kernel
set_option maxRecDepth 20000 in
theorem ggX10_summersLeft_X10_hoursOf : GoodIn wsX10_summersLeft wsX10_hoursOf := goodIn_ca (goodIn_r _ [7, 8, 9, 10, 11, 6, 12, 13, 14, 15, 16, 17, 18, 19, 20, 21, 22, 23, 24, 25, 26, 27, 28, 29, 30, 31, 32, 33, 2, 34, 35, 36, 37, 38, 39, 40, 41, 42, 43, 44, 45, 46, 47, 48, 49, 50, 51, 52, 53, 54] (by decide +kernel) (by decide +kernel)) (goodIn_sub (fun _ h => List.mem_cons_of_mem _ (List.mem_append_right _ h)) (by decide +kernel))
set_option maxRecDepth 20000 in
theorem gX10_summersLeft_X10_hoursOf : GoodIn wsX10_summersLeft (wsV RX10 142 RX10 yX10_hoursOf wsX10_hoursOf) := goodIn_app (goodIn_of _ (by decide +kernel)) ggX10_summersLeft_X10_hoursOf
theorem dX10_summersLeft_0 : decode cX10_summersLeft 0 = .ok (.aload_n 0, 1) := by decide +kernel
theorem dX10_summersLeft_1 : decode cX10_summersLeft 1 = .ok (.iconst 0, 1) := by decide +kernel
theorem dX10_summersLeft_2 : decode cX10_summersLeft 2 = .ok (.putfield 38, 3) := by decide +kernel
theorem dX10_summersLeft_5 : decode cX10_summersLeft 5 = .ok (.iconst 0, 1) := by decide +kernel
theorem dX10_summersLeft_6 : decode cX10_summersLeft 6 = .ok (.istore_n 1, 1) := by decide +kernel
theorem dX10_summersLeft_7 : decode cX10_summersLeft 7 = .ok (.aload_n 0, 1) := by decide +kernel
theorem dX10_summersLeft_8 : decode cX10_summersLeft 8 = .ok (.iconst 0, 1) := by decide +kernel
theorem dX10_summersLeft_9 : decode cX10_summersLeft 9 = .ok (.bipush 15, 2) := by decide +kernel
theorem dX10_summersLeft_11 : decode cX10_summersLeft 11 = .ok (.invokevirtual 142, 3) := by decide +kernel
theorem dX10_summersLeft_14 : decode cX10_summersLeft 14 = .ok (.iconst (-1), 1) := by decide +kernel
theorem dX10_summersLeft_15 : decode cX10_summersLeft 15 = .ok (.if_icmp .eq 36, 3) := by decide +kernel
theorem dX10_summersLeft_18 : decode cX10_summersLeft 18 = .ok (.iconst 0, 1) := by decide +kernel
theorem dX10_summersLeft_19 : decode cX10_summersLeft 19 = .ok (.istore_n 2, 1) := by decide +kernel
theorem dX10_summersLeft_20 : decode cX10_summersLeft 20 = .ok (.iload_n 2, 1) := by decide +kernel
theorem dX10_summersLeft_21 : decode cX10_summersLeft 21 = .ok (.bipush 24, 2) := by decide +kernel
theorem dX10_summersLeft_23 : decode cX10_summersLeft 23 = .ok (.if_icmp .ge 22, 3) := by decide +kernel
theorem dX10_summersLeft_26 : decode cX10_summersLeft 26 = .ok (.aload_n 0, 1) := by decide +kernel
theorem dX10_summersLeft_27 : decode cX10_summersLeft 27 = .ok (.getfield 9, 3) := by decide +kernel
theorem dX10_summersLeft_30 : decode cX10_summersLeft 30 = .ok (.bipush 6, 2) := by decide +kernel
theorem dX10_summersLeft_32 : decode cX10_summersLeft 32 = .ok (.iload_n 2, 1) := by decide +kernel
theorem dX10_summersLeft_33 : decode cX10_summersLeft 33 = .ok (.iadd, 1) := by decide +kernel
theorem dX10_summersLeft_34 : decode cX10_summersLeft 34 = .ok (.dup2, 1) := by decide +kernel
theorem dX10_summersLeft_35 : decode cX10_summersLeft 35 = .ok (.iaload, 1) := by decide +kernel
theorem dX10_summersLeft_36 : decode cX10_summersLeft 36 = .ok (.iconst 1, 1) := by decide +kernel
theorem dX10_summersLeft_37 : decode cX10_summersLeft 37 = .ok (.iadd, 1) := by decide +kernel
theorem dX10_summersLeft_38 : decode cX10_summersLeft 38 = .ok (.iastore, 1) := by decide +kernel
theorem dX10_summersLeft_39 : decode cX10_summersLeft 39 = .ok (.iinc 2 1, 3) := by decide +kernel
theorem dX10_summersLeft_42 : decode cX10_summersLeft 42 = .ok (.goto (-22), 3) := by decide +kernel
theorem dX10_summersLeft_45 : decode cX10_summersLeft 45 = .ok (.iinc 1 1, 3) := by decide +kernel
theorem dX10_summersLeft_48 : decode cX10_summersLeft 48 = .ok (.goto (-41), 3) := by decide +kernel
theorem dX10_summersLeft_51 : decode cX10_summersLeft 51 = .ok (.iconst 0, 1) := by decide +kernel
theorem dX10_summersLeft_52 : decode cX10_summersLeft 52 = .ok (.istore_n 2, 1) := by decide +kernel
theorem dX10_summersLeft_53 : decode cX10_summersLeft 53 = .ok (.iload_n 2, 1) := by decide +kernel
theorem dX10_summersLeft_54 : decode cX10_summersLeft 54 = .ok (.bipush 24, 2) := by decide +kernel
theorem dX10_summersLeft_56 : decode cX10_summersLeft 56 = .ok (.if_icmp .ge 22, 3) := by decide +kernel
theorem dX10_summersLeft_59 : decode cX10_summersLeft 59 = .ok (.aload_n 0, 1) := by decide +kernel
theorem dX10_summersLeft_60 : decode cX10_summersLeft 60 = .ok (.getfield 9, 3) := by decide +kernel
theorem dX10_summersLeft_63 : decode cX10_summersLeft 63 = .ok (.bipush 6, 2) := by decide +kernel
theorem dX10_summersLeft_65 : decode cX10_summersLeft 65 = .ok (.iload_n 2, 1) := by decide +kernel
theorem dX10_summersLeft_66 : decode cX10_summersLeft 66 = .ok (.iadd, 1) := by decide +kernel
theorem dX10_summersLeft_67 : decode cX10_summersLeft 67 = .ok (.dup2, 1) := by decide +kernel
theorem dX10_summersLeft_68 : decode cX10_summersLeft 68 = .ok (.iaload, 1) := by decide +kernel
theorem dX10_summersLeft_69 : decode cX10_summersLeft 69 = .ok (.iload_n 1, 1) := by decide +kernel
theorem dX10_summersLeft_70 : decode cX10_summersLeft 70 = .ok (.isub, 1) := by decide +kernel
theorem dX10_summersLeft_71 : decode cX10_summersLeft 71 = .ok (.iastore, 1) := by decide +kernel
theorem dX10_summersLeft_72 : decode cX10_summersLeft 72 = .ok (.iinc 2 1, 3) := by decide +kernel
theorem dX10_summersLeft_75 : decode cX10_summersLeft 75 = .ok (.goto (-22), 3) := by decide +kernel
theorem dX10_summersLeft_78 : decode cX10_summersLeft 78 = .ok (.iload_n 1, 1) := by decide +kernel
theorem dX10_summersLeft_79 : decode cX10_summersLeft 79 = .ok (.ireturn, 1) := by decide +kernel
set_option maxRecDepth 20000 in
theorem ggX10_lasts_X10_visitorAt : GoodIn wsX10_lasts wsX10_visitorAt := goodIn_r _ [5] (by decide +kernel) (by decide +kernel)
set_option maxRecDepth 20000 in
theorem gX10_lasts_X10_visitorAt : GoodIn wsX10_lasts (va_wsS RX10 126 yX10_visitorAt wsX10_visitorAt) := goodIn_app (goodIn_of _ (by decide +kernel)) ggX10_lasts_X10_visitorAt
theorem dX10_lasts_0 : decode cX10_lasts 0 = .ok (.aload_n 0, 1) := by decide +kernel
theorem dX10_lasts_1 : decode cX10_lasts 1 = .ok (.getfield 9, 3) := by decide +kernel
theorem dX10_lasts_4 : decode cX10_lasts 4 = .ok (.iload_n 1, 1) := by decide +kernel
theorem dX10_lasts_5 : decode cX10_lasts 5 = .ok (.invokestatic 126, 3) := by decide +kernel
theorem dX10_lasts_8 : decode cX10_lasts 8 = .ok (.iconst 4, 1) := by decide +kernel
theorem dX10_lasts_9 : decode cX10_lasts 9 = .ok (.iadd, 1) := by decide +kernel
theorem dX10_lasts_10 : decode cX10_lasts 10 = .ok (.iaload, 1) := by decide +kernel
theorem dX10_lasts_11 : decode cX10_lasts 11 = .ok (.iconst (-1), 1) := by decide +kernel
theorem dX10_lasts_12 : decode cX10_lasts 12 = .ok (.if_icmp .eq 22, 3) := by decide +kernel
theorem dX10_lasts_15 : decode cX10_lasts 15 = .ok (.aload_n 0, 1) := by decide +kernel
theorem dX10_lasts_16 : decode cX10_lasts 16 = .ok (.getfield 9, 3) := by decide +kernel
theorem dX10_lasts_19 : decode cX10_lasts 19 = .ok (.iload_n 1, 1) := by decide +kernel
theorem dX10_lasts_20 : decode cX10_lasts 20 = .ok (.invokestatic 126, 3) := by decide +kernel
theorem dX10_lasts_23 : decode cX10_lasts 23 = .ok (.bipush 7, 2) := by decide +kernel
theorem dX10_lasts_25 : decode cX10_lasts 25 = .ok (.iadd, 1) := by decide +kernel
theorem dX10_lasts_26 : decode cX10_lasts 26 = .ok (.iaload, 1) := by decide +kernel
theorem dX10_lasts_27 : decode cX10_lasts 27 = .ok (.ifCond .ne 7, 3) := by decide +kernel
theorem dX10_lasts_30 : decode cX10_lasts 30 = .ok (.iconst 1, 1) := by decide +kernel
theorem dX10_lasts_31 : decode cX10_lasts 31 = .ok (.goto 4, 3) := by decide +kernel
theorem dX10_lasts_34 : decode cX10_lasts 34 = .ok (.iconst 0, 1) := by decide +kernel
theorem dX10_lasts_35 : decode cX10_lasts 35 = .ok (.ireturn, 1) := by decide +kernel
set_option maxRecDepth 20000 in
theorem ggX10_lasting_X10_lasts : GoodIn wsX10_lasting wsX10_lasts := goodIn_ca (goodIn_r _ [6, 1, 7, 8, 5, 9, 10, 11, 12, 13, 14, 15, 16, 17, 18, 19, 20, 21, 22, 23, 24, 25, 26, 27, 28, 29, 30] (by decide +kernel) (by decide +kernel)) (goodIn_sub (fun _ h => List.mem_cons_of_mem _ (List.mem_append_right _ h)) (by decide +kernel))
set_option maxRecDepth 20000 in
theorem gX10_lasting_X10_lasts : GoodIn wsX10_lasting (wsV RX10 183 RX10 yX10_lasts wsX10_lasts) := goodIn_app (goodIn_of _ (by decide +kernel)) ggX10_lasting_X10_lasts
set_option maxRecDepth 20000 in
theorem ggX10_lasting_X10_visitorAt : GoodIn wsX10_lasting wsX10_visitorAt := goodIn_r _ [9] (by decide +kernel) (by decide +kernel)
set_option maxRecDepth 20000 in
theorem gX10_lasting_X10_visitorAt : GoodIn wsX10_lasting (va_wsS RX10 126 yX10_visitorAt wsX10_visitorAt) := goodIn_app (goodIn_of _ (by decide +kernel)) ggX10_lasting_X10_visitorAt
theorem dX10_lasting_0 : decode cX10_lasting 0 = .ok (.iconst 0, 1) := by decide +kernel
theorem dX10_lasting_1 : decode cX10_lasting 1 = .ok (.istore_n 2, 1) := by decide +kernel
theorem dX10_lasting_2 : decode cX10_lasting 2 = .ok (.iconst 0, 1) := by decide +kernel
theorem dX10_lasting_3 : decode cX10_lasting 3 = .ok (.istore_n 3, 1) := by decide +kernel
theorem dX10_lasting_4 : decode cX10_lasting 4 = .ok (.iload_n 3, 1) := by decide +kernel
theorem dX10_lasting_5 : decode cX10_lasting 5 = .ok (.aload_n 0, 1) := by decide +kernel
theorem dX10_lasting_6 : decode cX10_lasting 6 = .ok (.getfield 9, 3) := by decide +kernel
theorem dX10_lasting_9 : decode cX10_lasting 9 = .ok (.iconst 1, 1) := by decide +kernel
theorem dX10_lasting_10 : decode cX10_lasting 10 = .ok (.iaload, 1) := by decide +kernel
theorem dX10_lasting_11 : decode cX10_lasting 11 = .ok (.if_icmp .ge 45, 3) := by decide +kernel
theorem dX10_lasting_14 : decode cX10_lasting 14 = .ok (.iload_n 2, 1) := by decide +kernel
theorem dX10_lasting_15 : decode cX10_lasting 15 = .ok (.aload_n 0, 1) := by decide +kernel
theorem dX10_lasting_16 : decode cX10_lasting 16 = .ok (.iload_n 3, 1) := by decide +kernel
theorem dX10_lasting_17 : decode cX10_lasting 17 = .ok (.invokevirtual 183, 3) := by decide +kernel
theorem dX10_lasting_20 : decode cX10_lasting 20 = .ok (.ifCond .eq 27, 3) := by decide +kernel
theorem dX10_lasting_23 : decode cX10_lasting 23 = .ok (.iload_n 1, 1) := by decide +kernel
theorem dX10_lasting_24 : decode cX10_lasting 24 = .ok (.iconst (-1), 1) := by decide +kernel
theorem dX10_lasting_25 : decode cX10_lasting 25 = .ok (.if_icmp .eq 18, 3) := by decide +kernel
theorem dX10_lasting_28 : decode cX10_lasting 28 = .ok (.aload_n 0, 1) := by decide +kernel
theorem dX10_lasting_29 : decode cX10_lasting 29 = .ok (.getfield 9, 3) := by decide +kernel
theorem dX10_lasting_32 : decode cX10_lasting 32 = .ok (.iload_n 3, 1) := by decide +kernel
theorem dX10_lasting_33 : decode cX10_lasting 33 = .ok (.invokestatic 126, 3) := by decide +kernel
theorem dX10_lasting_36 : decode cX10_lasting 36 = .ok (.iconst 4, 1) := by decide +kernel
theorem dX10_lasting_37 : decode cX10_lasting 37 = .ok (.iadd, 1) := by decide +kernel
theorem dX10_lasting_38 : decode cX10_lasting 38 = .ok (.iaload, 1) := by decide +kernel
theorem dX10_lasting_39 : decode cX10_lasting 39 = .ok (.iload_n 1, 1) := by decide +kernel
theorem dX10_lasting_40 : decode cX10_lasting 40 = .ok (.if_icmp .ne 7, 3) := by decide +kernel
theorem dX10_lasting_43 : decode cX10_lasting 43 = .ok (.iconst 1, 1) := by decide +kernel
theorem dX10_lasting_44 : decode cX10_lasting 44 = .ok (.goto 4, 3) := by decide +kernel
theorem dX10_lasting_47 : decode cX10_lasting 47 = .ok (.iconst 0, 1) := by decide +kernel
theorem dX10_lasting_48 : decode cX10_lasting 48 = .ok (.iadd, 1) := by decide +kernel
theorem dX10_lasting_49 : decode cX10_lasting 49 = .ok (.istore_n 2, 1) := by decide +kernel
theorem dX10_lasting_50 : decode cX10_lasting 50 = .ok (.iinc 3 1, 3) := by decide +kernel
theorem dX10_lasting_53 : decode cX10_lasting 53 = .ok (.goto (-49), 3) := by decide +kernel
theorem dX10_lasting_56 : decode cX10_lasting 56 = .ok (.iload_n 2, 1) := by decide +kernel
theorem dX10_lasting_57 : decode cX10_lasting 57 = .ok (.ireturn, 1) := by decide +kernel
set_option maxRecDepth 20000 in
theorem ggX10_gardenerOf_X10_isGardener : GoodIn wsX10_gardenerOf wsX10_isGardener := goodIn_ca (goodIn_r _ [7, 2, 8, 9, 6, 10, 29, 30, 31, 32, 33, 34, 35, 36, 37, 38, 39, 40, 41, 42, 43, 44, 45, 46, 47, 48, 49] (by decide +kernel) (by decide +kernel)) (goodIn_sub (fun _ h => List.mem_cons_of_mem _ (List.mem_append_right _ h)) (by decide +kernel))
set_option maxRecDepth 20000 in
theorem gX10_gardenerOf_X10_isGardener : GoodIn wsX10_gardenerOf (wsV RX10 117 RX10 yX10_isGardener wsX10_isGardener) := goodIn_app (goodIn_of _ (by decide +kernel)) ggX10_gardenerOf_X10_isGardener
set_option maxRecDepth 20000 in
theorem ggX10_gardenerOf_X10_throwing : GoodIn wsX10_gardenerOf wsX10_throwing := goodIn_r _ [14, 1, 29, 30, 31, 32, 33, 34, 35, 36, 37, 38, 39, 40, 41, 42, 43, 44, 45, 46, 47, 48, 49] (by decide +kernel) (by decide +kernel)
set_option maxRecDepth 20000 in
theorem gX10_gardenerOf_X10_throwing : GoodIn wsX10_gardenerOf (wsV RX10 50 RX10 yX10_throwing wsX10_throwing) := goodIn_app (goodIn_of _ (by decide +kernel)) ggX10_gardenerOf_X10_throwing
set_option maxRecDepth 20000 in
theorem ggX10_gardenerOf_X10_gardenerAt : GoodIn wsX10_gardenerOf wsX10_gardenerAt := goodIn_r _ [17] (by decide +kernel) (by decide +kernel)
set_option maxRecDepth 20000 in
theorem gX10_gardenerOf_X10_gardenerAt : GoodIn wsX10_gardenerOf (va_wsS RX10 120 yX10_gardenerAt wsX10_gardenerAt) := goodIn_app (goodIn_of _ (by decide +kernel)) ggX10_gardenerOf_X10_gardenerAt
set_option maxRecDepth 20000 in
theorem ggX10_gardenerOf_X10_lasting : GoodIn wsX10_gardenerOf wsX10_lasting := goodIn_ca (goodIn_r _ [21, 2, 22, 23, 24, 6, 25, 26, 27, 28, 29, 30, 31, 32, 33, 34, 35, 36, 37, 38, 39, 40, 41, 42, 43, 44, 45, 46, 47, 48, 49] (by decide +kernel) (by decide +kernel)) (goodIn_sub (fun _ h => List.mem_cons_of_mem _ (List.mem_append_right _ h)) (by decide +kernel))
set_option maxRecDepth 20000 in
theorem gX10_gardenerOf_X10_lasting : GoodIn wsX10_gardenerOf (wsV RX10 186 RX10 yX10_lasting wsX10_lasting) := goodIn_app (goodIn_of _ (by decide +kernel)) ggX10_gardenerOf_X10_lasting
theorem dX10_gardenerOf_0 : decode cX10_gardenerOf 0 = .ok (.aload_n 0, 1) := by decide +kernel
theorem dX10_gardenerOf_1 : decode cX10_gardenerOf 1 = .ok (.iconst 0, 1) := by decide +kernel
theorem dX10_gardenerOf_2 : decode cX10_gardenerOf 2 = .ok (.putfield 38, 3) := by decide +kernel
theorem dX10_gardenerOf_5 : decode cX10_gardenerOf 5 = .ok (.aload_n 0, 1) := by decide +kernel
theorem dX10_gardenerOf_6 : decode cX10_gardenerOf 6 = .ok (.iload_n 1, 1) := by decide +kernel
theorem dX10_gardenerOf_7 : decode cX10_gardenerOf 7 = .ok (.invokevirtual 117, 3) := by decide +kernel
theorem dX10_gardenerOf_10 : decode cX10_gardenerOf 10 = .ok (.ifCond .ne 9, 3) := by decide +kernel
theorem dX10_gardenerOf_13 : decode cX10_gardenerOf 13 = .ok (.aload_n 0, 1) := by decide +kernel
theorem dX10_gardenerOf_14 : decode cX10_gardenerOf 14 = .ok (.iconst 1, 1) := by decide +kernel
theorem dX10_gardenerOf_15 : decode cX10_gardenerOf 15 = .ok (.invokevirtual 50, 3) := by decide +kernel
theorem dX10_gardenerOf_18 : decode cX10_gardenerOf 18 = .ok (.ireturn, 1) := by decide +kernel
theorem dX10_gardenerOf_19 : decode cX10_gardenerOf 19 = .ok (.iload_n 2, 1) := by decide +kernel
theorem dX10_gardenerOf_20 : decode cX10_gardenerOf 20 = .ok (.tableswitch 66 0 4 #[36, 46, 52, 52, 52], 36) := by decide +kernel
theorem dX10_gardenerOf_56 : decode cX10_gardenerOf 56 = .ok (.aload_n 0, 1) := by decide +kernel
theorem dX10_gardenerOf_57 : decode cX10_gardenerOf 57 = .ok (.getfield 9, 3) := by decide +kernel
theorem dX10_gardenerOf_60 : decode cX10_gardenerOf 60 = .ok (.iload_n 1, 1) := by decide +kernel
theorem dX10_gardenerOf_61 : decode cX10_gardenerOf 61 = .ok (.invokestatic 120, 3) := by decide +kernel
theorem dX10_gardenerOf_64 : decode cX10_gardenerOf 64 = .ok (.iaload, 1) := by decide +kernel
theorem dX10_gardenerOf_65 : decode cX10_gardenerOf 65 = .ok (.ireturn, 1) := by decide +kernel
theorem dX10_gardenerOf_66 : decode cX10_gardenerOf 66 = .ok (.aload_n 0, 1) := by decide +kernel
theorem dX10_gardenerOf_67 : decode cX10_gardenerOf 67 = .ok (.iload_n 1, 1) := by decide +kernel
theorem dX10_gardenerOf_68 : decode cX10_gardenerOf 68 = .ok (.invokevirtual 186, 3) := by decide +kernel
theorem dX10_gardenerOf_71 : decode cX10_gardenerOf 71 = .ok (.ireturn, 1) := by decide +kernel
theorem dX10_gardenerOf_72 : decode cX10_gardenerOf 72 = .ok (.aload_n 0, 1) := by decide +kernel
theorem dX10_gardenerOf_73 : decode cX10_gardenerOf 73 = .ok (.getfield 9, 3) := by decide +kernel
theorem dX10_gardenerOf_76 : decode cX10_gardenerOf 76 = .ok (.iload_n 1, 1) := by decide +kernel
theorem dX10_gardenerOf_77 : decode cX10_gardenerOf 77 = .ok (.invokestatic 120, 3) := by decide +kernel
theorem dX10_gardenerOf_80 : decode cX10_gardenerOf 80 = .ok (.iload_n 2, 1) := by decide +kernel
theorem dX10_gardenerOf_81 : decode cX10_gardenerOf 81 = .ok (.iadd, 1) := by decide +kernel
theorem dX10_gardenerOf_82 : decode cX10_gardenerOf 82 = .ok (.iconst 1, 1) := by decide +kernel
theorem dX10_gardenerOf_83 : decode cX10_gardenerOf 83 = .ok (.isub, 1) := by decide +kernel
theorem dX10_gardenerOf_84 : decode cX10_gardenerOf 84 = .ok (.iaload, 1) := by decide +kernel
theorem dX10_gardenerOf_85 : decode cX10_gardenerOf 85 = .ok (.ireturn, 1) := by decide +kernel
theorem dX10_gardenerOf_86 : decode cX10_gardenerOf 86 = .ok (.aload_n 0, 1) := by decide +kernel
theorem dX10_gardenerOf_87 : decode cX10_gardenerOf 87 = .ok (.iconst 2, 1) := by decide +kernel
theorem dX10_gardenerOf_88 : decode cX10_gardenerOf 88 = .ok (.invokevirtual 50, 3) := by decide +kernel
theorem dX10_gardenerOf_91 : decode cX10_gardenerOf 91 = .ok (.ireturn, 1) := by decide +kernel
set_option maxRecDepth 20000 in
theorem ggX10_visitorOf_X10_isVisitor : GoodIn wsX10_visitorOf wsX10_isVisitor := goodIn_ca (goodIn_r _ [7, 2, 8, 9, 6, 10, 26, 27, 28, 29, 30, 31, 32, 33, 34, 35, 36, 37, 38, 39, 40, 41, 42, 43, 44, 45, 46] (by decide +kernel) (by decide +kernel)) (goodIn_sub (fun _ h => List.mem_cons_of_mem _ (List.mem_append_right _ h)) (by decide +kernel))
set_option maxRecDepth 20000 in
theorem gX10_visitorOf_X10_isVisitor : GoodIn wsX10_visitorOf (wsV RX10 154 RX10 yX10_isVisitor wsX10_isVisitor) := goodIn_app (goodIn_of _ (by decide +kernel)) ggX10_visitorOf_X10_isVisitor
set_option maxRecDepth 20000 in
theorem ggX10_visitorOf_X10_throwing : GoodIn wsX10_visitorOf wsX10_throwing := goodIn_r _ [14, 1, 26, 27, 28, 29, 30, 31, 32, 33, 34, 35, 36, 37, 38, 39, 40, 41, 42, 43, 44, 45, 46] (by decide +kernel) (by decide +kernel)
set_option maxRecDepth 20000 in
theorem gX10_visitorOf_X10_throwing : GoodIn wsX10_visitorOf (wsV RX10 50 RX10 yX10_throwing wsX10_throwing) := goodIn_app (goodIn_of _ (by decide +kernel)) ggX10_visitorOf_X10_throwing
set_option maxRecDepth 20000 in
theorem ggX10_visitorOf_X10_visitorAt : GoodIn wsX10_visitorOf wsX10_visitorAt := goodIn_r _ [17] (by decide +kernel) (by decide +kernel)
set_option maxRecDepth 20000 in
theorem gX10_visitorOf_X10_visitorAt : GoodIn wsX10_visitorOf (va_wsS RX10 126 yX10_visitorAt wsX10_visitorAt) := goodIn_app (goodIn_of _ (by decide +kernel)) ggX10_visitorOf_X10_visitorAt
set_option maxRecDepth 20000 in
theorem ggX10_visitorOf_X10_lostOf : GoodIn wsX10_visitorOf wsX10_lostOf := goodIn_ca (goodIn_r _ [21, 2, 22, 23, 24, 25, 15, 16, 6, 17, 26, 27, 28, 29, 30, 31, 32, 33, 34, 35, 36, 37, 38, 39, 40, 41, 42, 43, 44, 45, 46] (by decide +kernel) (by decide +kernel)) (goodIn_sub (fun _ h => List.mem_cons_of_mem _ (List.mem_append_right _ h)) (by decide +kernel))
set_option maxRecDepth 20000 in
theorem gX10_visitorOf_X10_lostOf : GoodIn wsX10_visitorOf (wsV RX10 162 RX10 yX10_lostOf wsX10_lostOf) := goodIn_app (goodIn_of _ (by decide +kernel)) ggX10_visitorOf_X10_lostOf
theorem dX10_visitorOf_0 : decode cX10_visitorOf 0 = .ok (.aload_n 0, 1) := by decide +kernel
theorem dX10_visitorOf_1 : decode cX10_visitorOf 1 = .ok (.iconst 0, 1) := by decide +kernel
theorem dX10_visitorOf_2 : decode cX10_visitorOf 2 = .ok (.putfield 38, 3) := by decide +kernel
theorem dX10_visitorOf_5 : decode cX10_visitorOf 5 = .ok (.aload_n 0, 1) := by decide +kernel
theorem dX10_visitorOf_6 : decode cX10_visitorOf 6 = .ok (.iload_n 1, 1) := by decide +kernel
theorem dX10_visitorOf_7 : decode cX10_visitorOf 7 = .ok (.invokevirtual 154, 3) := by decide +kernel
theorem dX10_visitorOf_10 : decode cX10_visitorOf 10 = .ok (.ifCond .ne 9, 3) := by decide +kernel
theorem dX10_visitorOf_13 : decode cX10_visitorOf 13 = .ok (.aload_n 0, 1) := by decide +kernel
theorem dX10_visitorOf_14 : decode cX10_visitorOf 14 = .ok (.iconst 1, 1) := by decide +kernel
theorem dX10_visitorOf_15 : decode cX10_visitorOf 15 = .ok (.invokevirtual 50, 3) := by decide +kernel
theorem dX10_visitorOf_18 : decode cX10_visitorOf 18 = .ok (.ireturn, 1) := by decide +kernel
theorem dX10_visitorOf_19 : decode cX10_visitorOf 19 = .ok (.iload_n 1, 1) := by decide +kernel
theorem dX10_visitorOf_20 : decode cX10_visitorOf 20 = .ok (.invokestatic 126, 3) := by decide +kernel
theorem dX10_visitorOf_23 : decode cX10_visitorOf 23 = .ok (.istore_n 3, 1) := by decide +kernel
theorem dX10_visitorOf_24 : decode cX10_visitorOf 24 = .ok (.iload_n 2, 1) := by decide +kernel
theorem dX10_visitorOf_25 : decode cX10_visitorOf 25 = .ok (.tableswitch 77 0 8 #[51, 51, 51, 51, 60, 66, 66, 66, 66], 51) := by decide +kernel
theorem dX10_visitorOf_76 : decode cX10_visitorOf 76 = .ok (.aload_n 0, 1) := by decide +kernel
theorem dX10_visitorOf_77 : decode cX10_visitorOf 77 = .ok (.getfield 9, 3) := by decide +kernel
theorem dX10_visitorOf_80 : decode cX10_visitorOf 80 = .ok (.iload_n 3, 1) := by decide +kernel
theorem dX10_visitorOf_81 : decode cX10_visitorOf 81 = .ok (.iload_n 2, 1) := by decide +kernel
theorem dX10_visitorOf_82 : decode cX10_visitorOf 82 = .ok (.iadd, 1) := by decide +kernel
theorem dX10_visitorOf_83 : decode cX10_visitorOf 83 = .ok (.iaload, 1) := by decide +kernel
theorem dX10_visitorOf_84 : decode cX10_visitorOf 84 = .ok (.ireturn, 1) := by decide +kernel
theorem dX10_visitorOf_85 : decode cX10_visitorOf 85 = .ok (.aload_n 0, 1) := by decide +kernel
theorem dX10_visitorOf_86 : decode cX10_visitorOf 86 = .ok (.iload_n 1, 1) := by decide +kernel
theorem dX10_visitorOf_87 : decode cX10_visitorOf 87 = .ok (.invokevirtual 162, 3) := by decide +kernel
theorem dX10_visitorOf_90 : decode cX10_visitorOf 90 = .ok (.ireturn, 1) := by decide +kernel
theorem dX10_visitorOf_91 : decode cX10_visitorOf 91 = .ok (.aload_n 0, 1) := by decide +kernel
theorem dX10_visitorOf_92 : decode cX10_visitorOf 92 = .ok (.getfield 9, 3) := by decide +kernel
theorem dX10_visitorOf_95 : decode cX10_visitorOf 95 = .ok (.iload_n 3, 1) := by decide +kernel
theorem dX10_visitorOf_96 : decode cX10_visitorOf 96 = .ok (.iload_n 2, 1) := by decide +kernel
theorem dX10_visitorOf_97 : decode cX10_visitorOf 97 = .ok (.iadd, 1) := by decide +kernel
theorem dX10_visitorOf_98 : decode cX10_visitorOf 98 = .ok (.iconst 1, 1) := by decide +kernel
theorem dX10_visitorOf_99 : decode cX10_visitorOf 99 = .ok (.isub, 1) := by decide +kernel
theorem dX10_visitorOf_100 : decode cX10_visitorOf 100 = .ok (.iaload, 1) := by decide +kernel
theorem dX10_visitorOf_101 : decode cX10_visitorOf 101 = .ok (.ireturn, 1) := by decide +kernel
theorem dX10_visitorOf_102 : decode cX10_visitorOf 102 = .ok (.aload_n 0, 1) := by decide +kernel
theorem dX10_visitorOf_103 : decode cX10_visitorOf 103 = .ok (.iconst 2, 1) := by decide +kernel
theorem dX10_visitorOf_104 : decode cX10_visitorOf 104 = .ok (.invokevirtual 50, 3) := by decide +kernel
theorem dX10_visitorOf_107 : decode cX10_visitorOf 107 = .ok (.ireturn, 1) := by decide +kernel
set_option maxRecDepth 20000 in
theorem ggX10_wouldPay_X10_isVisitor : GoodIn wsX10_wouldPay wsX10_isVisitor := goodIn_ca (goodIn_r _ [11, 2, 12, 13, 10, 14, 56, 57, 58, 59, 60, 61, 62, 63, 64, 65, 66, 67, 68, 69, 70, 71, 72, 73, 74, 75, 76] (by decide +kernel) (by decide +kernel)) (goodIn_sub (fun _ h => List.mem_cons_of_mem _ (List.mem_append_right _ h)) (by decide +kernel))
set_option maxRecDepth 20000 in
theorem gX10_wouldPay_X10_isVisitor : GoodIn wsX10_wouldPay (wsV RX10 154 RX10 yX10_isVisitor wsX10_isVisitor) := goodIn_app (goodIn_of _ (by decide +kernel)) ggX10_wouldPay_X10_isVisitor
set_option maxRecDepth 20000 in
theorem ggX10_wouldPay_X10_throwing : GoodIn wsX10_wouldPay wsX10_throwing := goodIn_r _ [18, 1, 56, 57, 58, 59, 60, 61, 62, 63, 64, 65, 66, 67, 68, 69, 70, 71, 72, 73, 74, 75, 76] (by decide +kernel) (by decide +kernel)
set_option maxRecDepth 20000 in
theorem gX10_wouldPay_X10_throwing : GoodIn wsX10_wouldPay (wsV RX10 50 RX10 yX10_throwing wsX10_throwing) := goodIn_app (goodIn_of _ (by decide +kernel)) ggX10_wouldPay_X10_throwing
set_option maxRecDepth 20000 in
theorem ggX10_wouldPay_X10_visitorAt : GoodIn wsX10_wouldPay wsX10_visitorAt := goodIn_r _ [21] (by decide +kernel) (by decide +kernel)
set_option maxRecDepth 20000 in
theorem gX10_wouldPay_X10_visitorAt : GoodIn wsX10_wouldPay (va_wsS RX10 126 yX10_visitorAt wsX10_visitorAt) := goodIn_app (goodIn_of _ (by decide +kernel)) ggX10_wouldPay_X10_visitorAt
set_option maxRecDepth 20000 in
theorem ggX10_wouldPay_X10_hoursOf : GoodIn wsX10_wouldPay wsX10_hoursOf := goodIn_ca (goodIn_r _ [25, 26, 27, 28, 29, 10, 30, 31, 32, 5, 33, 34, 35, 36, 37, 12, 13, 14, 38, 39, 40, 3, 4, 6, 41, 42, 43, 44, 2, 56, 57, 58, 59, 60, 61, 62, 63, 64, 65, 66, 67, 68, 69, 70, 71, 72, 73, 74, 75, 76] (by decide +kernel) (by decide +kernel)) (goodIn_sub (fun _ h => List.mem_cons_of_mem _ (List.mem_append_right _ h)) (by decide +kernel))
set_option maxRecDepth 20000 in
theorem gX10_wouldPay_X10_hoursOf : GoodIn wsX10_wouldPay (wsV RX10 142 RX10 yX10_hoursOf wsX10_hoursOf) := goodIn_app (goodIn_of _ (by decide +kernel)) ggX10_wouldPay_X10_hoursOf
set_option maxRecDepth 20000 in
theorem ggX10_wouldPay_X10_lasts : GoodIn wsX10_wouldPay wsX10_lasts := goodIn_ca (goodIn_r _ [48, 2, 19, 20, 10, 21, 56, 57, 58, 59, 60, 61, 62, 63, 64, 65, 66, 67, 68, 69, 70, 71, 72, 73, 74, 75, 76] (by decide +kernel) (by decide +kernel)) (goodIn_sub (fun _ h => List.mem_cons_of_mem _ (List.mem_append_right _ h)) (by decide +kernel))
set_option maxRecDepth 20000 in
theorem gX10_wouldPay_X10_lasts : GoodIn wsX10_wouldPay (wsV RX10 183 RX10 yX10_lasts wsX10_lasts) := goodIn_app (goodIn_of _ (by decide +kernel)) ggX10_wouldPay_X10_lasts
set_option maxRecDepth 20000 in
theorem ggX10_wouldPay_X10_pays : GoodIn wsX10_wouldPay wsX10_pays := goodIn_ca (goodIn_r _ [52, 2, 31, 32, 5, 33, 19, 20, 10, 21, 53, 54, 55, 56, 57, 58, 59, 60, 61, 62, 63, 64, 65, 66, 67, 68, 69, 70, 71, 72, 73, 74, 75, 76] (by decide +kernel) (by decide +kernel)) (goodIn_sub (fun _ h => List.mem_cons_of_mem _ (List.mem_append_right _ h)) (by decide +kernel))
set_option maxRecDepth 20000 in
theorem gX10_wouldPay_X10_pays : GoodIn wsX10_wouldPay (wsV RX10 165 RX10 yX10_pays wsX10_pays) := goodIn_app (goodIn_of _ (by decide +kernel)) ggX10_wouldPay_X10_pays
theorem dX10_wouldPay_0 : decode cX10_wouldPay 0 = .ok (.aload_n 0, 1) := by decide +kernel
theorem dX10_wouldPay_1 : decode cX10_wouldPay 1 = .ok (.iconst 0, 1) := by decide +kernel
theorem dX10_wouldPay_2 : decode cX10_wouldPay 2 = .ok (.putfield 38, 3) := by decide +kernel
theorem dX10_wouldPay_5 : decode cX10_wouldPay 5 = .ok (.aload_n 0, 1) := by decide +kernel
theorem dX10_wouldPay_6 : decode cX10_wouldPay 6 = .ok (.iload_n 1, 1) := by decide +kernel
theorem dX10_wouldPay_7 : decode cX10_wouldPay 7 = .ok (.invokevirtual 154, 3) := by decide +kernel
theorem dX10_wouldPay_10 : decode cX10_wouldPay 10 = .ok (.ifCond .ne 9, 3) := by decide +kernel
theorem dX10_wouldPay_13 : decode cX10_wouldPay 13 = .ok (.aload_n 0, 1) := by decide +kernel
theorem dX10_wouldPay_14 : decode cX10_wouldPay 14 = .ok (.iconst 1, 1) := by decide +kernel
theorem dX10_wouldPay_15 : decode cX10_wouldPay 15 = .ok (.invokevirtual 50, 3) := by decide +kernel
theorem dX10_wouldPay_18 : decode cX10_wouldPay 18 = .ok (.ireturn, 1) := by decide +kernel
theorem dX10_wouldPay_19 : decode cX10_wouldPay 19 = .ok (.iload_n 1, 1) := by decide +kernel
theorem dX10_wouldPay_20 : decode cX10_wouldPay 20 = .ok (.invokestatic 126, 3) := by decide +kernel
theorem dX10_wouldPay_23 : decode cX10_wouldPay 23 = .ok (.istore_n 2, 1) := by decide +kernel
theorem dX10_wouldPay_24 : decode cX10_wouldPay 24 = .ok (.aload_n 0, 1) := by decide +kernel
theorem dX10_wouldPay_25 : decode cX10_wouldPay 25 = .ok (.aload_n 0, 1) := by decide +kernel
theorem dX10_wouldPay_26 : decode cX10_wouldPay 26 = .ok (.getfield 9, 3) := by decide +kernel
theorem dX10_wouldPay_29 : decode cX10_wouldPay 29 = .ok (.iload_n 2, 1) := by decide +kernel
theorem dX10_wouldPay_30 : decode cX10_wouldPay 30 = .ok (.iconst 1, 1) := by decide +kernel
theorem dX10_wouldPay_31 : decode cX10_wouldPay 31 = .ok (.iadd, 1) := by decide +kernel
theorem dX10_wouldPay_32 : decode cX10_wouldPay 32 = .ok (.iaload, 1) := by decide +kernel
theorem dX10_wouldPay_33 : decode cX10_wouldPay 33 = .ok (.bipush 15, 2) := by decide +kernel
theorem dX10_wouldPay_35 : decode cX10_wouldPay 35 = .ok (.invokevirtual 142, 3) := by decide +kernel
theorem dX10_wouldPay_38 : decode cX10_wouldPay 38 = .ok (.istore_n 3, 1) := by decide +kernel
theorem dX10_wouldPay_39 : decode cX10_wouldPay 39 = .ok (.aload_n 0, 1) := by decide +kernel
theorem dX10_wouldPay_40 : decode cX10_wouldPay 40 = .ok (.iload_n 1, 1) := by decide +kernel
theorem dX10_wouldPay_41 : decode cX10_wouldPay 41 = .ok (.invokevirtual 183, 3) := by decide +kernel
theorem dX10_wouldPay_44 : decode cX10_wouldPay 44 = .ok (.ifCond .eq 8, 3) := by decide +kernel
theorem dX10_wouldPay_47 : decode cX10_wouldPay 47 = .ok (.iload_n 3, 1) := by decide +kernel
theorem dX10_wouldPay_48 : decode cX10_wouldPay 48 = .ok (.iconst (-1), 1) := by decide +kernel
theorem dX10_wouldPay_49 : decode cX10_wouldPay 49 = .ok (.if_icmp .ne 9, 3) := by decide +kernel
theorem dX10_wouldPay_52 : decode cX10_wouldPay 52 = .ok (.aload_n 0, 1) := by decide +kernel
theorem dX10_wouldPay_53 : decode cX10_wouldPay 53 = .ok (.iconst 2, 1) := by decide +kernel
theorem dX10_wouldPay_54 : decode cX10_wouldPay 54 = .ok (.invokevirtual 50, 3) := by decide +kernel
theorem dX10_wouldPay_57 : decode cX10_wouldPay 57 = .ok (.ireturn, 1) := by decide +kernel
theorem dX10_wouldPay_58 : decode cX10_wouldPay 58 = .ok (.aload_n 0, 1) := by decide +kernel
theorem dX10_wouldPay_59 : decode cX10_wouldPay 59 = .ok (.iload_n 1, 1) := by decide +kernel
theorem dX10_wouldPay_60 : decode cX10_wouldPay 60 = .ok (.iconst 0, 1) := by decide +kernel
theorem dX10_wouldPay_61 : decode cX10_wouldPay 61 = .ok (.aload_n 0, 1) := by decide +kernel
theorem dX10_wouldPay_62 : decode cX10_wouldPay 62 = .ok (.getfield 9, 3) := by decide +kernel
theorem dX10_wouldPay_65 : decode cX10_wouldPay 65 = .ok (.iload_n 2, 1) := by decide +kernel
theorem dX10_wouldPay_66 : decode cX10_wouldPay 66 = .ok (.iconst 2, 1) := by decide +kernel
theorem dX10_wouldPay_67 : decode cX10_wouldPay 67 = .ok (.iadd, 1) := by decide +kernel
theorem dX10_wouldPay_68 : decode cX10_wouldPay 68 = .ok (.iaload, 1) := by decide +kernel
theorem dX10_wouldPay_69 : decode cX10_wouldPay 69 = .ok (.iload_n 3, 1) := by decide +kernel
theorem dX10_wouldPay_70 : decode cX10_wouldPay 70 = .ok (.iadd, 1) := by decide +kernel
theorem dX10_wouldPay_71 : decode cX10_wouldPay 71 = .ok (.aload_n 0, 1) := by decide +kernel
theorem dX10_wouldPay_72 : decode cX10_wouldPay 72 = .ok (.getfield 9, 3) := by decide +kernel
theorem dX10_wouldPay_75 : decode cX10_wouldPay 75 = .ok (.iload_n 2, 1) := by decide +kernel
theorem dX10_wouldPay_76 : decode cX10_wouldPay 76 = .ok (.iconst 3, 1) := by decide +kernel
theorem dX10_wouldPay_77 : decode cX10_wouldPay 77 = .ok (.iadd, 1) := by decide +kernel
theorem dX10_wouldPay_78 : decode cX10_wouldPay 78 = .ok (.iaload, 1) := by decide +kernel
theorem dX10_wouldPay_79 : decode cX10_wouldPay 79 = .ok (.isub, 1) := by decide +kernel
theorem dX10_wouldPay_80 : decode cX10_wouldPay 80 = .ok (.invokestatic 71, 3) := by decide +kernel
theorem dX10_wouldPay_83 : decode cX10_wouldPay 83 = .ok (.invokevirtual 165, 3) := by decide +kernel
theorem dX10_wouldPay_86 : decode cX10_wouldPay 86 = .ok (.ireturn, 1) := by decide +kernel
set_option maxRecDepth 20000 in
theorem ggX10_owedBy_X10_visitorAt : GoodIn wsX10_owedBy wsX10_visitorAt := goodIn_r _ [5] (by decide +kernel) (by decide +kernel)
set_option maxRecDepth 20000 in
theorem gX10_owedBy_X10_visitorAt : GoodIn wsX10_owedBy (va_wsS RX10 126 yX10_visitorAt wsX10_visitorAt) := goodIn_app (goodIn_of _ (by decide +kernel)) ggX10_owedBy_X10_visitorAt
set_option maxRecDepth 20000 in
theorem ggX10_owedBy_X10_lasts : GoodIn wsX10_owedBy wsX10_lasts := goodIn_ca (goodIn_r _ [9, 1, 2, 3, 4, 5, 18, 19, 20, 21, 22, 23, 24, 25, 26, 27, 28, 29, 30, 31, 32, 33, 34, 35, 36, 37, 38] (by decide +kernel) (by decide +kernel)) (goodIn_sub (fun _ h => List.mem_cons_of_mem _ (List.mem_append_right _ h)) (by decide +kernel))
set_option maxRecDepth 20000 in
theorem gX10_owedBy_X10_lasts : GoodIn wsX10_owedBy (wsV RX10 183 RX10 yX10_lasts wsX10_lasts) := goodIn_app (goodIn_of _ (by decide +kernel)) ggX10_owedBy_X10_lasts
set_option maxRecDepth 20000 in
theorem ggX10_owedBy_X10_lostOf : GoodIn wsX10_owedBy wsX10_lostOf := goodIn_ca (goodIn_r _ [13, 1, 14, 15, 16, 17, 2, 3, 4, 5, 18, 19, 20, 21, 22, 23, 24, 25, 26, 27, 28, 29, 30, 31, 32, 33, 34, 35, 36, 37, 38] (by decide +kernel) (by decide +kernel)) (goodIn_sub (fun _ h => List.mem_cons_of_mem _ (List.mem_append_right _ h)) (by decide +kernel))
set_option maxRecDepth 20000 in
theorem gX10_owedBy_X10_lostOf : GoodIn wsX10_owedBy (wsV RX10 162 RX10 yX10_lostOf wsX10_lostOf) := goodIn_app (goodIn_of _ (by decide +kernel)) ggX10_owedBy_X10_lostOf
theorem dX10_owedBy_0 : decode cX10_owedBy 0 = .ok (.iconst 0, 1) := by decide +kernel
theorem dX10_owedBy_1 : decode cX10_owedBy 1 = .ok (.istore_n 2, 1) := by decide +kernel
theorem dX10_owedBy_2 : decode cX10_owedBy 2 = .ok (.iconst 0, 1) := by decide +kernel
theorem dX10_owedBy_3 : decode cX10_owedBy 3 = .ok (.istore_n 3, 1) := by decide +kernel
theorem dX10_owedBy_4 : decode cX10_owedBy 4 = .ok (.iload_n 3, 1) := by decide +kernel
theorem dX10_owedBy_5 : decode cX10_owedBy 5 = .ok (.aload_n 0, 1) := by decide +kernel
theorem dX10_owedBy_6 : decode cX10_owedBy 6 = .ok (.getfield 9, 3) := by decide +kernel
theorem dX10_owedBy_9 : decode cX10_owedBy 9 = .ok (.iconst 1, 1) := by decide +kernel
theorem dX10_owedBy_10 : decode cX10_owedBy 10 = .ok (.iaload, 1) := by decide +kernel
theorem dX10_owedBy_11 : decode cX10_owedBy 11 = .ok (.if_icmp .ge 83, 3) := by decide +kernel
theorem dX10_owedBy_14 : decode cX10_owedBy 14 = .ok (.iload_n 3, 1) := by decide +kernel
theorem dX10_owedBy_15 : decode cX10_owedBy 15 = .ok (.invokestatic 126, 3) := by decide +kernel
theorem dX10_owedBy_18 : decode cX10_owedBy 18 = .ok (.istore 4, 2) := by decide +kernel
theorem dX10_owedBy_20 : decode cX10_owedBy 20 = .ok (.aload_n 0, 1) := by decide +kernel
