theorem dX10_meets_22 : decode cX10_meets 22 = .ok (.iconst 1, 1) := by decide +kernel
theorem dX10_meets_23 : decode cX10_meets 23 = .ok (.iadd, 1) := by decide +kernel
theorem dX10_meets_24 : decode cX10_meets 24 = .ok (.iaload, 1) := by decide +kernel
theorem dX10_meets_25 : decode cX10_meets 25 = .ok (.aload_n 0, 1) := by decide +kernel
theorem dX10_meets_26 : decode cX10_meets 26 = .ok (.getfield 9, 3) := by decide +kernel
theorem dX10_meets_29 : decode cX10_meets 29 = .ok (.iconst 2, 1) := by decide +kernel
theorem dX10_meets_30 : decode cX10_meets 30 = .ok (.iaload, 1) := by decide +kernel
theorem dX10_meets_31 : decode cX10_meets 31 = .ok (.if_icmp .ne 7, 3) := by decide +kernel
theorem dX10_meets_34 : decode cX10_meets 34 = .ok (.iconst 1, 1) := by decide +kernel
theorem dX10_meets_35 : decode cX10_meets 35 = .ok (.goto 4, 3) := by decide +kernel
theorem dX10_meets_38 : decode cX10_meets 38 = .ok (.iconst 0, 1) := by decide +kernel
theorem dX10_meets_39 : decode cX10_meets 39 = .ok (.ireturn, 1) := by decide +kernel
set_option maxRecDepth 20000 in
theorem ggX10_minotaurIt_X10_in : GoodIn wsX10_minotaurIt wsX10_in := goodIn_r _ [7] (by decide +kernel) (by decide +kernel)
set_option maxRecDepth 20000 in
theorem gX10_minotaurIt_X10_in : GoodIn wsX10_minotaurIt (va_wsS RX10 59 yX10_in wsX10_in) := goodIn_app (goodIn_of _ (by decide +kernel)) ggX10_minotaurIt_X10_in
set_option maxRecDepth 20000 in
theorem ggX10_minotaurIt_X10_refuse : GoodIn wsX10_minotaurIt wsX10_refuse := goodIn_r _ [11, 12, 13, 14, 15, 16, 17, 6, 18, 19, 27, 28, 29, 30, 31, 32, 33, 34, 35, 36, 37, 38, 39, 40, 41, 42, 43, 44, 45, 46, 47] (by decide +kernel) (by decide +kernel)
set_option maxRecDepth 20000 in
theorem gX10_minotaurIt_X10_refuse : GoodIn wsX10_minotaurIt (wsV RX10 91 RX10 yX10_refuse wsX10_refuse) := goodIn_app (goodIn_of _ (by decide +kernel)) ggX10_minotaurIt_X10_refuse
set_option maxRecDepth 20000 in
theorem ggX10_minotaurIt_X10_meets : GoodIn wsX10_minotaurIt wsX10_meets := goodIn_ca (goodIn_r _ [23, 3, 24, 25, 6, 26, 27, 28, 29, 30, 31, 32, 33, 34, 35, 36, 37, 38, 39, 40, 41, 42, 43, 44, 45, 46, 47] (by decide +kernel) (by decide +kernel)) (goodIn_sub (fun _ h => List.mem_cons_of_mem _ (List.mem_append_right _ h)) (by decide +kernel))
set_option maxRecDepth 20000 in
theorem gX10_minotaurIt_X10_meets : GoodIn wsX10_minotaurIt (wsV RX10 131 RX10 yX10_meets wsX10_meets) := goodIn_app (goodIn_of _ (by decide +kernel)) ggX10_minotaurIt_X10_meets
set_option maxRecDepth 20000 in
theorem ggX10_minotaurIt_X10_visitorAt : GoodIn wsX10_minotaurIt wsX10_visitorAt := goodIn_r _ [26] (by decide +kernel) (by decide +kernel)
set_option maxRecDepth 20000 in
theorem gX10_minotaurIt_X10_visitorAt : GoodIn wsX10_minotaurIt (va_wsS RX10 126 yX10_visitorAt wsX10_visitorAt) := goodIn_app (goodIn_of _ (by decide +kernel)) ggX10_minotaurIt_X10_visitorAt
theorem dX10_minotaurIt_0 : decode cX10_minotaurIt 0 = .ok (.iload_n 1, 1) := by decide +kernel
theorem dX10_minotaurIt_1 : decode cX10_minotaurIt 1 = .ok (.i2l, 1) := by decide +kernel
theorem dX10_minotaurIt_2 : decode cX10_minotaurIt 2 = .ok (.ldc2_w 129, 3) := by decide +kernel
theorem dX10_minotaurIt_5 : decode cX10_minotaurIt 5 = .ok (.ldc2_w 57, 3) := by decide +kernel
theorem dX10_minotaurIt_8 : decode cX10_minotaurIt 8 = .ok (.invokestatic 59, 3) := by decide +kernel
theorem dX10_minotaurIt_11 : decode cX10_minotaurIt 11 = .ok (.ifCond .ne 10, 3) := by decide +kernel
theorem dX10_minotaurIt_14 : decode cX10_minotaurIt 14 = .ok (.aload_n 0, 1) := by decide +kernel
theorem dX10_minotaurIt_15 : decode cX10_minotaurIt 15 = .ok (.iconst 1, 1) := by decide +kernel
theorem dX10_minotaurIt_16 : decode cX10_minotaurIt 16 = .ok (.iconst 0, 1) := by decide +kernel
theorem dX10_minotaurIt_17 : decode cX10_minotaurIt 17 = .ok (.invokevirtual 91, 3) := by decide +kernel
theorem dX10_minotaurIt_20 : decode cX10_minotaurIt 20 = .ok (.ireturn, 1) := by decide +kernel
theorem dX10_minotaurIt_21 : decode cX10_minotaurIt 21 = .ok (.aload_n 0, 1) := by decide +kernel
theorem dX10_minotaurIt_22 : decode cX10_minotaurIt 22 = .ok (.getfield 9, 3) := by decide +kernel
theorem dX10_minotaurIt_25 : decode cX10_minotaurIt 25 = .ok (.iconst 2, 1) := by decide +kernel
theorem dX10_minotaurIt_26 : decode cX10_minotaurIt 26 = .ok (.iaload, 1) := by decide +kernel
theorem dX10_minotaurIt_27 : decode cX10_minotaurIt 27 = .ok (.iload_n 1, 1) := by decide +kernel
theorem dX10_minotaurIt_28 : decode cX10_minotaurIt 28 = .ok (.if_icmp .ne 10, 3) := by decide +kernel
theorem dX10_minotaurIt_31 : decode cX10_minotaurIt 31 = .ok (.aload_n 0, 1) := by decide +kernel
theorem dX10_minotaurIt_32 : decode cX10_minotaurIt 32 = .ok (.iconst 3, 1) := by decide +kernel
theorem dX10_minotaurIt_33 : decode cX10_minotaurIt 33 = .ok (.iload_n 1, 1) := by decide +kernel
theorem dX10_minotaurIt_34 : decode cX10_minotaurIt 34 = .ok (.invokevirtual 91, 3) := by decide +kernel
theorem dX10_minotaurIt_37 : decode cX10_minotaurIt 37 = .ok (.ireturn, 1) := by decide +kernel
theorem dX10_minotaurIt_38 : decode cX10_minotaurIt 38 = .ok (.aload_n 0, 1) := by decide +kernel
theorem dX10_minotaurIt_39 : decode cX10_minotaurIt 39 = .ok (.getfield 9, 3) := by decide +kernel
theorem dX10_minotaurIt_42 : decode cX10_minotaurIt 42 = .ok (.iconst 2, 1) := by decide +kernel
theorem dX10_minotaurIt_43 : decode cX10_minotaurIt 43 = .ok (.iload_n 1, 1) := by decide +kernel
theorem dX10_minotaurIt_44 : decode cX10_minotaurIt 44 = .ok (.iastore, 1) := by decide +kernel
theorem dX10_minotaurIt_45 : decode cX10_minotaurIt 45 = .ok (.iconst 0, 1) := by decide +kernel
theorem dX10_minotaurIt_46 : decode cX10_minotaurIt 46 = .ok (.istore_n 2, 1) := by decide +kernel
theorem dX10_minotaurIt_47 : decode cX10_minotaurIt 47 = .ok (.iconst 0, 1) := by decide +kernel
theorem dX10_minotaurIt_48 : decode cX10_minotaurIt 48 = .ok (.istore_n 3, 1) := by decide +kernel
theorem dX10_minotaurIt_49 : decode cX10_minotaurIt 49 = .ok (.iload_n 3, 1) := by decide +kernel
theorem dX10_minotaurIt_50 : decode cX10_minotaurIt 50 = .ok (.aload_n 0, 1) := by decide +kernel
theorem dX10_minotaurIt_51 : decode cX10_minotaurIt 51 = .ok (.getfield 9, 3) := by decide +kernel
theorem dX10_minotaurIt_54 : decode cX10_minotaurIt 54 = .ok (.iconst 1, 1) := by decide +kernel
theorem dX10_minotaurIt_55 : decode cX10_minotaurIt 55 = .ok (.iaload, 1) := by decide +kernel
theorem dX10_minotaurIt_56 : decode cX10_minotaurIt 56 = .ok (.if_icmp .ge 76, 3) := by decide +kernel
theorem dX10_minotaurIt_59 : decode cX10_minotaurIt 59 = .ok (.aload_n 0, 1) := by decide +kernel
theorem dX10_minotaurIt_60 : decode cX10_minotaurIt 60 = .ok (.iload_n 3, 1) := by decide +kernel
theorem dX10_minotaurIt_61 : decode cX10_minotaurIt 61 = .ok (.invokevirtual 131, 3) := by decide +kernel
theorem dX10_minotaurIt_64 : decode cX10_minotaurIt 64 = .ok (.istore 4, 2) := by decide +kernel
theorem dX10_minotaurIt_66 : decode cX10_minotaurIt 66 = .ok (.aload_n 0, 1) := by decide +kernel
theorem dX10_minotaurIt_67 : decode cX10_minotaurIt 67 = .ok (.getfield 9, 3) := by decide +kernel
theorem dX10_minotaurIt_70 : decode cX10_minotaurIt 70 = .ok (.iload_n 3, 1) := by decide +kernel
theorem dX10_minotaurIt_71 : decode cX10_minotaurIt 71 = .ok (.invokestatic 126, 3) := by decide +kernel
theorem dX10_minotaurIt_74 : decode cX10_minotaurIt 74 = .ok (.bipush 6, 2) := by decide +kernel
theorem dX10_minotaurIt_76 : decode cX10_minotaurIt 76 = .ok (.iadd, 1) := by decide +kernel
theorem dX10_minotaurIt_77 : decode cX10_minotaurIt 77 = .ok (.iload 4, 2) := by decide +kernel
theorem dX10_minotaurIt_79 : decode cX10_minotaurIt 79 = .ok (.ifCond .eq 21, 3) := by decide +kernel
theorem dX10_minotaurIt_82 : decode cX10_minotaurIt 82 = .ok (.aload_n 0, 1) := by decide +kernel
theorem dX10_minotaurIt_83 : decode cX10_minotaurIt 83 = .ok (.getfield 9, 3) := by decide +kernel
theorem dX10_minotaurIt_86 : decode cX10_minotaurIt 86 = .ok (.iload_n 3, 1) := by decide +kernel
theorem dX10_minotaurIt_87 : decode cX10_minotaurIt 87 = .ok (.invokestatic 126, 3) := by decide +kernel
theorem dX10_minotaurIt_90 : decode cX10_minotaurIt 90 = .ok (.iconst 5, 1) := by decide +kernel
theorem dX10_minotaurIt_91 : decode cX10_minotaurIt 91 = .ok (.iadd, 1) := by decide +kernel
theorem dX10_minotaurIt_92 : decode cX10_minotaurIt 92 = .ok (.iaload, 1) := by decide +kernel
theorem dX10_minotaurIt_93 : decode cX10_minotaurIt 93 = .ok (.ifCond .le 7, 3) := by decide +kernel
theorem dX10_minotaurIt_96 : decode cX10_minotaurIt 96 = .ok (.iconst 1, 1) := by decide +kernel
theorem dX10_minotaurIt_97 : decode cX10_minotaurIt 97 = .ok (.goto 15, 3) := by decide +kernel
theorem dX10_minotaurIt_100 : decode cX10_minotaurIt 100 = .ok (.aload_n 0, 1) := by decide +kernel
theorem dX10_minotaurIt_101 : decode cX10_minotaurIt 101 = .ok (.getfield 9, 3) := by decide +kernel
theorem dX10_minotaurIt_104 : decode cX10_minotaurIt 104 = .ok (.iload_n 3, 1) := by decide +kernel
theorem dX10_minotaurIt_105 : decode cX10_minotaurIt 105 = .ok (.invokestatic 126, 3) := by decide +kernel
theorem dX10_minotaurIt_108 : decode cX10_minotaurIt 108 = .ok (.bipush 6, 2) := by decide +kernel
theorem dX10_minotaurIt_110 : decode cX10_minotaurIt 110 = .ok (.iadd, 1) := by decide +kernel
theorem dX10_minotaurIt_111 : decode cX10_minotaurIt 111 = .ok (.iaload, 1) := by decide +kernel
theorem dX10_minotaurIt_112 : decode cX10_minotaurIt 112 = .ok (.iastore, 1) := by decide +kernel
theorem dX10_minotaurIt_113 : decode cX10_minotaurIt 113 = .ok (.iload_n 2, 1) := by decide +kernel
theorem dX10_minotaurIt_114 : decode cX10_minotaurIt 114 = .ok (.iload 4, 2) := by decide +kernel
theorem dX10_minotaurIt_116 : decode cX10_minotaurIt 116 = .ok (.ifCond .eq 7, 3) := by decide +kernel
theorem dX10_minotaurIt_119 : decode cX10_minotaurIt 119 = .ok (.iconst 1, 1) := by decide +kernel
theorem dX10_minotaurIt_120 : decode cX10_minotaurIt 120 = .ok (.goto 4, 3) := by decide +kernel
theorem dX10_minotaurIt_123 : decode cX10_minotaurIt 123 = .ok (.iconst 0, 1) := by decide +kernel
theorem dX10_minotaurIt_124 : decode cX10_minotaurIt 124 = .ok (.iadd, 1) := by decide +kernel
theorem dX10_minotaurIt_125 : decode cX10_minotaurIt 125 = .ok (.istore_n 2, 1) := by decide +kernel
theorem dX10_minotaurIt_126 : decode cX10_minotaurIt 126 = .ok (.iinc 3 1, 3) := by decide +kernel
theorem dX10_minotaurIt_129 : decode cX10_minotaurIt 129 = .ok (.goto (-80), 3) := by decide +kernel
theorem dX10_minotaurIt_132 : decode cX10_minotaurIt 132 = .ok (.iload_n 2, 1) := by decide +kernel
theorem dX10_minotaurIt_133 : decode cX10_minotaurIt 133 = .ok (.ireturn, 1) := by decide +kernel
set_option maxRecDepth 20000 in
theorem ggX10_minotaur_X10_starts : GoodIn wsX10_minotaur wsX10_starts := goodIn_ca (goodIn_r _ [5, 6, 7, 8, 42, 43, 44, 45, 46, 47, 48, 49, 50, 51, 52, 53, 54, 55, 56, 57, 58, 59, 60, 61, 62] (by decide +kernel) (by decide +kernel)) (goodIn_sub (fun _ h => List.mem_cons_of_mem _ (List.mem_append_right _ h)) (by decide +kernel))
set_option maxRecDepth 20000 in
theorem gX10_minotaur_X10_starts : GoodIn wsX10_minotaur (wsV RX10 100 RX10 yX10_starts wsX10_starts) := goodIn_app (goodIn_of _ (by decide +kernel)) ggX10_minotaur_X10_starts
set_option maxRecDepth 20000 in
theorem ggX10_minotaur_X10_minotaurIt : GoodIn wsX10_minotaur wsX10_minotaurIt := goodIn_ca (goodIn_r _ [12, 13, 14, 8, 15, 16, 4, 17, 18, 19, 20, 21, 22, 23, 24, 25, 26, 27, 28, 6, 29, 30, 31, 32, 33, 34, 35, 42, 43, 44, 45, 46, 47, 48, 49, 50, 51, 52, 53, 54, 55, 56, 57, 58, 59, 60, 61, 62] (by decide +kernel) (by decide +kernel)) (goodIn_sub (fun _ h => List.mem_cons_of_mem _ (List.mem_append_right _ h)) (by decide +kernel))
set_option maxRecDepth 20000 in
theorem gX10_minotaur_X10_minotaurIt : GoodIn wsX10_minotaur (wsV RX10 134 RX10 yX10_minotaurIt wsX10_minotaurIt) := goodIn_app (goodIn_of _ (by decide +kernel)) ggX10_minotaur_X10_minotaurIt
set_option maxRecDepth 20000 in
theorem ggX10_minotaur_X10_changed : GoodIn wsX10_minotaur wsX10_changed := goodIn_ca (goodIn_r _ [39, 6, 40, 41, 7, 42, 43, 44, 45, 46, 47, 48, 49, 50, 51, 52, 53, 54, 55, 56, 57, 58, 59, 60, 61, 62] (by decide +kernel) (by decide +kernel)) (goodIn_sub (fun _ h => List.mem_cons_of_mem _ (List.mem_append_right _ h)) (by decide +kernel))
set_option maxRecDepth 20000 in
theorem gX10_minotaur_X10_changed : GoodIn wsX10_minotaur (wsV RX10 107 RX10 yX10_changed wsX10_changed) := goodIn_app (goodIn_of _ (by decide +kernel)) ggX10_minotaur_X10_changed
theorem dX10_minotaur_0 : decode cX10_minotaur 0 = .ok (.aload_n 0, 1) := by decide +kernel
theorem dX10_minotaur_1 : decode cX10_minotaur 1 = .ok (.invokevirtual 100, 3) := by decide +kernel
theorem dX10_minotaur_4 : decode cX10_minotaur 4 = .ok (.aload_n 0, 1) := by decide +kernel
theorem dX10_minotaur_5 : decode cX10_minotaur 5 = .ok (.aload_n 0, 1) := by decide +kernel
theorem dX10_minotaur_6 : decode cX10_minotaur 6 = .ok (.iload_n 1, 1) := by decide +kernel
theorem dX10_minotaur_7 : decode cX10_minotaur 7 = .ok (.invokevirtual 134, 3) := by decide +kernel
theorem dX10_minotaur_10 : decode cX10_minotaur 10 = .ok (.invokevirtual 107, 3) := by decide +kernel
theorem dX10_minotaur_13 : decode cX10_minotaur 13 = .ok (.ireturn, 1) := by decide +kernel
set_option maxRecDepth 20000 in
theorem ggX10_gardenerIt_X10_in : GoodIn wsX10_gardenerIt wsX10_in := goodIn_r _ [6] (by decide +kernel) (by decide +kernel)
set_option maxRecDepth 20000 in
theorem gX10_gardenerIt_X10_in : GoodIn wsX10_gardenerIt (va_wsS RX10 59 yX10_in wsX10_in) := goodIn_app (goodIn_of _ (by decide +kernel)) ggX10_gardenerIt_X10_in
set_option maxRecDepth 20000 in
theorem ggX10_gardenerIt_X10_refuse : GoodIn wsX10_gardenerIt wsX10_refuse := goodIn_r _ [10, 11, 12, 13, 14, 15, 16, 5, 17, 18, 22, 23, 24, 25, 26, 27, 28, 29, 30, 31, 32, 33, 34, 35, 36, 37, 38, 39, 40, 41, 42] (by decide +kernel) (by decide +kernel)
set_option maxRecDepth 20000 in
theorem gX10_gardenerIt_X10_refuse : GoodIn wsX10_gardenerIt (wsV RX10 91 RX10 yX10_refuse wsX10_refuse) := goodIn_app (goodIn_of _ (by decide +kernel)) ggX10_gardenerIt_X10_refuse
set_option maxRecDepth 20000 in
theorem ggX10_gardenerIt_X10_gardenerAt : GoodIn wsX10_gardenerIt wsX10_gardenerAt := goodIn_r _ [21] (by decide +kernel) (by decide +kernel)
set_option maxRecDepth 20000 in
theorem gX10_gardenerIt_X10_gardenerAt : GoodIn wsX10_gardenerIt (va_wsS RX10 120 yX10_gardenerAt wsX10_gardenerAt) := goodIn_app (goodIn_of _ (by decide +kernel)) ggX10_gardenerIt_X10_gardenerAt
theorem dX10_gardenerIt_0 : decode cX10_gardenerIt 0 = .ok (.iload_n 1, 1) := by decide +kernel
theorem dX10_gardenerIt_1 : decode cX10_gardenerIt 1 = .ok (.i2l, 1) := by decide +kernel
theorem dX10_gardenerIt_2 : decode cX10_gardenerIt 2 = .ok (.lconst 0, 1) := by decide +kernel
theorem dX10_gardenerIt_3 : decode cX10_gardenerIt 3 = .ok (.ldc2_w 137, 3) := by decide +kernel
theorem dX10_gardenerIt_6 : decode cX10_gardenerIt 6 = .ok (.invokestatic 59, 3) := by decide +kernel
theorem dX10_gardenerIt_9 : decode cX10_gardenerIt 9 = .ok (.ifCond .ne 10, 3) := by decide +kernel
theorem dX10_gardenerIt_12 : decode cX10_gardenerIt 12 = .ok (.aload_n 0, 1) := by decide +kernel
theorem dX10_gardenerIt_13 : decode cX10_gardenerIt 13 = .ok (.iconst 1, 1) := by decide +kernel
theorem dX10_gardenerIt_14 : decode cX10_gardenerIt 14 = .ok (.iconst 0, 1) := by decide +kernel
theorem dX10_gardenerIt_15 : decode cX10_gardenerIt 15 = .ok (.invokevirtual 91, 3) := by decide +kernel
theorem dX10_gardenerIt_18 : decode cX10_gardenerIt 18 = .ok (.ireturn, 1) := by decide +kernel
theorem dX10_gardenerIt_19 : decode cX10_gardenerIt 19 = .ok (.aload_n 0, 1) := by decide +kernel
theorem dX10_gardenerIt_20 : decode cX10_gardenerIt 20 = .ok (.getfield 9, 3) := by decide +kernel
theorem dX10_gardenerIt_23 : decode cX10_gardenerIt 23 = .ok (.iconst 0, 1) := by decide +kernel
theorem dX10_gardenerIt_24 : decode cX10_gardenerIt 24 = .ok (.iaload, 1) := by decide +kernel
theorem dX10_gardenerIt_25 : decode cX10_gardenerIt 25 = .ok (.iconst 4, 1) := by decide +kernel
theorem dX10_gardenerIt_26 : decode cX10_gardenerIt 26 = .ok (.if_icmp .ne 11, 3) := by decide +kernel
theorem dX10_gardenerIt_29 : decode cX10_gardenerIt 29 = .ok (.aload_n 0, 1) := by decide +kernel
theorem dX10_gardenerIt_30 : decode cX10_gardenerIt 30 = .ok (.bipush 13, 2) := by decide +kernel
theorem dX10_gardenerIt_32 : decode cX10_gardenerIt 32 = .ok (.iconst 4, 1) := by decide +kernel
theorem dX10_gardenerIt_33 : decode cX10_gardenerIt 33 = .ok (.invokevirtual 91, 3) := by decide +kernel
theorem dX10_gardenerIt_36 : decode cX10_gardenerIt 36 = .ok (.ireturn, 1) := by decide +kernel
theorem dX10_gardenerIt_37 : decode cX10_gardenerIt 37 = .ok (.aload_n 0, 1) := by decide +kernel
theorem dX10_gardenerIt_38 : decode cX10_gardenerIt 38 = .ok (.getfield 9, 3) := by decide +kernel
theorem dX10_gardenerIt_41 : decode cX10_gardenerIt 41 = .ok (.aload_n 0, 1) := by decide +kernel
theorem dX10_gardenerIt_42 : decode cX10_gardenerIt 42 = .ok (.getfield 9, 3) := by decide +kernel
theorem dX10_gardenerIt_45 : decode cX10_gardenerIt 45 = .ok (.iconst 0, 1) := by decide +kernel
theorem dX10_gardenerIt_46 : decode cX10_gardenerIt 46 = .ok (.iaload, 1) := by decide +kernel
theorem dX10_gardenerIt_47 : decode cX10_gardenerIt 47 = .ok (.invokestatic 120, 3) := by decide +kernel
theorem dX10_gardenerIt_50 : decode cX10_gardenerIt 50 = .ok (.iload_n 1, 1) := by decide +kernel
theorem dX10_gardenerIt_51 : decode cX10_gardenerIt 51 = .ok (.iastore, 1) := by decide +kernel
theorem dX10_gardenerIt_52 : decode cX10_gardenerIt 52 = .ok (.aload_n 0, 1) := by decide +kernel
theorem dX10_gardenerIt_53 : decode cX10_gardenerIt 53 = .ok (.getfield 9, 3) := by decide +kernel
theorem dX10_gardenerIt_56 : decode cX10_gardenerIt 56 = .ok (.iconst 4, 1) := by decide +kernel
theorem dX10_gardenerIt_57 : decode cX10_gardenerIt 57 = .ok (.dup2, 1) := by decide +kernel
theorem dX10_gardenerIt_58 : decode cX10_gardenerIt 58 = .ok (.iaload, 1) := by decide +kernel
theorem dX10_gardenerIt_59 : decode cX10_gardenerIt 59 = .ok (.iload_n 1, 1) := by decide +kernel
theorem dX10_gardenerIt_60 : decode cX10_gardenerIt 60 = .ok (.iadd, 1) := by decide +kernel
theorem dX10_gardenerIt_61 : decode cX10_gardenerIt 61 = .ok (.iastore, 1) := by decide +kernel
theorem dX10_gardenerIt_62 : decode cX10_gardenerIt 62 = .ok (.aload_n 0, 1) := by decide +kernel
theorem dX10_gardenerIt_63 : decode cX10_gardenerIt 63 = .ok (.getfield 9, 3) := by decide +kernel
theorem dX10_gardenerIt_66 : decode cX10_gardenerIt 66 = .ok (.iconst 0, 1) := by decide +kernel
theorem dX10_gardenerIt_67 : decode cX10_gardenerIt 67 = .ok (.dup2, 1) := by decide +kernel
theorem dX10_gardenerIt_68 : decode cX10_gardenerIt 68 = .ok (.iaload, 1) := by decide +kernel
theorem dX10_gardenerIt_69 : decode cX10_gardenerIt 69 = .ok (.iconst 1, 1) := by decide +kernel
theorem dX10_gardenerIt_70 : decode cX10_gardenerIt 70 = .ok (.iadd, 1) := by decide +kernel
theorem dX10_gardenerIt_71 : decode cX10_gardenerIt 71 = .ok (.iastore, 1) := by decide +kernel
theorem dX10_gardenerIt_72 : decode cX10_gardenerIt 72 = .ok (.aload_n 0, 1) := by decide +kernel
theorem dX10_gardenerIt_73 : decode cX10_gardenerIt 73 = .ok (.getfield 9, 3) := by decide +kernel
theorem dX10_gardenerIt_76 : decode cX10_gardenerIt 76 = .ok (.iconst 0, 1) := by decide +kernel
theorem dX10_gardenerIt_77 : decode cX10_gardenerIt 77 = .ok (.iaload, 1) := by decide +kernel
theorem dX10_gardenerIt_78 : decode cX10_gardenerIt 78 = .ok (.iconst 1, 1) := by decide +kernel
theorem dX10_gardenerIt_79 : decode cX10_gardenerIt 79 = .ok (.isub, 1) := by decide +kernel
theorem dX10_gardenerIt_80 : decode cX10_gardenerIt 80 = .ok (.ireturn, 1) := by decide +kernel
set_option maxRecDepth 20000 in
theorem ggX10_gardener_X10_starts : GoodIn wsX10_gardener wsX10_starts := goodIn_ca (goodIn_r _ [5, 6, 7, 8, 37, 38, 39, 40, 41, 42, 43, 44, 45, 46, 47, 48, 49, 50, 51, 52, 53, 54, 55, 56, 57] (by decide +kernel) (by decide +kernel)) (goodIn_sub (fun _ h => List.mem_cons_of_mem _ (List.mem_append_right _ h)) (by decide +kernel))
set_option maxRecDepth 20000 in
theorem gX10_gardener_X10_starts : GoodIn wsX10_gardener (wsV RX10 100 RX10 yX10_starts wsX10_starts) := goodIn_app (goodIn_of _ (by decide +kernel)) ggX10_gardener_X10_starts
set_option maxRecDepth 20000 in
theorem ggX10_gardener_X10_gardenerIt : GoodIn wsX10_gardener wsX10_gardenerIt := goodIn_ca (goodIn_r _ [12, 13, 8, 14, 15, 4, 16, 17, 18, 19, 20, 21, 22, 23, 24, 25, 26, 27, 6, 28, 29, 30, 37, 38, 39, 40, 41, 42, 43, 44, 45, 46, 47, 48, 49, 50, 51, 52, 53, 54, 55, 56, 57] (by decide +kernel) (by decide +kernel)) (goodIn_sub (fun _ h => List.mem_cons_of_mem _ (List.mem_append_right _ h)) (by decide +kernel))
set_option maxRecDepth 20000 in
theorem gX10_gardener_X10_gardenerIt : GoodIn wsX10_gardener (wsV RX10 139 RX10 yX10_gardenerIt wsX10_gardenerIt) := goodIn_app (goodIn_of _ (by decide +kernel)) ggX10_gardener_X10_gardenerIt
set_option maxRecDepth 20000 in
theorem ggX10_gardener_X10_changed : GoodIn wsX10_gardener wsX10_changed := goodIn_ca (goodIn_r _ [34, 6, 35, 36, 7, 37, 38, 39, 40, 41, 42, 43, 44, 45, 46, 47, 48, 49, 50, 51, 52, 53, 54, 55, 56, 57] (by decide +kernel) (by decide +kernel)) (goodIn_sub (fun _ h => List.mem_cons_of_mem _ (List.mem_append_right _ h)) (by decide +kernel))
set_option maxRecDepth 20000 in
theorem gX10_gardener_X10_changed : GoodIn wsX10_gardener (wsV RX10 107 RX10 yX10_changed wsX10_changed) := goodIn_app (goodIn_of _ (by decide +kernel)) ggX10_gardener_X10_changed
theorem dX10_gardener_0 : decode cX10_gardener 0 = .ok (.aload_n 0, 1) := by decide +kernel
theorem dX10_gardener_1 : decode cX10_gardener 1 = .ok (.invokevirtual 100, 3) := by decide +kernel
theorem dX10_gardener_4 : decode cX10_gardener 4 = .ok (.aload_n 0, 1) := by decide +kernel
theorem dX10_gardener_5 : decode cX10_gardener 5 = .ok (.aload_n 0, 1) := by decide +kernel
theorem dX10_gardener_6 : decode cX10_gardener 6 = .ok (.iload_n 1, 1) := by decide +kernel
theorem dX10_gardener_7 : decode cX10_gardener 7 = .ok (.invokevirtual 139, 3) := by decide +kernel
theorem dX10_gardener_10 : decode cX10_gardener 10 = .ok (.invokevirtual 107, 3) := by decide +kernel
theorem dX10_gardener_13 : decode cX10_gardener 13 = .ok (.ireturn, 1) := by decide +kernel
set_option maxRecDepth 20000 in
theorem ggX10_visitorIt_X10_in : GoodIn wsX10_visitorIt wsX10_in := goodIn_r _ [6] (by decide +kernel) (by decide +kernel)
set_option maxRecDepth 20000 in
theorem gX10_visitorIt_X10_in : GoodIn wsX10_visitorIt (va_wsS RX10 59 yX10_in wsX10_in) := goodIn_app (goodIn_of _ (by decide +kernel)) ggX10_visitorIt_X10_in
set_option maxRecDepth 20000 in
theorem ggX10_visitorIt_X10_refuse : GoodIn wsX10_visitorIt wsX10_refuse := goodIn_r _ [10, 11, 12, 13, 14, 15, 16, 5, 17, 18, 56, 57, 58, 59, 60, 61, 62, 63, 64, 65, 66, 67, 68, 69, 70, 71, 72, 73, 74, 75, 76] (by decide +kernel) (by decide +kernel)
set_option maxRecDepth 20000 in
theorem gX10_visitorIt_X10_refuse : GoodIn wsX10_visitorIt (wsV RX10 91 RX10 yX10_refuse wsX10_refuse) := goodIn_app (goodIn_of _ (by decide +kernel)) ggX10_visitorIt_X10_refuse
set_option maxRecDepth 20000 in
theorem ggX10_visitorIt_X10_hoursOf : GoodIn wsX10_visitorIt wsX10_hoursOf := goodIn_ca (goodIn_r _ [22, 23, 24, 25, 26, 5, 27, 28, 29, 30, 31, 32, 33, 34, 35, 3, 4, 6, 36, 37, 38, 39, 40, 41, 42, 43, 44, 45, 2, 56, 57, 58, 59, 60, 61, 62, 63, 64, 65, 66, 67, 68, 69, 70, 71, 72, 73, 74, 75, 76] (by decide +kernel) (by decide +kernel)) (goodIn_sub (fun _ h => List.mem_cons_of_mem _ (List.mem_append_right _ h)) (by decide +kernel))
set_option maxRecDepth 20000 in
theorem gX10_visitorIt_X10_hoursOf : GoodIn wsX10_visitorIt (wsV RX10 142 RX10 yX10_hoursOf wsX10_hoursOf) := goodIn_app (goodIn_of _ (by decide +kernel)) ggX10_visitorIt_X10_hoursOf
set_option maxRecDepth 20000 in
theorem ggX10_visitorIt_X10_reachedFrom : GoodIn wsX10_visitorIt wsX10_reachedFrom := goodIn_ca (goodIn_r _ [49, 23, 24, 25, 26, 5, 27, 28, 29, 30, 31, 32, 33, 34, 35, 3, 4, 6, 36, 37, 38, 39, 40, 41, 42, 43, 44, 45, 2, 56, 57, 58, 59, 60, 61, 62, 63, 64, 65, 66, 67, 68, 69, 70, 71, 72, 73, 74, 75, 76] (by decide +kernel) (by decide +kernel)) (goodIn_sub (fun _ h => List.mem_cons_of_mem _ (List.mem_append_right _ h)) (by decide +kernel))
set_option maxRecDepth 20000 in
theorem gX10_visitorIt_X10_reachedFrom : GoodIn wsX10_visitorIt (wsV RX10 145 RX10 yX10_reachedFrom wsX10_reachedFrom) := goodIn_app (goodIn_of _ (by decide +kernel)) ggX10_visitorIt_X10_reachedFrom
set_option maxRecDepth 20000 in
theorem ggX10_visitorIt_X10_ones : GoodIn wsX10_visitorIt wsX10_ones := goodIn_r _ [52] (by decide +kernel) (by decide +kernel)
set_option maxRecDepth 20000 in
theorem gX10_visitorIt_X10_ones : GoodIn wsX10_visitorIt (va_wsS RX10 148 yX10_ones wsX10_ones) := goodIn_app (goodIn_of _ (by decide +kernel)) ggX10_visitorIt_X10_ones
set_option maxRecDepth 20000 in
theorem ggX10_visitorIt_X10_visitorAt : GoodIn wsX10_visitorIt wsX10_visitorAt := goodIn_r _ [55] (by decide +kernel) (by decide +kernel)
set_option maxRecDepth 20000 in
theorem gX10_visitorIt_X10_visitorAt : GoodIn wsX10_visitorIt (va_wsS RX10 126 yX10_visitorAt wsX10_visitorAt) := goodIn_app (goodIn_of _ (by decide +kernel)) ggX10_visitorIt_X10_visitorAt
theorem dX10_visitorIt_0 : decode cX10_visitorIt 0 = .ok (.iload_n 1, 1) := by decide +kernel
theorem dX10_visitorIt_1 : decode cX10_visitorIt 1 = .ok (.i2l, 1) := by decide +kernel
theorem dX10_visitorIt_2 : decode cX10_visitorIt 2 = .ok (.lconst 0, 1) := by decide +kernel
theorem dX10_visitorIt_3 : decode cX10_visitorIt 3 = .ok (.ldc2_w 137, 3) := by decide +kernel
theorem dX10_visitorIt_6 : decode cX10_visitorIt 6 = .ok (.invokestatic 59, 3) := by decide +kernel
theorem dX10_visitorIt_9 : decode cX10_visitorIt 9 = .ok (.ifCond .ne 10, 3) := by decide +kernel
theorem dX10_visitorIt_12 : decode cX10_visitorIt 12 = .ok (.aload_n 0, 1) := by decide +kernel
theorem dX10_visitorIt_13 : decode cX10_visitorIt 13 = .ok (.iconst 1, 1) := by decide +kernel
theorem dX10_visitorIt_14 : decode cX10_visitorIt 14 = .ok (.iconst 0, 1) := by decide +kernel
theorem dX10_visitorIt_15 : decode cX10_visitorIt 15 = .ok (.invokevirtual 91, 3) := by decide +kernel
theorem dX10_visitorIt_18 : decode cX10_visitorIt 18 = .ok (.ireturn, 1) := by decide +kernel
theorem dX10_visitorIt_19 : decode cX10_visitorIt 19 = .ok (.aload_n 0, 1) := by decide +kernel
theorem dX10_visitorIt_20 : decode cX10_visitorIt 20 = .ok (.getfield 9, 3) := by decide +kernel
theorem dX10_visitorIt_23 : decode cX10_visitorIt 23 = .ok (.iconst 1, 1) := by decide +kernel
theorem dX10_visitorIt_24 : decode cX10_visitorIt 24 = .ok (.iaload, 1) := by decide +kernel
theorem dX10_visitorIt_25 : decode cX10_visitorIt 25 = .ok (.iconst 5, 1) := by decide +kernel
theorem dX10_visitorIt_26 : decode cX10_visitorIt 26 = .ok (.if_icmp .ne 11, 3) := by decide +kernel
theorem dX10_visitorIt_29 : decode cX10_visitorIt 29 = .ok (.aload_n 0, 1) := by decide +kernel
theorem dX10_visitorIt_30 : decode cX10_visitorIt 30 = .ok (.bipush 13, 2) := by decide +kernel
theorem dX10_visitorIt_32 : decode cX10_visitorIt 32 = .ok (.iconst 5, 1) := by decide +kernel
theorem dX10_visitorIt_33 : decode cX10_visitorIt 33 = .ok (.invokevirtual 91, 3) := by decide +kernel
theorem dX10_visitorIt_36 : decode cX10_visitorIt 36 = .ok (.ireturn, 1) := by decide +kernel
theorem dX10_visitorIt_37 : decode cX10_visitorIt 37 = .ok (.aload_n 0, 1) := by decide +kernel
theorem dX10_visitorIt_38 : decode cX10_visitorIt 38 = .ok (.iconst 0, 1) := by decide +kernel
theorem dX10_visitorIt_39 : decode cX10_visitorIt 39 = .ok (.bipush 15, 2) := by decide +kernel
theorem dX10_visitorIt_41 : decode cX10_visitorIt 41 = .ok (.invokevirtual 142, 3) := by decide +kernel
theorem dX10_visitorIt_44 : decode cX10_visitorIt 44 = .ok (.istore_n 2, 1) := by decide +kernel
theorem dX10_visitorIt_45 : decode cX10_visitorIt 45 = .ok (.iload_n 2, 1) := by decide +kernel
theorem dX10_visitorIt_46 : decode cX10_visitorIt 46 = .ok (.iconst (-1), 1) := by decide +kernel
theorem dX10_visitorIt_47 : decode cX10_visitorIt 47 = .ok (.if_icmp .ne 18, 3) := by decide +kernel
theorem dX10_visitorIt_50 : decode cX10_visitorIt 50 = .ok (.aload_n 0, 1) := by decide +kernel
theorem dX10_visitorIt_51 : decode cX10_visitorIt 51 = .ok (.bipush 6, 2) := by decide +kernel
theorem dX10_visitorIt_53 : decode cX10_visitorIt 53 = .ok (.aload_n 0, 1) := by decide +kernel
theorem dX10_visitorIt_54 : decode cX10_visitorIt 54 = .ok (.iconst 0, 1) := by decide +kernel
theorem dX10_visitorIt_55 : decode cX10_visitorIt 55 = .ok (.invokevirtual 145, 3) := by decide +kernel
theorem dX10_visitorIt_58 : decode cX10_visitorIt 58 = .ok (.invokestatic 148, 3) := by decide +kernel
theorem dX10_visitorIt_61 : decode cX10_visitorIt 61 = .ok (.invokevirtual 91, 3) := by decide +kernel
theorem dX10_visitorIt_64 : decode cX10_visitorIt 64 = .ok (.ireturn, 1) := by decide +kernel
theorem dX10_visitorIt_65 : decode cX10_visitorIt 65 = .ok (.aload_n 0, 1) := by decide +kernel
theorem dX10_visitorIt_66 : decode cX10_visitorIt 66 = .ok (.getfield 9, 3) := by decide +kernel
theorem dX10_visitorIt_69 : decode cX10_visitorIt 69 = .ok (.iconst 1, 1) := by decide +kernel
theorem dX10_visitorIt_70 : decode cX10_visitorIt 70 = .ok (.iaload, 1) := by decide +kernel
theorem dX10_visitorIt_71 : decode cX10_visitorIt 71 = .ok (.invokestatic 126, 3) := by decide +kernel
theorem dX10_visitorIt_74 : decode cX10_visitorIt 74 = .ok (.istore_n 3, 1) := by decide +kernel
theorem dX10_visitorIt_75 : decode cX10_visitorIt 75 = .ok (.aload_n 0, 1) := by decide +kernel
theorem dX10_visitorIt_76 : decode cX10_visitorIt 76 = .ok (.getfield 9, 3) := by decide +kernel
theorem dX10_visitorIt_79 : decode cX10_visitorIt 79 = .ok (.iload_n 3, 1) := by decide +kernel
theorem dX10_visitorIt_80 : decode cX10_visitorIt 80 = .ok (.iload_n 1, 1) := by decide +kernel
theorem dX10_visitorIt_81 : decode cX10_visitorIt 81 = .ok (.iastore, 1) := by decide +kernel
theorem dX10_visitorIt_82 : decode cX10_visitorIt 82 = .ok (.aload_n 0, 1) := by decide +kernel
theorem dX10_visitorIt_83 : decode cX10_visitorIt 83 = .ok (.getfield 9, 3) := by decide +kernel
theorem dX10_visitorIt_86 : decode cX10_visitorIt 86 = .ok (.iload_n 3, 1) := by decide +kernel
theorem dX10_visitorIt_87 : decode cX10_visitorIt 87 = .ok (.iconst 3, 1) := by decide +kernel
theorem dX10_visitorIt_88 : decode cX10_visitorIt 88 = .ok (.iadd, 1) := by decide +kernel
theorem dX10_visitorIt_89 : decode cX10_visitorIt 89 = .ok (.iload_n 2, 1) := by decide +kernel
theorem dX10_visitorIt_90 : decode cX10_visitorIt 90 = .ok (.iastore, 1) := by decide +kernel
theorem dX10_visitorIt_91 : decode cX10_visitorIt 91 = .ok (.aload_n 0, 1) := by decide +kernel
theorem dX10_visitorIt_92 : decode cX10_visitorIt 92 = .ok (.getfield 9, 3) := by decide +kernel
theorem dX10_visitorIt_95 : decode cX10_visitorIt 95 = .ok (.iload_n 3, 1) := by decide +kernel
theorem dX10_visitorIt_96 : decode cX10_visitorIt 96 = .ok (.iconst 4, 1) := by decide +kernel
theorem dX10_visitorIt_97 : decode cX10_visitorIt 97 = .ok (.iadd, 1) := by decide +kernel
theorem dX10_visitorIt_98 : decode cX10_visitorIt 98 = .ok (.iconst (-1), 1) := by decide +kernel
theorem dX10_visitorIt_99 : decode cX10_visitorIt 99 = .ok (.iastore, 1) := by decide +kernel
theorem dX10_visitorIt_100 : decode cX10_visitorIt 100 = .ok (.aload_n 0, 1) := by decide +kernel
theorem dX10_visitorIt_101 : decode cX10_visitorIt 101 = .ok (.getfield 9, 3) := by decide +kernel
theorem dX10_visitorIt_104 : decode cX10_visitorIt 104 = .ok (.iconst 4, 1) := by decide +kernel
theorem dX10_visitorIt_105 : decode cX10_visitorIt 105 = .ok (.dup2, 1) := by decide +kernel
theorem dX10_visitorIt_106 : decode cX10_visitorIt 106 = .ok (.iaload, 1) := by decide +kernel
theorem dX10_visitorIt_107 : decode cX10_visitorIt 107 = .ok (.iload_n 1, 1) := by decide +kernel
theorem dX10_visitorIt_108 : decode cX10_visitorIt 108 = .ok (.iadd, 1) := by decide +kernel
theorem dX10_visitorIt_109 : decode cX10_visitorIt 109 = .ok (.iastore, 1) := by decide +kernel
theorem dX10_visitorIt_110 : decode cX10_visitorIt 110 = .ok (.aload_n 0, 1) := by decide +kernel
theorem dX10_visitorIt_111 : decode cX10_visitorIt 111 = .ok (.getfield 9, 3) := by decide +kernel
theorem dX10_visitorIt_114 : decode cX10_visitorIt 114 = .ok (.iconst 1, 1) := by decide +kernel
theorem dX10_visitorIt_115 : decode cX10_visitorIt 115 = .ok (.dup2, 1) := by decide +kernel
theorem dX10_visitorIt_116 : decode cX10_visitorIt 116 = .ok (.iaload, 1) := by decide +kernel
theorem dX10_visitorIt_117 : decode cX10_visitorIt 117 = .ok (.iconst 1, 1) := by decide +kernel
theorem dX10_visitorIt_118 : decode cX10_visitorIt 118 = .ok (.iadd, 1) := by decide +kernel
theorem dX10_visitorIt_119 : decode cX10_visitorIt 119 = .ok (.iastore, 1) := by decide +kernel
theorem dX10_visitorIt_120 : decode cX10_visitorIt 120 = .ok (.aload_n 0, 1) := by decide +kernel
theorem dX10_visitorIt_121 : decode cX10_visitorIt 121 = .ok (.getfield 9, 3) := by decide +kernel
theorem dX10_visitorIt_124 : decode cX10_visitorIt 124 = .ok (.iconst 1, 1) := by decide +kernel
theorem dX10_visitorIt_125 : decode cX10_visitorIt 125 = .ok (.iaload, 1) := by decide +kernel
theorem dX10_visitorIt_126 : decode cX10_visitorIt 126 = .ok (.iconst 1, 1) := by decide +kernel
theorem dX10_visitorIt_127 : decode cX10_visitorIt 127 = .ok (.isub, 1) := by decide +kernel
theorem dX10_visitorIt_128 : decode cX10_visitorIt 128 = .ok (.ireturn, 1) := by decide +kernel
set_option maxRecDepth 20000 in
theorem ggX10_visitor_X10_starts : GoodIn wsX10_visitor wsX10_starts := goodIn_ca (goodIn_r _ [5, 6, 7, 8, 71, 72, 73, 74, 75, 76, 77, 78, 79, 80, 81, 82, 83, 84, 85, 86, 87, 88, 89, 90, 91] (by decide +kernel) (by decide +kernel)) (goodIn_sub (fun _ h => List.mem_cons_of_mem _ (List.mem_append_right _ h)) (by decide +kernel))
set_option maxRecDepth 20000 in
theorem gX10_visitor_X10_starts : GoodIn wsX10_visitor (wsV RX10 100 RX10 yX10_starts wsX10_starts) := goodIn_app (goodIn_of _ (by decide +kernel)) ggX10_visitor_X10_starts
set_option maxRecDepth 20000 in
theorem ggX10_visitor_X10_visitorIt : GoodIn wsX10_visitor wsX10_visitorIt := goodIn_ca (goodIn_r _ [12, 13, 8, 14, 15, 4, 16, 17, 18, 19, 20, 21, 22, 23, 24, 25, 26, 27, 6, 28, 29, 30, 31, 32, 33, 34, 35, 36, 37, 38, 39, 40, 41, 42, 43, 44, 45, 46, 47, 48, 49, 50, 51, 52, 53, 54, 55, 56, 57, 58, 59, 60, 61, 62, 63, 64, 71, 72, 73, 74, 75, 76, 77, 78, 79, 80, 81, 82, 83, 84, 85, 86, 87, 88, 89, 90, 91] (by decide +kernel) (by decide +kernel)) (goodIn_sub (fun _ h => List.mem_cons_of_mem _ (List.mem_append_right _ h)) (by decide +kernel))
set_option maxRecDepth 20000 in
theorem gX10_visitor_X10_visitorIt : GoodIn wsX10_visitor (wsV RX10 151 RX10 yX10_visitorIt wsX10_visitorIt) := goodIn_app (goodIn_of _ (by decide +kernel)) ggX10_visitor_X10_visitorIt
set_option maxRecDepth 20000 in
theorem ggX10_visitor_X10_changed : GoodIn wsX10_visitor wsX10_changed := goodIn_ca (goodIn_r _ [68, 6, 69, 70, 7, 71, 72, 73, 74, 75, 76, 77, 78, 79, 80, 81, 82, 83, 84, 85, 86, 87, 88, 89, 90, 91] (by decide +kernel) (by decide +kernel)) (goodIn_sub (fun _ h => List.mem_cons_of_mem _ (List.mem_append_right _ h)) (by decide +kernel))
set_option maxRecDepth 20000 in
theorem gX10_visitor_X10_changed : GoodIn wsX10_visitor (wsV RX10 107 RX10 yX10_changed wsX10_changed) := goodIn_app (goodIn_of _ (by decide +kernel)) ggX10_visitor_X10_changed
theorem dX10_visitor_0 : decode cX10_visitor 0 = .ok (.aload_n 0, 1) := by decide +kernel
theorem dX10_visitor_1 : decode cX10_visitor 1 = .ok (.invokevirtual 100, 3) := by decide +kernel
theorem dX10_visitor_4 : decode cX10_visitor 4 = .ok (.aload_n 0, 1) := by decide +kernel
theorem dX10_visitor_5 : decode cX10_visitor 5 = .ok (.aload_n 0, 1) := by decide +kernel
theorem dX10_visitor_6 : decode cX10_visitor 6 = .ok (.iload_n 1, 1) := by decide +kernel
theorem dX10_visitor_7 : decode cX10_visitor 7 = .ok (.invokevirtual 151, 3) := by decide +kernel
theorem dX10_visitor_10 : decode cX10_visitor 10 = .ok (.invokevirtual 107, 3) := by decide +kernel
theorem dX10_visitor_13 : decode cX10_visitor 13 = .ok (.ireturn, 1) := by decide +kernel
set_option maxRecDepth 20000 in
theorem ggX10_bondIt_X10_isGardener : GoodIn wsX10_bondIt wsX10_isGardener := goodIn_ca (goodIn_r _ [7, 1, 8, 9, 6, 10, 37, 38, 39, 40, 41, 42, 43, 44, 45, 46, 47, 48, 49, 50, 51, 52, 53, 54, 55, 56, 57] (by decide +kernel) (by decide +kernel)) (goodIn_sub (fun _ h => List.mem_cons_of_mem _ (List.mem_append_right _ h)) (by decide +kernel))
set_option maxRecDepth 20000 in
theorem gX10_bondIt_X10_isGardener : GoodIn wsX10_bondIt (wsV RX10 117 RX10 yX10_isGardener wsX10_isGardener) := goodIn_app (goodIn_of _ (by decide +kernel)) ggX10_bondIt_X10_isGardener
set_option maxRecDepth 20000 in
theorem ggX10_bondIt_X10_refuse : GoodIn wsX10_bondIt wsX10_refuse := goodIn_r _ [14, 15, 16, 17, 18, 19, 20, 6, 21, 22, 37, 38, 39, 40, 41, 42, 43, 44, 45, 46, 47, 48, 49, 50, 51, 52, 53, 54, 55, 56, 57] (by decide +kernel) (by decide +kernel)
set_option maxRecDepth 20000 in
theorem gX10_bondIt_X10_refuse : GoodIn wsX10_bondIt (wsV RX10 91 RX10 yX10_refuse wsX10_refuse) := goodIn_app (goodIn_of _ (by decide +kernel)) ggX10_bondIt_X10_refuse
set_option maxRecDepth 20000 in
theorem ggX10_bondIt_X10_isVisitor : GoodIn wsX10_bondIt wsX10_isVisitor := goodIn_ca (goodIn_r _ [26, 1, 8, 9, 6, 10, 37, 38, 39, 40, 41, 42, 43, 44, 45, 46, 47, 48, 49, 50, 51, 52, 53, 54, 55, 56, 57] (by decide +kernel) (by decide +kernel)) (goodIn_sub (fun _ h => List.mem_cons_of_mem _ (List.mem_append_right _ h)) (by decide +kernel))
set_option maxRecDepth 20000 in
theorem gX10_bondIt_X10_isVisitor : GoodIn wsX10_bondIt (wsV RX10 154 RX10 yX10_isVisitor wsX10_isVisitor) := goodIn_app (goodIn_of _ (by decide +kernel)) ggX10_bondIt_X10_isVisitor
set_option maxRecDepth 20000 in
theorem ggX10_bondIt_X10_in : GoodIn wsX10_bondIt wsX10_in := goodIn_r _ [10] (by decide +kernel) (by decide +kernel)
set_option maxRecDepth 20000 in
theorem gX10_bondIt_X10_in : GoodIn wsX10_bondIt (va_wsS RX10 59 yX10_in wsX10_in) := goodIn_app (goodIn_of _ (by decide +kernel)) ggX10_bondIt_X10_in
set_option maxRecDepth 20000 in
theorem ggX10_bondIt_X10_visitorAt : GoodIn wsX10_bondIt wsX10_visitorAt := goodIn_r _ [29] (by decide +kernel) (by decide +kernel)
set_option maxRecDepth 20000 in
theorem gX10_bondIt_X10_visitorAt : GoodIn wsX10_bondIt (va_wsS RX10 126 yX10_visitorAt wsX10_visitorAt) := goodIn_app (goodIn_of _ (by decide +kernel)) ggX10_bondIt_X10_visitorAt
set_option maxRecDepth 20000 in
theorem ggX10_bondIt_X10_meets : GoodIn wsX10_bondIt wsX10_meets := goodIn_ca (goodIn_r _ [33, 1, 27, 28, 6, 29, 37, 38, 39, 40, 41, 42, 43, 44, 45, 46, 47, 48, 49, 50, 51, 52, 53, 54, 55, 56, 57] (by decide +kernel) (by decide +kernel)) (goodIn_sub (fun _ h => List.mem_cons_of_mem _ (List.mem_append_right _ h)) (by decide +kernel))
set_option maxRecDepth 20000 in
theorem gX10_bondIt_X10_meets : GoodIn wsX10_bondIt (wsV RX10 131 RX10 yX10_meets wsX10_meets) := goodIn_app (goodIn_of _ (by decide +kernel)) ggX10_bondIt_X10_meets
set_option maxRecDepth 20000 in
theorem ggX10_bondIt_X10_gardenerAt : GoodIn wsX10_bondIt wsX10_gardenerAt := goodIn_r _ [36] (by decide +kernel) (by decide +kernel)
set_option maxRecDepth 20000 in
theorem gX10_bondIt_X10_gardenerAt : GoodIn wsX10_bondIt (va_wsS RX10 120 yX10_gardenerAt wsX10_gardenerAt) := goodIn_app (goodIn_of _ (by decide +kernel)) ggX10_bondIt_X10_gardenerAt
theorem dX10_bondIt_0 : decode cX10_bondIt 0 = .ok (.aload_n 0, 1) := by decide +kernel
theorem dX10_bondIt_1 : decode cX10_bondIt 1 = .ok (.iload_n 1, 1) := by decide +kernel
theorem dX10_bondIt_2 : decode cX10_bondIt 2 = .ok (.invokevirtual 117, 3) := by decide +kernel
theorem dX10_bondIt_5 : decode cX10_bondIt 5 = .ok (.ifCond .ne 15, 3) := by decide +kernel
theorem dX10_bondIt_8 : decode cX10_bondIt 8 = .ok (.aload_n 0, 1) := by decide +kernel
theorem dX10_bondIt_9 : decode cX10_bondIt 9 = .ok (.iconst 4, 1) := by decide +kernel
theorem dX10_bondIt_10 : decode cX10_bondIt 10 = .ok (.aload_n 0, 1) := by decide +kernel
theorem dX10_bondIt_11 : decode cX10_bondIt 11 = .ok (.getfield 9, 3) := by decide +kernel
theorem dX10_bondIt_14 : decode cX10_bondIt 14 = .ok (.iconst 0, 1) := by decide +kernel
theorem dX10_bondIt_15 : decode cX10_bondIt 15 = .ok (.iaload, 1) := by decide +kernel
theorem dX10_bondIt_16 : decode cX10_bondIt 16 = .ok (.invokevirtual 91, 3) := by decide +kernel
theorem dX10_bondIt_19 : decode cX10_bondIt 19 = .ok (.ireturn, 1) := by decide +kernel
theorem dX10_bondIt_20 : decode cX10_bondIt 20 = .ok (.aload_n 0, 1) := by decide +kernel
theorem dX10_bondIt_21 : decode cX10_bondIt 21 = .ok (.iload_n 2, 1) := by decide +kernel
theorem dX10_bondIt_22 : decode cX10_bondIt 22 = .ok (.invokevirtual 154, 3) := by decide +kernel
theorem dX10_bondIt_25 : decode cX10_bondIt 25 = .ok (.ifCond .ne 16, 3) := by decide +kernel
theorem dX10_bondIt_28 : decode cX10_bondIt 28 = .ok (.aload_n 0, 1) := by decide +kernel
theorem dX10_bondIt_29 : decode cX10_bondIt 29 = .ok (.bipush 7, 2) := by decide +kernel
theorem dX10_bondIt_31 : decode cX10_bondIt 31 = .ok (.aload_n 0, 1) := by decide +kernel
theorem dX10_bondIt_32 : decode cX10_bondIt 32 = .ok (.getfield 9, 3) := by decide +kernel
theorem dX10_bondIt_35 : decode cX10_bondIt 35 = .ok (.iconst 1, 1) := by decide +kernel
theorem dX10_bondIt_36 : decode cX10_bondIt 36 = .ok (.iaload, 1) := by decide +kernel
theorem dX10_bondIt_37 : decode cX10_bondIt 37 = .ok (.invokevirtual 91, 3) := by decide +kernel
theorem dX10_bondIt_40 : decode cX10_bondIt 40 = .ok (.ireturn, 1) := by decide +kernel
theorem dX10_bondIt_41 : decode cX10_bondIt 41 = .ok (.iload_n 3, 1) := by decide +kernel
theorem dX10_bondIt_42 : decode cX10_bondIt 42 = .ok (.i2l, 1) := by decide +kernel
theorem dX10_bondIt_43 : decode cX10_bondIt 43 = .ok (.lconst 1, 1) := by decide +kernel
theorem dX10_bondIt_44 : decode cX10_bondIt 44 = .ok (.ldc2_w 157, 3) := by decide +kernel
theorem dX10_bondIt_47 : decode cX10_bondIt 47 = .ok (.invokestatic 59, 3) := by decide +kernel
theorem dX10_bondIt_50 : decode cX10_bondIt 50 = .ok (.ifCond .ne 10, 3) := by decide +kernel
theorem dX10_bondIt_53 : decode cX10_bondIt 53 = .ok (.aload_n 0, 1) := by decide +kernel
theorem dX10_bondIt_54 : decode cX10_bondIt 54 = .ok (.iconst 1, 1) := by decide +kernel
theorem dX10_bondIt_55 : decode cX10_bondIt 55 = .ok (.iconst 0, 1) := by decide +kernel
theorem dX10_bondIt_56 : decode cX10_bondIt 56 = .ok (.invokevirtual 91, 3) := by decide +kernel
theorem dX10_bondIt_59 : decode cX10_bondIt 59 = .ok (.ireturn, 1) := by decide +kernel
theorem dX10_bondIt_60 : decode cX10_bondIt 60 = .ok (.iload_n 2, 1) := by decide +kernel
theorem dX10_bondIt_61 : decode cX10_bondIt 61 = .ok (.invokestatic 126, 3) := by decide +kernel
theorem dX10_bondIt_64 : decode cX10_bondIt 64 = .ok (.istore 4, 2) := by decide +kernel
theorem dX10_bondIt_66 : decode cX10_bondIt 66 = .ok (.aload_n 0, 1) := by decide +kernel
theorem dX10_bondIt_67 : decode cX10_bondIt 67 = .ok (.getfield 9, 3) := by decide +kernel
theorem dX10_bondIt_70 : decode cX10_bondIt 70 = .ok (.iload 4, 2) := by decide +kernel
theorem dX10_bondIt_72 : decode cX10_bondIt 72 = .ok (.bipush 7, 2) := by decide +kernel
theorem dX10_bondIt_74 : decode cX10_bondIt 74 = .ok (.iadd, 1) := by decide +kernel
theorem dX10_bondIt_75 : decode cX10_bondIt 75 = .ok (.iaload, 1) := by decide +kernel
theorem dX10_bondIt_76 : decode cX10_bondIt 76 = .ok (.iconst 1, 1) := by decide +kernel
theorem dX10_bondIt_77 : decode cX10_bondIt 77 = .ok (.if_icmp .ne 19, 3) := by decide +kernel
theorem dX10_bondIt_80 : decode cX10_bondIt 80 = .ok (.aload_n 0, 1) := by decide +kernel
theorem dX10_bondIt_81 : decode cX10_bondIt 81 = .ok (.bipush 9, 2) := by decide +kernel
theorem dX10_bondIt_83 : decode cX10_bondIt 83 = .ok (.aload_n 0, 1) := by decide +kernel
theorem dX10_bondIt_84 : decode cX10_bondIt 84 = .ok (.getfield 9, 3) := by decide +kernel
theorem dX10_bondIt_87 : decode cX10_bondIt 87 = .ok (.iload 4, 2) := by decide +kernel
theorem dX10_bondIt_89 : decode cX10_bondIt 89 = .ok (.iconst 2, 1) := by decide +kernel
theorem dX10_bondIt_90 : decode cX10_bondIt 90 = .ok (.iadd, 1) := by decide +kernel
theorem dX10_bondIt_91 : decode cX10_bondIt 91 = .ok (.iaload, 1) := by decide +kernel
theorem dX10_bondIt_92 : decode cX10_bondIt 92 = .ok (.invokevirtual 91, 3) := by decide +kernel
theorem dX10_bondIt_95 : decode cX10_bondIt 95 = .ok (.ireturn, 1) := by decide +kernel
theorem dX10_bondIt_96 : decode cX10_bondIt 96 = .ok (.aload_n 0, 1) := by decide +kernel
theorem dX10_bondIt_97 : decode cX10_bondIt 97 = .ok (.getfield 9, 3) := by decide +kernel
theorem dX10_bondIt_100 : decode cX10_bondIt 100 = .ok (.iload 4, 2) := by decide +kernel
theorem dX10_bondIt_102 : decode cX10_bondIt 102 = .ok (.iconst 4, 1) := by decide +kernel
theorem dX10_bondIt_103 : decode cX10_bondIt 103 = .ok (.iadd, 1) := by decide +kernel
theorem dX10_bondIt_104 : decode cX10_bondIt 104 = .ok (.iaload, 1) := by decide +kernel
theorem dX10_bondIt_105 : decode cX10_bondIt 105 = .ok (.iconst (-1), 1) := by decide +kernel
theorem dX10_bondIt_106 : decode cX10_bondIt 106 = .ok (.if_icmp .eq 19, 3) := by decide +kernel
theorem dX10_bondIt_109 : decode cX10_bondIt 109 = .ok (.aload_n 0, 1) := by decide +kernel
theorem dX10_bondIt_110 : decode cX10_bondIt 110 = .ok (.bipush 8, 2) := by decide +kernel
theorem dX10_bondIt_112 : decode cX10_bondIt 112 = .ok (.aload_n 0, 1) := by decide +kernel
theorem dX10_bondIt_113 : decode cX10_bondIt 113 = .ok (.getfield 9, 3) := by decide +kernel
theorem dX10_bondIt_116 : decode cX10_bondIt 116 = .ok (.iload 4, 2) := by decide +kernel
theorem dX10_bondIt_118 : decode cX10_bondIt 118 = .ok (.iconst 4, 1) := by decide +kernel
theorem dX10_bondIt_119 : decode cX10_bondIt 119 = .ok (.iadd, 1) := by decide +kernel
theorem dX10_bondIt_120 : decode cX10_bondIt 120 = .ok (.iaload, 1) := by decide +kernel
theorem dX10_bondIt_121 : decode cX10_bondIt 121 = .ok (.invokevirtual 91, 3) := by decide +kernel
theorem dX10_bondIt_124 : decode cX10_bondIt 124 = .ok (.ireturn, 1) := by decide +kernel
theorem dX10_bondIt_125 : decode cX10_bondIt 125 = .ok (.aload_n 0, 1) := by decide +kernel
theorem dX10_bondIt_126 : decode cX10_bondIt 126 = .ok (.iload_n 2, 1) := by decide +kernel
theorem dX10_bondIt_127 : decode cX10_bondIt 127 = .ok (.invokevirtual 131, 3) := by decide +kernel
theorem dX10_bondIt_130 : decode cX10_bondIt 130 = .ok (.ifCond .eq 16, 3) := by decide +kernel
theorem dX10_bondIt_133 : decode cX10_bondIt 133 = .ok (.aload_n 0, 1) := by decide +kernel
theorem dX10_bondIt_134 : decode cX10_bondIt 134 = .ok (.bipush 10, 2) := by decide +kernel
theorem dX10_bondIt_136 : decode cX10_bondIt 136 = .ok (.aload_n 0, 1) := by decide +kernel
theorem dX10_bondIt_137 : decode cX10_bondIt 137 = .ok (.getfield 9, 3) := by decide +kernel
theorem dX10_bondIt_140 : decode cX10_bondIt 140 = .ok (.iconst 2, 1) := by decide +kernel
theorem dX10_bondIt_141 : decode cX10_bondIt 141 = .ok (.iaload, 1) := by decide +kernel
theorem dX10_bondIt_142 : decode cX10_bondIt 142 = .ok (.invokevirtual 91, 3) := by decide +kernel
theorem dX10_bondIt_145 : decode cX10_bondIt 145 = .ok (.ireturn, 1) := by decide +kernel
theorem dX10_bondIt_146 : decode cX10_bondIt 146 = .ok (.aload_n 0, 1) := by decide +kernel
theorem dX10_bondIt_147 : decode cX10_bondIt 147 = .ok (.getfield 9, 3) := by decide +kernel
theorem dX10_bondIt_150 : decode cX10_bondIt 150 = .ok (.iload 4, 2) := by decide +kernel
theorem dX10_bondIt_152 : decode cX10_bondIt 152 = .ok (.iaload, 1) := by decide +kernel
theorem dX10_bondIt_153 : decode cX10_bondIt 153 = .ok (.iconst 2, 1) := by decide +kernel
theorem dX10_bondIt_154 : decode cX10_bondIt 154 = .ok (.iload_n 3, 1) := by decide +kernel
theorem dX10_bondIt_155 : decode cX10_bondIt 155 = .ok (.imul, 1) := by decide +kernel
theorem dX10_bondIt_156 : decode cX10_bondIt 156 = .ok (.if_icmp .ge 20, 3) := by decide +kernel
theorem dX10_bondIt_159 : decode cX10_bondIt 159 = .ok (.aload_n 0, 1) := by decide +kernel
theorem dX10_bondIt_160 : decode cX10_bondIt 160 = .ok (.iconst 5, 1) := by decide +kernel
theorem dX10_bondIt_161 : decode cX10_bondIt 161 = .ok (.iconst 2, 1) := by decide +kernel
theorem dX10_bondIt_162 : decode cX10_bondIt 162 = .ok (.iload_n 3, 1) := by decide +kernel
theorem dX10_bondIt_163 : decode cX10_bondIt 163 = .ok (.imul, 1) := by decide +kernel
theorem dX10_bondIt_164 : decode cX10_bondIt 164 = .ok (.aload_n 0, 1) := by decide +kernel
theorem dX10_bondIt_165 : decode cX10_bondIt 165 = .ok (.getfield 9, 3) := by decide +kernel
theorem dX10_bondIt_168 : decode cX10_bondIt 168 = .ok (.iload 4, 2) := by decide +kernel
theorem dX10_bondIt_170 : decode cX10_bondIt 170 = .ok (.iaload, 1) := by decide +kernel
theorem dX10_bondIt_171 : decode cX10_bondIt 171 = .ok (.isub, 1) := by decide +kernel
theorem dX10_bondIt_172 : decode cX10_bondIt 172 = .ok (.invokevirtual 91, 3) := by decide +kernel
theorem dX10_bondIt_175 : decode cX10_bondIt 175 = .ok (.ireturn, 1) := by decide +kernel
theorem dX10_bondIt_176 : decode cX10_bondIt 176 = .ok (.aload_n 0, 1) := by decide +kernel
theorem dX10_bondIt_177 : decode cX10_bondIt 177 = .ok (.getfield 9, 3) := by decide +kernel
theorem dX10_bondIt_180 : decode cX10_bondIt 180 = .ok (.iload 4, 2) := by decide +kernel
theorem dX10_bondIt_182 : decode cX10_bondIt 182 = .ok (.dup2, 1) := by decide +kernel
theorem dX10_bondIt_183 : decode cX10_bondIt 183 = .ok (.iaload, 1) := by decide +kernel
theorem dX10_bondIt_184 : decode cX10_bondIt 184 = .ok (.iconst 2, 1) := by decide +kernel
theorem dX10_bondIt_185 : decode cX10_bondIt 185 = .ok (.iload_n 3, 1) := by decide +kernel
theorem dX10_bondIt_186 : decode cX10_bondIt 186 = .ok (.imul, 1) := by decide +kernel
theorem dX10_bondIt_187 : decode cX10_bondIt 187 = .ok (.isub, 1) := by decide +kernel
theorem dX10_bondIt_188 : decode cX10_bondIt 188 = .ok (.iastore, 1) := by decide +kernel
theorem dX10_bondIt_189 : decode cX10_bondIt 189 = .ok (.aload_n 0, 1) := by decide +kernel
theorem dX10_bondIt_190 : decode cX10_bondIt 190 = .ok (.getfield 9, 3) := by decide +kernel
theorem dX10_bondIt_193 : decode cX10_bondIt 193 = .ok (.iload 4, 2) := by decide +kernel
theorem dX10_bondIt_195 : decode cX10_bondIt 195 = .ok (.iconst 4, 1) := by decide +kernel
theorem dX10_bondIt_196 : decode cX10_bondIt 196 = .ok (.iadd, 1) := by decide +kernel
theorem dX10_bondIt_197 : decode cX10_bondIt 197 = .ok (.iload_n 1, 1) := by decide +kernel
theorem dX10_bondIt_198 : decode cX10_bondIt 198 = .ok (.iastore, 1) := by decide +kernel
theorem dX10_bondIt_199 : decode cX10_bondIt 199 = .ok (.aload_n 0, 1) := by decide +kernel
theorem dX10_bondIt_200 : decode cX10_bondIt 200 = .ok (.getfield 9, 3) := by decide +kernel
theorem dX10_bondIt_203 : decode cX10_bondIt 203 = .ok (.iload 4, 2) := by decide +kernel
theorem dX10_bondIt_205 : decode cX10_bondIt 205 = .ok (.iconst 5, 1) := by decide +kernel
theorem dX10_bondIt_206 : decode cX10_bondIt 206 = .ok (.iadd, 1) := by decide +kernel
theorem dX10_bondIt_207 : decode cX10_bondIt 207 = .ok (.iload_n 3, 1) := by decide +kernel
theorem dX10_bondIt_208 : decode cX10_bondIt 208 = .ok (.iastore, 1) := by decide +kernel
theorem dX10_bondIt_209 : decode cX10_bondIt 209 = .ok (.aload_n 0, 1) := by decide +kernel
theorem dX10_bondIt_210 : decode cX10_bondIt 210 = .ok (.getfield 9, 3) := by decide +kernel
theorem dX10_bondIt_213 : decode cX10_bondIt 213 = .ok (.iload_n 1, 1) := by decide +kernel
theorem dX10_bondIt_214 : decode cX10_bondIt 214 = .ok (.invokestatic 120, 3) := by decide +kernel
theorem dX10_bondIt_217 : decode cX10_bondIt 217 = .ok (.dup2, 1) := by decide +kernel
theorem dX10_bondIt_218 : decode cX10_bondIt 218 = .ok (.iaload, 1) := by decide +kernel
theorem dX10_bondIt_219 : decode cX10_bondIt 219 = .ok (.iconst 2, 1) := by decide +kernel
theorem dX10_bondIt_220 : decode cX10_bondIt 220 = .ok (.iload_n 3, 1) := by decide +kernel
theorem dX10_bondIt_221 : decode cX10_bondIt 221 = .ok (.imul, 1) := by decide +kernel
theorem dX10_bondIt_222 : decode cX10_bondIt 222 = .ok (.iadd, 1) := by decide +kernel
theorem dX10_bondIt_223 : decode cX10_bondIt 223 = .ok (.iastore, 1) := by decide +kernel
theorem dX10_bondIt_224 : decode cX10_bondIt 224 = .ok (.aload_n 0, 1) := by decide +kernel
theorem dX10_bondIt_225 : decode cX10_bondIt 225 = .ok (.getfield 9, 3) := by decide +kernel
theorem dX10_bondIt_228 : decode cX10_bondIt 228 = .ok (.iload_n 1, 1) := by decide +kernel
theorem dX10_bondIt_229 : decode cX10_bondIt 229 = .ok (.invokestatic 120, 3) := by decide +kernel
theorem dX10_bondIt_232 : decode cX10_bondIt 232 = .ok (.iconst 1, 1) := by decide +kernel
theorem dX10_bondIt_233 : decode cX10_bondIt 233 = .ok (.iadd, 1) := by decide +kernel
theorem dX10_bondIt_234 : decode cX10_bondIt 234 = .ok (.dup2, 1) := by decide +kernel
theorem dX10_bondIt_235 : decode cX10_bondIt 235 = .ok (.iaload, 1) := by decide +kernel
theorem dX10_bondIt_236 : decode cX10_bondIt 236 = .ok (.iconst 2, 1) := by decide +kernel
theorem dX10_bondIt_237 : decode cX10_bondIt 237 = .ok (.iload_n 3, 1) := by decide +kernel
theorem dX10_bondIt_238 : decode cX10_bondIt 238 = .ok (.imul, 1) := by decide +kernel
theorem dX10_bondIt_239 : decode cX10_bondIt 239 = .ok (.iadd, 1) := by decide +kernel
theorem dX10_bondIt_240 : decode cX10_bondIt 240 = .ok (.iastore, 1) := by decide +kernel
theorem dX10_bondIt_241 : decode cX10_bondIt 241 = .ok (.aload_n 0, 1) := by decide +kernel
theorem dX10_bondIt_242 : decode cX10_bondIt 242 = .ok (.getfield 9, 3) := by decide +kernel
theorem dX10_bondIt_245 : decode cX10_bondIt 245 = .ok (.iload 4, 2) := by decide +kernel
theorem dX10_bondIt_247 : decode cX10_bondIt 247 = .ok (.iaload, 1) := by decide +kernel
theorem dX10_bondIt_248 : decode cX10_bondIt 248 = .ok (.ireturn, 1) := by decide +kernel
set_option maxRecDepth 20000 in
theorem ggX10_bond_X10_starts : GoodIn wsX10_bond wsX10_starts := goodIn_ca (goodIn_r _ [5, 6, 7, 8, 52, 53, 54, 55, 56, 57, 58, 59, 60, 61, 62, 63, 64, 65, 66, 67, 68, 69, 70, 71, 72] (by decide +kernel) (by decide +kernel)) (goodIn_sub (fun _ h => List.mem_cons_of_mem _ (List.mem_append_right _ h)) (by decide +kernel))
set_option maxRecDepth 20000 in
theorem gX10_bond_X10_starts : GoodIn wsX10_bond (wsV RX10 100 RX10 yX10_starts wsX10_starts) := goodIn_app (goodIn_of _ (by decide +kernel)) ggX10_bond_X10_starts
set_option maxRecDepth 20000 in
theorem ggX10_bond_X10_bondIt : GoodIn wsX10_bond wsX10_bondIt := goodIn_ca (goodIn_r _ [12, 8, 13, 14, 15, 16, 4, 17, 18, 19, 20, 21, 22, 23, 24, 25, 26, 27, 28, 29, 30, 31, 6, 32, 33, 34, 35, 36, 37, 38, 39, 40, 41, 42, 43, 44, 45, 52, 53, 54, 55, 56, 57, 58, 59, 60, 61, 62, 63, 64, 65, 66, 67, 68, 69, 70, 71, 72] (by decide +kernel) (by decide +kernel)) (goodIn_sub (fun _ h => List.mem_cons_of_mem _ (List.mem_append_right _ h)) (by decide +kernel))
set_option maxRecDepth 20000 in
theorem gX10_bond_X10_bondIt : GoodIn wsX10_bond (wsV RX10 159 RX10 yX10_bondIt wsX10_bondIt) := goodIn_app (goodIn_of _ (by decide +kernel)) ggX10_bond_X10_bondIt
set_option maxRecDepth 20000 in
theorem ggX10_bond_X10_changed : GoodIn wsX10_bond wsX10_changed := goodIn_ca (goodIn_r _ [49, 6, 50, 51, 7, 52, 53, 54, 55, 56, 57, 58, 59, 60, 61, 62, 63, 64, 65, 66, 67, 68, 69, 70, 71, 72] (by decide +kernel) (by decide +kernel)) (goodIn_sub (fun _ h => List.mem_cons_of_mem _ (List.mem_append_right _ h)) (by decide +kernel))
set_option maxRecDepth 20000 in
theorem gX10_bond_X10_changed : GoodIn wsX10_bond (wsV RX10 107 RX10 yX10_changed wsX10_changed) := goodIn_app (goodIn_of _ (by decide +kernel)) ggX10_bond_X10_changed
theorem dX10_bond_0 : decode cX10_bond 0 = .ok (.aload_n 0, 1) := by decide +kernel
theorem dX10_bond_1 : decode cX10_bond 1 = .ok (.invokevirtual 100, 3) := by decide +kernel
theorem dX10_bond_4 : decode cX10_bond 4 = .ok (.aload_n 0, 1) := by decide +kernel
theorem dX10_bond_5 : decode cX10_bond 5 = .ok (.aload_n 0, 1) := by decide +kernel
theorem dX10_bond_6 : decode cX10_bond 6 = .ok (.iload_n 1, 1) := by decide +kernel
theorem dX10_bond_7 : decode cX10_bond 7 = .ok (.iload_n 2, 1) := by decide +kernel
theorem dX10_bond_8 : decode cX10_bond 8 = .ok (.iload_n 3, 1) := by decide +kernel
theorem dX10_bond_9 : decode cX10_bond 9 = .ok (.invokevirtual 159, 3) := by decide +kernel
theorem dX10_bond_12 : decode cX10_bond 12 = .ok (.invokevirtual 107, 3) := by decide +kernel
theorem dX10_bond_15 : decode cX10_bond 15 = .ok (.ireturn, 1) := by decide +kernel
set_option maxRecDepth 20000 in
theorem ggX10_lostOf_X10_visitorAt : GoodIn wsX10_lostOf wsX10_visitorAt := goodIn_r _ [9] (by decide +kernel) (by decide +kernel)
set_option maxRecDepth 20000 in
theorem gX10_lostOf_X10_visitorAt : GoodIn wsX10_lostOf (va_wsS RX10 126 yX10_visitorAt wsX10_visitorAt) := goodIn_app (goodIn_of _ (by decide +kernel)) ggX10_lostOf_X10_visitorAt
theorem dX10_lostOf_0 : decode cX10_lostOf 0 = .ok (.iload_n 1, 1) := by decide +kernel
theorem dX10_lostOf_1 : decode cX10_lostOf 1 = .ok (.invokestatic 126, 3) := by decide +kernel
theorem dX10_lostOf_4 : decode cX10_lostOf 4 = .ok (.istore_n 2, 1) := by decide +kernel
theorem dX10_lostOf_5 : decode cX10_lostOf 5 = .ok (.iconst 0, 1) := by decide +kernel
theorem dX10_lostOf_6 : decode cX10_lostOf 6 = .ok (.aload_n 0, 1) := by decide +kernel
theorem dX10_lostOf_7 : decode cX10_lostOf 7 = .ok (.getfield 9, 3) := by decide +kernel
theorem dX10_lostOf_10 : decode cX10_lostOf 10 = .ok (.iload_n 2, 1) := by decide +kernel
theorem dX10_lostOf_11 : decode cX10_lostOf 11 = .ok (.iconst 2, 1) := by decide +kernel
theorem dX10_lostOf_12 : decode cX10_lostOf 12 = .ok (.iadd, 1) := by decide +kernel
theorem dX10_lostOf_13 : decode cX10_lostOf 13 = .ok (.iaload, 1) := by decide +kernel
theorem dX10_lostOf_14 : decode cX10_lostOf 14 = .ok (.aload_n 0, 1) := by decide +kernel
theorem dX10_lostOf_15 : decode cX10_lostOf 15 = .ok (.getfield 9, 3) := by decide +kernel
theorem dX10_lostOf_18 : decode cX10_lostOf 18 = .ok (.iload_n 2, 1) := by decide +kernel
theorem dX10_lostOf_19 : decode cX10_lostOf 19 = .ok (.iconst 3, 1) := by decide +kernel
theorem dX10_lostOf_20 : decode cX10_lostOf 20 = .ok (.iadd, 1) := by decide +kernel
theorem dX10_lostOf_21 : decode cX10_lostOf 21 = .ok (.iaload, 1) := by decide +kernel
theorem dX10_lostOf_22 : decode cX10_lostOf 22 = .ok (.isub, 1) := by decide +kernel
theorem dX10_lostOf_23 : decode cX10_lostOf 23 = .ok (.invokestatic 71, 3) := by decide +kernel
theorem dX10_lostOf_26 : decode cX10_lostOf 26 = .ok (.ireturn, 1) := by decide +kernel
set_option maxRecDepth 20000 in
theorem ggX10_pays_X10_visitorAt : GoodIn wsX10_pays wsX10_visitorAt := goodIn_r _ [9] (by decide +kernel) (by decide +kernel)
set_option maxRecDepth 20000 in
theorem gX10_pays_X10_visitorAt : GoodIn wsX10_pays (va_wsS RX10 126 yX10_visitorAt wsX10_visitorAt) := goodIn_app (goodIn_of _ (by decide +kernel)) ggX10_pays_X10_visitorAt
set_option maxRecDepth 20000 in
theorem ggX10_pays_X10_gardenerAt : GoodIn wsX10_pays wsX10_gardenerAt := goodIn_r _ [12] (by decide +kernel) (by decide +kernel)
set_option maxRecDepth 20000 in
theorem gX10_pays_X10_gardenerAt : GoodIn wsX10_pays (va_wsS RX10 120 yX10_gardenerAt wsX10_gardenerAt) := goodIn_app (goodIn_of _ (by decide +kernel)) ggX10_pays_X10_gardenerAt
theorem dX10_pays_0 : decode cX10_pays 0 = .ok (.iload_n 1, 1) := by decide +kernel
theorem dX10_pays_1 : decode cX10_pays 1 = .ok (.invokestatic 126, 3) := by decide +kernel
theorem dX10_pays_4 : decode cX10_pays 4 = .ok (.istore_n 3, 1) := by decide +kernel
theorem dX10_pays_5 : decode cX10_pays 5 = .ok (.aload_n 0, 1) := by decide +kernel
theorem dX10_pays_6 : decode cX10_pays 6 = .ok (.getfield 9, 3) := by decide +kernel
theorem dX10_pays_9 : decode cX10_pays 9 = .ok (.iload_n 3, 1) := by decide +kernel
theorem dX10_pays_10 : decode cX10_pays 10 = .ok (.iconst 4, 1) := by decide +kernel
theorem dX10_pays_11 : decode cX10_pays 11 = .ok (.iadd, 1) := by decide +kernel
theorem dX10_pays_12 : decode cX10_pays 12 = .ok (.iaload, 1) := by decide +kernel
theorem dX10_pays_13 : decode cX10_pays 13 = .ok (.iconst (-1), 1) := by decide +kernel
theorem dX10_pays_14 : decode cX10_pays 14 = .ok (.if_icmp .eq 16, 3) := by decide +kernel
theorem dX10_pays_17 : decode cX10_pays 17 = .ok (.aload_n 0, 1) := by decide +kernel
theorem dX10_pays_18 : decode cX10_pays 18 = .ok (.getfield 9, 3) := by decide +kernel
theorem dX10_pays_21 : decode cX10_pays 21 = .ok (.iload_n 3, 1) := by decide +kernel
theorem dX10_pays_22 : decode cX10_pays 22 = .ok (.bipush 6, 2) := by decide +kernel
theorem dX10_pays_24 : decode cX10_pays 24 = .ok (.iadd, 1) := by decide +kernel
theorem dX10_pays_25 : decode cX10_pays 25 = .ok (.iaload, 1) := by decide +kernel
theorem dX10_pays_26 : decode cX10_pays 26 = .ok (.iconst 1, 1) := by decide +kernel
theorem dX10_pays_27 : decode cX10_pays 27 = .ok (.if_icmp .ne 7, 3) := by decide +kernel
theorem dX10_pays_30 : decode cX10_pays 30 = .ok (.iconst 1, 1) := by decide +kernel
theorem dX10_pays_31 : decode cX10_pays 31 = .ok (.goto 4, 3) := by decide +kernel
theorem dX10_pays_34 : decode cX10_pays 34 = .ok (.iconst 0, 1) := by decide +kernel
theorem dX10_pays_35 : decode cX10_pays 35 = .ok (.istore 4, 2) := by decide +kernel
theorem dX10_pays_37 : decode cX10_pays 37 = .ok (.iload 4, 2) := by decide +kernel
theorem dX10_pays_39 : decode cX10_pays 39 = .ok (.ifCond .eq 7, 3) := by decide +kernel
theorem dX10_pays_42 : decode cX10_pays 42 = .ok (.iconst 0, 1) := by decide +kernel
theorem dX10_pays_43 : decode cX10_pays 43 = .ok (.goto 32, 3) := by decide +kernel
theorem dX10_pays_46 : decode cX10_pays 46 = .ok (.aload_n 0, 1) := by decide +kernel
theorem dX10_pays_47 : decode cX10_pays 47 = .ok (.getfield 9, 3) := by decide +kernel
theorem dX10_pays_50 : decode cX10_pays 50 = .ok (.iload_n 3, 1) := by decide +kernel
theorem dX10_pays_51 : decode cX10_pays 51 = .ok (.iconst 5, 1) := by decide +kernel
theorem dX10_pays_52 : decode cX10_pays 52 = .ok (.iadd, 1) := by decide +kernel
theorem dX10_pays_53 : decode cX10_pays 53 = .ok (.iaload, 1) := by decide +kernel
theorem dX10_pays_54 : decode cX10_pays 54 = .ok (.iload_n 2, 1) := by decide +kernel
theorem dX10_pays_55 : decode cX10_pays 55 = .ok (.imul, 1) := by decide +kernel
theorem dX10_pays_56 : decode cX10_pays 56 = .ok (.aload_n 0, 1) := by decide +kernel
theorem dX10_pays_57 : decode cX10_pays 57 = .ok (.getfield 9, 3) := by decide +kernel
theorem dX10_pays_60 : decode cX10_pays 60 = .ok (.aload_n 0, 1) := by decide +kernel
theorem dX10_pays_61 : decode cX10_pays 61 = .ok (.getfield 9, 3) := by decide +kernel
theorem dX10_pays_64 : decode cX10_pays 64 = .ok (.iload_n 3, 1) := by decide +kernel
theorem dX10_pays_65 : decode cX10_pays 65 = .ok (.iconst 4, 1) := by decide +kernel
theorem dX10_pays_66 : decode cX10_pays 66 = .ok (.iadd, 1) := by decide +kernel
theorem dX10_pays_67 : decode cX10_pays 67 = .ok (.iaload, 1) := by decide +kernel
theorem dX10_pays_68 : decode cX10_pays 68 = .ok (.invokestatic 120, 3) := by decide +kernel
theorem dX10_pays_71 : decode cX10_pays 71 = .ok (.iaload, 1) := by decide +kernel
theorem dX10_pays_72 : decode cX10_pays 72 = .ok (.invokestatic 65, 3) := by decide +kernel
theorem dX10_pays_75 : decode cX10_pays 75 = .ok (.ireturn, 1) := by decide +kernel
set_option maxRecDepth 20000 in
theorem ggX10_walkIt_X10_isVisitor : GoodIn wsX10_walkIt wsX10_isVisitor := goodIn_ca (goodIn_r _ [7, 1, 8, 9, 6, 10, 58, 59, 60, 61, 62, 63, 64, 65, 66, 67, 68, 69, 70, 71, 72, 73, 74, 75, 76, 77, 78] (by decide +kernel) (by decide +kernel)) (goodIn_sub (fun _ h => List.mem_cons_of_mem _ (List.mem_append_right _ h)) (by decide +kernel))
set_option maxRecDepth 20000 in
theorem gX10_walkIt_X10_isVisitor : GoodIn wsX10_walkIt (wsV RX10 154 RX10 yX10_isVisitor wsX10_isVisitor) := goodIn_app (goodIn_of _ (by decide +kernel)) ggX10_walkIt_X10_isVisitor
set_option maxRecDepth 20000 in
theorem ggX10_walkIt_X10_refuse : GoodIn wsX10_walkIt wsX10_refuse := goodIn_r _ [14, 15, 16, 17, 18, 19, 20, 6, 21, 22, 58, 59, 60, 61, 62, 63, 64, 65, 66, 67, 68, 69, 70, 71, 72, 73, 74, 75, 76, 77, 78] (by decide +kernel) (by decide +kernel)
set_option maxRecDepth 20000 in
theorem gX10_walkIt_X10_refuse : GoodIn wsX10_walkIt (wsV RX10 91 RX10 yX10_refuse wsX10_refuse) := goodIn_app (goodIn_of _ (by decide +kernel)) ggX10_walkIt_X10_refuse
set_option maxRecDepth 20000 in
theorem ggX10_walkIt_X10_in : GoodIn wsX10_walkIt wsX10_in := goodIn_r _ [10] (by decide +kernel) (by decide +kernel)
set_option maxRecDepth 20000 in
theorem gX10_walkIt_X10_in : GoodIn wsX10_walkIt (va_wsS RX10 59 yX10_in wsX10_in) := goodIn_app (goodIn_of _ (by decide +kernel)) ggX10_walkIt_X10_in
set_option maxRecDepth 20000 in
theorem ggX10_walkIt_X10_visitorAt : GoodIn wsX10_walkIt wsX10_visitorAt := goodIn_r _ [25] (by decide +kernel) (by decide +kernel)
set_option maxRecDepth 20000 in
theorem gX10_walkIt_X10_visitorAt : GoodIn wsX10_walkIt (va_wsS RX10 126 yX10_visitorAt wsX10_visitorAt) := goodIn_app (goodIn_of _ (by decide +kernel)) ggX10_walkIt_X10_visitorAt
set_option maxRecDepth 20000 in
theorem ggX10_walkIt_X10_nextTo : GoodIn wsX10_walkIt wsX10_nextTo := goodIn_r _ [28, 2, 8, 9, 6, 10] (by decide +kernel) (by decide +kernel)
set_option maxRecDepth 20000 in
theorem gX10_walkIt_X10_nextTo : GoodIn wsX10_walkIt (va_wsS RX10 74 yX10_nextTo wsX10_nextTo) := goodIn_app (goodIn_of _ (by decide +kernel)) ggX10_walkIt_X10_nextTo
set_option maxRecDepth 20000 in
theorem ggX10_walkIt_X10_hedgeAt : GoodIn wsX10_walkIt wsX10_hedgeAt := goodIn_r _ [31, 32, 33, 34, 35, 36, 37, 38] (by decide +kernel) (by decide +kernel)
set_option maxRecDepth 20000 in
theorem gX10_walkIt_X10_hedgeAt : GoodIn wsX10_walkIt (va_wsS RX10 77 yX10_hedgeAt wsX10_hedgeAt) := goodIn_app (goodIn_of _ (by decide +kernel)) ggX10_walkIt_X10_hedgeAt
set_option maxRecDepth 20000 in
theorem ggX10_walkIt_X10_isGapAt : GoodIn wsX10_walkIt wsX10_isGapAt := goodIn_ca (goodIn_r _ [42, 1, 58, 59, 60, 61, 62, 63, 64, 65, 66, 67, 68, 69, 70, 71, 72, 73, 74, 75, 76, 77, 78] (by decide +kernel) (by decide +kernel)) (goodIn_sub (fun _ h => List.mem_cons_of_mem _ (List.mem_append_right _ h)) (by decide +kernel))
set_option maxRecDepth 20000 in
theorem gX10_walkIt_X10_isGapAt : GoodIn wsX10_walkIt (wsV RX10 80 RX10 yX10_isGapAt wsX10_isGapAt) := goodIn_app (goodIn_of _ (by decide +kernel)) ggX10_walkIt_X10_isGapAt
set_option maxRecDepth 20000 in
theorem ggX10_walkIt_X10_meets : GoodIn wsX10_walkIt wsX10_meets := goodIn_ca (goodIn_r _ [46, 1, 23, 24, 6, 25, 58, 59, 60, 61, 62, 63, 64, 65, 66, 67, 68, 69, 70, 71, 72, 73, 74, 75, 76, 77, 78] (by decide +kernel) (by decide +kernel)) (goodIn_sub (fun _ h => List.mem_cons_of_mem _ (List.mem_append_right _ h)) (by decide +kernel))
set_option maxRecDepth 20000 in
theorem gX10_walkIt_X10_meets : GoodIn wsX10_walkIt (wsV RX10 131 RX10 yX10_meets wsX10_meets) := goodIn_app (goodIn_of _ (by decide +kernel)) ggX10_walkIt_X10_meets
set_option maxRecDepth 20000 in
theorem ggX10_walkIt_X10_lostOf : GoodIn wsX10_walkIt wsX10_lostOf := goodIn_ca (goodIn_r _ [50, 1, 36, 37, 34, 38, 23, 24, 6, 25, 58, 59, 60, 61, 62, 63, 64, 65, 66, 67, 68, 69, 70, 71, 72, 73, 74, 75, 76, 77, 78] (by decide +kernel) (by decide +kernel)) (goodIn_sub (fun _ h => List.mem_cons_of_mem _ (List.mem_append_right _ h)) (by decide +kernel))
set_option maxRecDepth 20000 in
theorem gX10_walkIt_X10_lostOf : GoodIn wsX10_walkIt (wsV RX10 162 RX10 yX10_lostOf wsX10_lostOf) := goodIn_app (goodIn_of _ (by decide +kernel)) ggX10_walkIt_X10_lostOf
set_option maxRecDepth 20000 in
theorem ggX10_walkIt_X10_pays : GoodIn wsX10_walkIt wsX10_pays := goodIn_ca (goodIn_r _ [54, 1, 32, 33, 34, 35, 23, 24, 6, 25, 55, 56, 57, 58, 59, 60, 61, 62, 63, 64, 65, 66, 67, 68, 69, 70, 71, 72, 73, 74, 75, 76, 77, 78] (by decide +kernel) (by decide +kernel)) (goodIn_sub (fun _ h => List.mem_cons_of_mem _ (List.mem_append_right _ h)) (by decide +kernel))
set_option maxRecDepth 20000 in
theorem gX10_walkIt_X10_pays : GoodIn wsX10_walkIt (wsV RX10 165 RX10 yX10_pays wsX10_pays) := goodIn_app (goodIn_of _ (by decide +kernel)) ggX10_walkIt_X10_pays
set_option maxRecDepth 20000 in
theorem ggX10_walkIt_X10_gardenerAt : GoodIn wsX10_walkIt wsX10_gardenerAt := goodIn_r _ [57] (by decide +kernel) (by decide +kernel)
set_option maxRecDepth 20000 in
theorem gX10_walkIt_X10_gardenerAt : GoodIn wsX10_walkIt (va_wsS RX10 120 yX10_gardenerAt wsX10_gardenerAt) := goodIn_app (goodIn_of _ (by decide +kernel)) ggX10_walkIt_X10_gardenerAt
theorem dX10_walkIt_0 : decode cX10_walkIt 0 = .ok (.aload_n 0, 1) := by decide +kernel
theorem dX10_walkIt_1 : decode cX10_walkIt 1 = .ok (.iload_n 1, 1) := by decide +kernel
theorem dX10_walkIt_2 : decode cX10_walkIt 2 = .ok (.invokevirtual 154, 3) := by decide +kernel
theorem dX10_walkIt_5 : decode cX10_walkIt 5 = .ok (.ifCond .ne 16, 3) := by decide +kernel
theorem dX10_walkIt_8 : decode cX10_walkIt 8 = .ok (.aload_n 0, 1) := by decide +kernel
theorem dX10_walkIt_9 : decode cX10_walkIt 9 = .ok (.bipush 7, 2) := by decide +kernel
theorem dX10_walkIt_11 : decode cX10_walkIt 11 = .ok (.aload_n 0, 1) := by decide +kernel
theorem dX10_walkIt_12 : decode cX10_walkIt 12 = .ok (.getfield 9, 3) := by decide +kernel
theorem dX10_walkIt_15 : decode cX10_walkIt 15 = .ok (.iconst 1, 1) := by decide +kernel
theorem dX10_walkIt_16 : decode cX10_walkIt 16 = .ok (.iaload, 1) := by decide +kernel
theorem dX10_walkIt_17 : decode cX10_walkIt 17 = .ok (.invokevirtual 91, 3) := by decide +kernel
theorem dX10_walkIt_20 : decode cX10_walkIt 20 = .ok (.ireturn, 1) := by decide +kernel
theorem dX10_walkIt_21 : decode cX10_walkIt 21 = .ok (.iload_n 2, 1) := by decide +kernel
theorem dX10_walkIt_22 : decode cX10_walkIt 22 = .ok (.i2l, 1) := by decide +kernel
theorem dX10_walkIt_23 : decode cX10_walkIt 23 = .ok (.lconst 0, 1) := by decide +kernel
theorem dX10_walkIt_24 : decode cX10_walkIt 24 = .ok (.ldc2_w 63, 3) := by decide +kernel
theorem dX10_walkIt_27 : decode cX10_walkIt 27 = .ok (.invokestatic 59, 3) := by decide +kernel
theorem dX10_walkIt_30 : decode cX10_walkIt 30 = .ok (.ifCond .ne 10, 3) := by decide +kernel
theorem dX10_walkIt_33 : decode cX10_walkIt 33 = .ok (.aload_n 0, 1) := by decide +kernel
theorem dX10_walkIt_34 : decode cX10_walkIt 34 = .ok (.iconst 1, 1) := by decide +kernel
theorem dX10_walkIt_35 : decode cX10_walkIt 35 = .ok (.iconst 0, 1) := by decide +kernel
theorem dX10_walkIt_36 : decode cX10_walkIt 36 = .ok (.invokevirtual 91, 3) := by decide +kernel
theorem dX10_walkIt_39 : decode cX10_walkIt 39 = .ok (.ireturn, 1) := by decide +kernel
theorem dX10_walkIt_40 : decode cX10_walkIt 40 = .ok (.iload_n 1, 1) := by decide +kernel
theorem dX10_walkIt_41 : decode cX10_walkIt 41 = .ok (.invokestatic 126, 3) := by decide +kernel
theorem dX10_walkIt_44 : decode cX10_walkIt 44 = .ok (.istore_n 3, 1) := by decide +kernel
theorem dX10_walkIt_45 : decode cX10_walkIt 45 = .ok (.aload_n 0, 1) := by decide +kernel
theorem dX10_walkIt_46 : decode cX10_walkIt 46 = .ok (.getfield 9, 3) := by decide +kernel
theorem dX10_walkIt_49 : decode cX10_walkIt 49 = .ok (.iload_n 3, 1) := by decide +kernel
theorem dX10_walkIt_50 : decode cX10_walkIt 50 = .ok (.bipush 7, 2) := by decide +kernel
theorem dX10_walkIt_52 : decode cX10_walkIt 52 = .ok (.iadd, 1) := by decide +kernel
theorem dX10_walkIt_53 : decode cX10_walkIt 53 = .ok (.iaload, 1) := by decide +kernel
theorem dX10_walkIt_54 : decode cX10_walkIt 54 = .ok (.iconst 1, 1) := by decide +kernel
theorem dX10_walkIt_55 : decode cX10_walkIt 55 = .ok (.if_icmp .ne 18, 3) := by decide +kernel
theorem dX10_walkIt_58 : decode cX10_walkIt 58 = .ok (.aload_n 0, 1) := by decide +kernel
theorem dX10_walkIt_59 : decode cX10_walkIt 59 = .ok (.bipush 9, 2) := by decide +kernel
theorem dX10_walkIt_61 : decode cX10_walkIt 61 = .ok (.aload_n 0, 1) := by decide +kernel
theorem dX10_walkIt_62 : decode cX10_walkIt 62 = .ok (.getfield 9, 3) := by decide +kernel
theorem dX10_walkIt_65 : decode cX10_walkIt 65 = .ok (.iload_n 3, 1) := by decide +kernel
theorem dX10_walkIt_66 : decode cX10_walkIt 66 = .ok (.iconst 2, 1) := by decide +kernel
theorem dX10_walkIt_67 : decode cX10_walkIt 67 = .ok (.iadd, 1) := by decide +kernel
theorem dX10_walkIt_68 : decode cX10_walkIt 68 = .ok (.iaload, 1) := by decide +kernel
theorem dX10_walkIt_69 : decode cX10_walkIt 69 = .ok (.invokevirtual 91, 3) := by decide +kernel
theorem dX10_walkIt_72 : decode cX10_walkIt 72 = .ok (.ireturn, 1) := by decide +kernel
theorem dX10_walkIt_73 : decode cX10_walkIt 73 = .ok (.aload_n 0, 1) := by decide +kernel
theorem dX10_walkIt_74 : decode cX10_walkIt 74 = .ok (.getfield 9, 3) := by decide +kernel
theorem dX10_walkIt_77 : decode cX10_walkIt 77 = .ok (.iload_n 3, 1) := by decide +kernel
theorem dX10_walkIt_78 : decode cX10_walkIt 78 = .ok (.iconst 1, 1) := by decide +kernel
theorem dX10_walkIt_79 : decode cX10_walkIt 79 = .ok (.iadd, 1) := by decide +kernel
theorem dX10_walkIt_80 : decode cX10_walkIt 80 = .ok (.iaload, 1) := by decide +kernel
theorem dX10_walkIt_81 : decode cX10_walkIt 81 = .ok (.istore 4, 2) := by decide +kernel
theorem dX10_walkIt_83 : decode cX10_walkIt 83 = .ok (.iload 4, 2) := by decide +kernel
theorem dX10_walkIt_85 : decode cX10_walkIt 85 = .ok (.iload_n 2, 1) := by decide +kernel
theorem dX10_walkIt_86 : decode cX10_walkIt 86 = .ok (.invokestatic 74, 3) := by decide +kernel
theorem dX10_walkIt_89 : decode cX10_walkIt 89 = .ok (.istore 5, 2) := by decide +kernel
theorem dX10_walkIt_91 : decode cX10_walkIt 91 = .ok (.iload 5, 2) := by decide +kernel
theorem dX10_walkIt_93 : decode cX10_walkIt 93 = .ok (.iconst (-1), 1) := by decide +kernel
theorem dX10_walkIt_94 : decode cX10_walkIt 94 = .ok (.if_icmp .ne 12, 3) := by decide +kernel
theorem dX10_walkIt_97 : decode cX10_walkIt 97 = .ok (.aload_n 0, 1) := by decide +kernel
theorem dX10_walkIt_98 : decode cX10_walkIt 98 = .ok (.bipush 11, 2) := by decide +kernel
theorem dX10_walkIt_100 : decode cX10_walkIt 100 = .ok (.iload 4, 2) := by decide +kernel
theorem dX10_walkIt_102 : decode cX10_walkIt 102 = .ok (.invokevirtual 91, 3) := by decide +kernel
theorem dX10_walkIt_105 : decode cX10_walkIt 105 = .ok (.ireturn, 1) := by decide +kernel
theorem dX10_walkIt_106 : decode cX10_walkIt 106 = .ok (.aload_n 0, 1) := by decide +kernel
theorem dX10_walkIt_107 : decode cX10_walkIt 107 = .ok (.iload 4, 2) := by decide +kernel
theorem dX10_walkIt_109 : decode cX10_walkIt 109 = .ok (.iload 5, 2) := by decide +kernel
theorem dX10_walkIt_111 : decode cX10_walkIt 111 = .ok (.invokestatic 77, 3) := by decide +kernel
theorem dX10_walkIt_114 : decode cX10_walkIt 114 = .ok (.invokevirtual 80, 3) := by decide +kernel
theorem dX10_walkIt_117 : decode cX10_walkIt 117 = .ok (.ifCond .ne 22, 3) := by decide +kernel
theorem dX10_walkIt_120 : decode cX10_walkIt 120 = .ok (.aload_n 0, 1) := by decide +kernel
theorem dX10_walkIt_121 : decode cX10_walkIt 121 = .ok (.bipush 12, 2) := by decide +kernel
theorem dX10_walkIt_123 : decode cX10_walkIt 123 = .ok (.aload_n 0, 1) := by decide +kernel
theorem dX10_walkIt_124 : decode cX10_walkIt 124 = .ok (.getfield 9, 3) := by decide +kernel
theorem dX10_walkIt_127 : decode cX10_walkIt 127 = .ok (.iload 4, 2) := by decide +kernel
theorem dX10_walkIt_129 : decode cX10_walkIt 129 = .ok (.iload 5, 2) := by decide +kernel
theorem dX10_walkIt_131 : decode cX10_walkIt 131 = .ok (.invokestatic 77, 3) := by decide +kernel
theorem dX10_walkIt_134 : decode cX10_walkIt 134 = .ok (.iaload, 1) := by decide +kernel
theorem dX10_walkIt_135 : decode cX10_walkIt 135 = .ok (.invokevirtual 91, 3) := by decide +kernel
theorem dX10_walkIt_138 : decode cX10_walkIt 138 = .ok (.ireturn, 1) := by decide +kernel
theorem dX10_walkIt_139 : decode cX10_walkIt 139 = .ok (.aload_n 0, 1) := by decide +kernel
theorem dX10_walkIt_140 : decode cX10_walkIt 140 = .ok (.getfield 9, 3) := by decide +kernel
theorem dX10_walkIt_143 : decode cX10_walkIt 143 = .ok (.iload_n 3, 1) := by decide +kernel
theorem dX10_walkIt_144 : decode cX10_walkIt 144 = .ok (.iconst 1, 1) := by decide +kernel
theorem dX10_walkIt_145 : decode cX10_walkIt 145 = .ok (.iadd, 1) := by decide +kernel
theorem dX10_walkIt_146 : decode cX10_walkIt 146 = .ok (.iload 5, 2) := by decide +kernel
theorem dX10_walkIt_148 : decode cX10_walkIt 148 = .ok (.iastore, 1) := by decide +kernel
theorem dX10_walkIt_149 : decode cX10_walkIt 149 = .ok (.aload_n 0, 1) := by decide +kernel
theorem dX10_walkIt_150 : decode cX10_walkIt 150 = .ok (.getfield 9, 3) := by decide +kernel
theorem dX10_walkIt_153 : decode cX10_walkIt 153 = .ok (.iload_n 3, 1) := by decide +kernel
theorem dX10_walkIt_154 : decode cX10_walkIt 154 = .ok (.iconst 2, 1) := by decide +kernel
theorem dX10_walkIt_155 : decode cX10_walkIt 155 = .ok (.iadd, 1) := by decide +kernel
theorem dX10_walkIt_156 : decode cX10_walkIt 156 = .ok (.dup2, 1) := by decide +kernel
theorem dX10_walkIt_157 : decode cX10_walkIt 157 = .ok (.iaload, 1) := by decide +kernel
theorem dX10_walkIt_158 : decode cX10_walkIt 158 = .ok (.iconst 1, 1) := by decide +kernel
theorem dX10_walkIt_159 : decode cX10_walkIt 159 = .ok (.iadd, 1) := by decide +kernel
theorem dX10_walkIt_160 : decode cX10_walkIt 160 = .ok (.iastore, 1) := by decide +kernel
theorem dX10_walkIt_161 : decode cX10_walkIt 161 = .ok (.aload_n 0, 1) := by decide +kernel
theorem dX10_walkIt_162 : decode cX10_walkIt 162 = .ok (.getfield 9, 3) := by decide +kernel
theorem dX10_walkIt_165 : decode cX10_walkIt 165 = .ok (.iload_n 3, 1) := by decide +kernel
theorem dX10_walkIt_166 : decode cX10_walkIt 166 = .ok (.bipush 6, 2) := by decide +kernel
theorem dX10_walkIt_168 : decode cX10_walkIt 168 = .ok (.iadd, 1) := by decide +kernel
theorem dX10_walkIt_169 : decode cX10_walkIt 169 = .ok (.aload_n 0, 1) := by decide +kernel
theorem dX10_walkIt_170 : decode cX10_walkIt 170 = .ok (.iload_n 1, 1) := by decide +kernel
theorem dX10_walkIt_171 : decode cX10_walkIt 171 = .ok (.invokevirtual 131, 3) := by decide +kernel
theorem dX10_walkIt_174 : decode cX10_walkIt 174 = .ok (.ifCond .eq 18, 3) := by decide +kernel
theorem dX10_walkIt_177 : decode cX10_walkIt 177 = .ok (.aload_n 0, 1) := by decide +kernel
theorem dX10_walkIt_178 : decode cX10_walkIt 178 = .ok (.getfield 9, 3) := by decide +kernel
theorem dX10_walkIt_181 : decode cX10_walkIt 181 = .ok (.iload_n 3, 1) := by decide +kernel
theorem dX10_walkIt_182 : decode cX10_walkIt 182 = .ok (.iconst 5, 1) := by decide +kernel
theorem dX10_walkIt_183 : decode cX10_walkIt 183 = .ok (.iadd, 1) := by decide +kernel
theorem dX10_walkIt_184 : decode cX10_walkIt 184 = .ok (.iaload, 1) := by decide +kernel
theorem dX10_walkIt_185 : decode cX10_walkIt 185 = .ok (.ifCond .le 7, 3) := by decide +kernel
theorem dX10_walkIt_188 : decode cX10_walkIt 188 = .ok (.iconst 1, 1) := by decide +kernel
theorem dX10_walkIt_189 : decode cX10_walkIt 189 = .ok (.goto 12, 3) := by decide +kernel
theorem dX10_walkIt_192 : decode cX10_walkIt 192 = .ok (.aload_n 0, 1) := by decide +kernel
theorem dX10_walkIt_193 : decode cX10_walkIt 193 = .ok (.getfield 9, 3) := by decide +kernel
theorem dX10_walkIt_196 : decode cX10_walkIt 196 = .ok (.iload_n 3, 1) := by decide +kernel
theorem dX10_walkIt_197 : decode cX10_walkIt 197 = .ok (.bipush 6, 2) := by decide +kernel
theorem dX10_walkIt_199 : decode cX10_walkIt 199 = .ok (.iadd, 1) := by decide +kernel
theorem dX10_walkIt_200 : decode cX10_walkIt 200 = .ok (.iaload, 1) := by decide +kernel
theorem dX10_walkIt_201 : decode cX10_walkIt 201 = .ok (.iastore, 1) := by decide +kernel
theorem dX10_walkIt_202 : decode cX10_walkIt 202 = .ok (.iload 5, 2) := by decide +kernel
theorem dX10_walkIt_204 : decode cX10_walkIt 204 = .ok (.bipush 15, 2) := by decide +kernel
theorem dX10_walkIt_206 : decode cX10_walkIt 206 = .ok (.if_icmp .ne 120, 3) := by decide +kernel
theorem dX10_walkIt_209 : decode cX10_walkIt 209 = .ok (.aload_n 0, 1) := by decide +kernel
theorem dX10_walkIt_210 : decode cX10_walkIt 210 = .ok (.iload_n 1, 1) := by decide +kernel
theorem dX10_walkIt_211 : decode cX10_walkIt 211 = .ok (.aload_n 0, 1) := by decide +kernel
theorem dX10_walkIt_212 : decode cX10_walkIt 212 = .ok (.iload_n 1, 1) := by decide +kernel
theorem dX10_walkIt_213 : decode cX10_walkIt 213 = .ok (.invokevirtual 162, 3) := by decide +kernel
theorem dX10_walkIt_216 : decode cX10_walkIt 216 = .ok (.invokevirtual 165, 3) := by decide +kernel
theorem dX10_walkIt_219 : decode cX10_walkIt 219 = .ok (.istore 6, 2) := by decide +kernel
theorem dX10_walkIt_221 : decode cX10_walkIt 221 = .ok (.aload_n 0, 1) := by decide +kernel
theorem dX10_walkIt_222 : decode cX10_walkIt 222 = .ok (.getfield 9, 3) := by decide +kernel
theorem dX10_walkIt_225 : decode cX10_walkIt 225 = .ok (.iload_n 3, 1) := by decide +kernel
theorem dX10_walkIt_226 : decode cX10_walkIt 226 = .ok (.dup2, 1) := by decide +kernel
theorem dX10_walkIt_227 : decode cX10_walkIt 227 = .ok (.iaload, 1) := by decide +kernel
theorem dX10_walkIt_228 : decode cX10_walkIt 228 = .ok (.iload 6, 2) := by decide +kernel
theorem dX10_walkIt_230 : decode cX10_walkIt 230 = .ok (.iadd, 1) := by decide +kernel
theorem dX10_walkIt_231 : decode cX10_walkIt 231 = .ok (.iastore, 1) := by decide +kernel
theorem dX10_walkIt_232 : decode cX10_walkIt 232 = .ok (.aload_n 0, 1) := by decide +kernel
theorem dX10_walkIt_233 : decode cX10_walkIt 233 = .ok (.getfield 9, 3) := by decide +kernel
theorem dX10_walkIt_236 : decode cX10_walkIt 236 = .ok (.iload_n 3, 1) := by decide +kernel
theorem dX10_walkIt_237 : decode cX10_walkIt 237 = .ok (.iconst 4, 1) := by decide +kernel
theorem dX10_walkIt_238 : decode cX10_walkIt 238 = .ok (.iadd, 1) := by decide +kernel
theorem dX10_walkIt_239 : decode cX10_walkIt 239 = .ok (.iaload, 1) := by decide +kernel
theorem dX10_walkIt_240 : decode cX10_walkIt 240 = .ok (.iconst (-1), 1) := by decide +kernel
theorem dX10_walkIt_241 : decode cX10_walkIt 241 = .ok (.if_icmp .eq 47, 3) := by decide +kernel
theorem dX10_walkIt_244 : decode cX10_walkIt 244 = .ok (.aload_n 0, 1) := by decide +kernel
theorem dX10_walkIt_245 : decode cX10_walkIt 245 = .ok (.getfield 9, 3) := by decide +kernel
theorem dX10_walkIt_248 : decode cX10_walkIt 248 = .ok (.aload_n 0, 1) := by decide +kernel
theorem dX10_walkIt_249 : decode cX10_walkIt 249 = .ok (.getfield 9, 3) := by decide +kernel
theorem dX10_walkIt_252 : decode cX10_walkIt 252 = .ok (.iload_n 3, 1) := by decide +kernel
theorem dX10_walkIt_253 : decode cX10_walkIt 253 = .ok (.iconst 4, 1) := by decide +kernel
theorem dX10_walkIt_254 : decode cX10_walkIt 254 = .ok (.iadd, 1) := by decide +kernel
theorem dX10_walkIt_255 : decode cX10_walkIt 255 = .ok (.iaload, 1) := by decide +kernel
theorem dX10_walkIt_256 : decode cX10_walkIt 256 = .ok (.invokestatic 120, 3) := by decide +kernel
theorem dX10_walkIt_259 : decode cX10_walkIt 259 = .ok (.dup2, 1) := by decide +kernel
theorem dX10_walkIt_260 : decode cX10_walkIt 260 = .ok (.iaload, 1) := by decide +kernel
theorem dX10_walkIt_261 : decode cX10_walkIt 261 = .ok (.iload 6, 2) := by decide +kernel
theorem dX10_walkIt_263 : decode cX10_walkIt 263 = .ok (.isub, 1) := by decide +kernel
theorem dX10_walkIt_264 : decode cX10_walkIt 264 = .ok (.iastore, 1) := by decide +kernel
theorem dX10_walkIt_265 : decode cX10_walkIt 265 = .ok (.aload_n 0, 1) := by decide +kernel
theorem dX10_walkIt_266 : decode cX10_walkIt 266 = .ok (.getfield 9, 3) := by decide +kernel
theorem dX10_walkIt_269 : decode cX10_walkIt 269 = .ok (.aload_n 0, 1) := by decide +kernel
theorem dX10_walkIt_270 : decode cX10_walkIt 270 = .ok (.getfield 9, 3) := by decide +kernel
theorem dX10_walkIt_273 : decode cX10_walkIt 273 = .ok (.iload_n 3, 1) := by decide +kernel
theorem dX10_walkIt_274 : decode cX10_walkIt 274 = .ok (.iconst 4, 1) := by decide +kernel
theorem dX10_walkIt_275 : decode cX10_walkIt 275 = .ok (.iadd, 1) := by decide +kernel
theorem dX10_walkIt_276 : decode cX10_walkIt 276 = .ok (.iaload, 1) := by decide +kernel
theorem dX10_walkIt_277 : decode cX10_walkIt 277 = .ok (.invokestatic 120, 3) := by decide +kernel
theorem dX10_walkIt_280 : decode cX10_walkIt 280 = .ok (.iconst 2, 1) := by decide +kernel
theorem dX10_walkIt_281 : decode cX10_walkIt 281 = .ok (.iadd, 1) := by decide +kernel
theorem dX10_walkIt_282 : decode cX10_walkIt 282 = .ok (.dup2, 1) := by decide +kernel
theorem dX10_walkIt_283 : decode cX10_walkIt 283 = .ok (.iaload, 1) := by decide +kernel
theorem dX10_walkIt_284 : decode cX10_walkIt 284 = .ok (.iload 6, 2) := by decide +kernel
theorem dX10_walkIt_286 : decode cX10_walkIt 286 = .ok (.iadd, 1) := by decide +kernel
theorem dX10_walkIt_287 : decode cX10_walkIt 287 = .ok (.iastore, 1) := by decide +kernel
theorem dX10_walkIt_288 : decode cX10_walkIt 288 = .ok (.aload_n 0, 1) := by decide +kernel
