theorem dX10_owedBy_21 : decode cX10_owedBy 21 = .ok (.iload_n 3, 1) := by decide +kernel
theorem dX10_owedBy_22 : decode cX10_owedBy 22 = .ok (.invokevirtual 183, 3) := by decide +kernel
theorem dX10_owedBy_25 : decode cX10_owedBy 25 = .ok (.ifCond .eq 33, 3) := by decide +kernel
theorem dX10_owedBy_28 : decode cX10_owedBy 28 = .ok (.aload_n 0, 1) := by decide +kernel
theorem dX10_owedBy_29 : decode cX10_owedBy 29 = .ok (.getfield 9, 3) := by decide +kernel
theorem dX10_owedBy_32 : decode cX10_owedBy 32 = .ok (.iload 4, 2) := by decide +kernel
theorem dX10_owedBy_34 : decode cX10_owedBy 34 = .ok (.iconst 4, 1) := by decide +kernel
theorem dX10_owedBy_35 : decode cX10_owedBy 35 = .ok (.iadd, 1) := by decide +kernel
theorem dX10_owedBy_36 : decode cX10_owedBy 36 = .ok (.iaload, 1) := by decide +kernel
theorem dX10_owedBy_37 : decode cX10_owedBy 37 = .ok (.iload_n 1, 1) := by decide +kernel
theorem dX10_owedBy_38 : decode cX10_owedBy 38 = .ok (.if_icmp .ne 20, 3) := by decide +kernel
theorem dX10_owedBy_41 : decode cX10_owedBy 41 = .ok (.aload_n 0, 1) := by decide +kernel
theorem dX10_owedBy_42 : decode cX10_owedBy 42 = .ok (.getfield 9, 3) := by decide +kernel
theorem dX10_owedBy_45 : decode cX10_owedBy 45 = .ok (.iload 4, 2) := by decide +kernel
theorem dX10_owedBy_47 : decode cX10_owedBy 47 = .ok (.bipush 6, 2) := by decide +kernel
theorem dX10_owedBy_49 : decode cX10_owedBy 49 = .ok (.iadd, 1) := by decide +kernel
theorem dX10_owedBy_50 : decode cX10_owedBy 50 = .ok (.iaload, 1) := by decide +kernel
theorem dX10_owedBy_51 : decode cX10_owedBy 51 = .ok (.ifCond .ne 7, 3) := by decide +kernel
theorem dX10_owedBy_54 : decode cX10_owedBy 54 = .ok (.iconst 1, 1) := by decide +kernel
theorem dX10_owedBy_55 : decode cX10_owedBy 55 = .ok (.goto 4, 3) := by decide +kernel
theorem dX10_owedBy_58 : decode cX10_owedBy 58 = .ok (.iconst 0, 1) := by decide +kernel
theorem dX10_owedBy_59 : decode cX10_owedBy 59 = .ok (.istore 5, 2) := by decide +kernel
theorem dX10_owedBy_61 : decode cX10_owedBy 61 = .ok (.iload_n 2, 1) := by decide +kernel
theorem dX10_owedBy_62 : decode cX10_owedBy 62 = .ok (.iload 5, 2) := by decide +kernel
theorem dX10_owedBy_64 : decode cX10_owedBy 64 = .ok (.ifCond .eq 21, 3) := by decide +kernel
theorem dX10_owedBy_67 : decode cX10_owedBy 67 = .ok (.aload_n 0, 1) := by decide +kernel
theorem dX10_owedBy_68 : decode cX10_owedBy 68 = .ok (.getfield 9, 3) := by decide +kernel
theorem dX10_owedBy_71 : decode cX10_owedBy 71 = .ok (.iload 4, 2) := by decide +kernel
theorem dX10_owedBy_73 : decode cX10_owedBy 73 = .ok (.iconst 5, 1) := by decide +kernel
theorem dX10_owedBy_74 : decode cX10_owedBy 74 = .ok (.iadd, 1) := by decide +kernel
theorem dX10_owedBy_75 : decode cX10_owedBy 75 = .ok (.iaload, 1) := by decide +kernel
theorem dX10_owedBy_76 : decode cX10_owedBy 76 = .ok (.aload_n 0, 1) := by decide +kernel
theorem dX10_owedBy_77 : decode cX10_owedBy 77 = .ok (.iload_n 3, 1) := by decide +kernel
theorem dX10_owedBy_78 : decode cX10_owedBy 78 = .ok (.invokevirtual 162, 3) := by decide +kernel
theorem dX10_owedBy_81 : decode cX10_owedBy 81 = .ok (.imul, 1) := by decide +kernel
theorem dX10_owedBy_82 : decode cX10_owedBy 82 = .ok (.goto 4, 3) := by decide +kernel
theorem dX10_owedBy_85 : decode cX10_owedBy 85 = .ok (.iconst 0, 1) := by decide +kernel
theorem dX10_owedBy_86 : decode cX10_owedBy 86 = .ok (.iadd, 1) := by decide +kernel
theorem dX10_owedBy_87 : decode cX10_owedBy 87 = .ok (.istore_n 2, 1) := by decide +kernel
theorem dX10_owedBy_88 : decode cX10_owedBy 88 = .ok (.iinc 3 1, 3) := by decide +kernel
theorem dX10_owedBy_91 : decode cX10_owedBy 91 = .ok (.goto (-87), 3) := by decide +kernel
theorem dX10_owedBy_94 : decode cX10_owedBy 94 = .ok (.iload_n 2, 1) := by decide +kernel
theorem dX10_owedBy_95 : decode cX10_owedBy 95 = .ok (.ireturn, 1) := by decide +kernel
set_option maxRecDepth 20000 in
theorem ggX10_owed_X10_isGardener : GoodIn wsX10_owed wsX10_isGardener := goodIn_ca (goodIn_r _ [6, 7, 8, 9, 5, 10, 34, 35, 36, 37, 38, 39, 40, 41, 42, 43, 44, 45, 46, 47, 48, 49, 50, 51, 52, 53, 54] (by decide +kernel) (by decide +kernel)) (goodIn_sub (fun _ h => List.mem_cons_of_mem _ (List.mem_append_right _ h)) (by decide +kernel))
set_option maxRecDepth 20000 in
theorem gX10_owed_X10_isGardener : GoodIn wsX10_owed (wsV RX10 117 RX10 yX10_isGardener wsX10_isGardener) := goodIn_app (goodIn_of _ (by decide +kernel)) ggX10_owed_X10_isGardener
set_option maxRecDepth 20000 in
theorem ggX10_owed_X10_owedBy : GoodIn wsX10_owed wsX10_owedBy := goodIn_ca (goodIn_r _ [14, 7, 15, 16, 5, 17, 18, 19, 20, 21, 22, 23, 24, 25, 26, 27, 28, 29, 34, 35, 36, 37, 38, 39, 40, 41, 42, 43, 44, 45, 46, 47, 48, 49, 50, 51, 52, 53, 54] (by decide +kernel) (by decide +kernel)) (goodIn_sub (fun _ h => List.mem_cons_of_mem _ (List.mem_append_right _ h)) (by decide +kernel))
set_option maxRecDepth 20000 in
theorem gX10_owed_X10_owedBy : GoodIn wsX10_owed (wsV RX10 189 RX10 yX10_owedBy wsX10_owedBy) := goodIn_app (goodIn_of _ (by decide +kernel)) ggX10_owed_X10_owedBy
set_option maxRecDepth 20000 in
theorem ggX10_owed_X10_throwing : GoodIn wsX10_owed wsX10_throwing := goodIn_r _ [33, 1, 34, 35, 36, 37, 38, 39, 40, 41, 42, 43, 44, 45, 46, 47, 48, 49, 50, 51, 52, 53, 54] (by decide +kernel) (by decide +kernel)
set_option maxRecDepth 20000 in
theorem gX10_owed_X10_throwing : GoodIn wsX10_owed (wsV RX10 50 RX10 yX10_throwing wsX10_throwing) := goodIn_app (goodIn_of _ (by decide +kernel)) ggX10_owed_X10_throwing
theorem dX10_owed_0 : decode cX10_owed 0 = .ok (.aload_n 0, 1) := by decide +kernel
theorem dX10_owed_1 : decode cX10_owed 1 = .ok (.iconst 0, 1) := by decide +kernel
theorem dX10_owed_2 : decode cX10_owed 2 = .ok (.putfield 38, 3) := by decide +kernel
theorem dX10_owed_5 : decode cX10_owed 5 = .ok (.aload_n 0, 1) := by decide +kernel
theorem dX10_owed_6 : decode cX10_owed 6 = .ok (.iload_n 1, 1) := by decide +kernel
theorem dX10_owed_7 : decode cX10_owed 7 = .ok (.invokevirtual 117, 3) := by decide +kernel
theorem dX10_owed_10 : decode cX10_owed 10 = .ok (.ifCond .eq 11, 3) := by decide +kernel
theorem dX10_owed_13 : decode cX10_owed 13 = .ok (.aload_n 0, 1) := by decide +kernel
theorem dX10_owed_14 : decode cX10_owed 14 = .ok (.iload_n 1, 1) := by decide +kernel
theorem dX10_owed_15 : decode cX10_owed 15 = .ok (.invokevirtual 189, 3) := by decide +kernel
theorem dX10_owed_18 : decode cX10_owed 18 = .ok (.goto 8, 3) := by decide +kernel
theorem dX10_owed_21 : decode cX10_owed 21 = .ok (.aload_n 0, 1) := by decide +kernel
theorem dX10_owed_22 : decode cX10_owed 22 = .ok (.iconst 1, 1) := by decide +kernel
theorem dX10_owed_23 : decode cX10_owed 23 = .ok (.invokevirtual 50, 3) := by decide +kernel
theorem dX10_owed_26 : decode cX10_owed 26 = .ok (.ireturn, 1) := by decide +kernel
set_option maxRecDepth 20000 in
theorem ggX10_measured_X10_visitorAt : GoodIn wsX10_measured wsX10_visitorAt := goodIn_r _ [5] (by decide +kernel) (by decide +kernel)
set_option maxRecDepth 20000 in
theorem gX10_measured_X10_visitorAt : GoodIn wsX10_measured (va_wsS RX10 126 yX10_visitorAt wsX10_visitorAt) := goodIn_app (goodIn_of _ (by decide +kernel)) ggX10_measured_X10_visitorAt
set_option maxRecDepth 20000 in
theorem ggX10_measured_X10_lostOf : GoodIn wsX10_measured wsX10_lostOf := goodIn_ca (goodIn_r _ [9, 1, 10, 11, 12, 13, 2, 3, 4, 5, 14, 15, 16, 17, 18, 19, 20, 21, 22, 23, 24, 25, 26, 27, 28, 29, 30, 31, 32, 33, 34] (by decide +kernel) (by decide +kernel)) (goodIn_sub (fun _ h => List.mem_cons_of_mem _ (List.mem_append_right _ h)) (by decide +kernel))
set_option maxRecDepth 20000 in
theorem gX10_measured_X10_lostOf : GoodIn wsX10_measured (wsV RX10 162 RX10 yX10_lostOf wsX10_lostOf) := goodIn_app (goodIn_of _ (by decide +kernel)) ggX10_measured_X10_lostOf
theorem dX10_measured_0 : decode cX10_measured 0 = .ok (.iload_n 2, 1) := by decide +kernel
theorem dX10_measured_1 : decode cX10_measured 1 = .ok (.invokestatic 126, 3) := by decide +kernel
theorem dX10_measured_4 : decode cX10_measured 4 = .ok (.istore_n 3, 1) := by decide +kernel
theorem dX10_measured_5 : decode cX10_measured 5 = .ok (.iload_n 1, 1) := by decide +kernel
theorem dX10_measured_6 : decode cX10_measured 6 = .ok (.tableswitch 48 0 2 #[26, 33, 42], 26) := by decide +kernel
theorem dX10_measured_32 : decode cX10_measured 32 = .ok (.aload_n 0, 1) := by decide +kernel
theorem dX10_measured_33 : decode cX10_measured 33 = .ok (.getfield 9, 3) := by decide +kernel
theorem dX10_measured_36 : decode cX10_measured 36 = .ok (.iload_n 3, 1) := by decide +kernel
theorem dX10_measured_37 : decode cX10_measured 37 = .ok (.iaload, 1) := by decide +kernel
theorem dX10_measured_38 : decode cX10_measured 38 = .ok (.ireturn, 1) := by decide +kernel
theorem dX10_measured_39 : decode cX10_measured 39 = .ok (.aload_n 0, 1) := by decide +kernel
theorem dX10_measured_40 : decode cX10_measured 40 = .ok (.getfield 9, 3) := by decide +kernel
theorem dX10_measured_43 : decode cX10_measured 43 = .ok (.iload_n 3, 1) := by decide +kernel
theorem dX10_measured_44 : decode cX10_measured 44 = .ok (.iconst 2, 1) := by decide +kernel
theorem dX10_measured_45 : decode cX10_measured 45 = .ok (.iadd, 1) := by decide +kernel
theorem dX10_measured_46 : decode cX10_measured 46 = .ok (.iaload, 1) := by decide +kernel
theorem dX10_measured_47 : decode cX10_measured 47 = .ok (.ireturn, 1) := by decide +kernel
theorem dX10_measured_48 : decode cX10_measured 48 = .ok (.aload_n 0, 1) := by decide +kernel
theorem dX10_measured_49 : decode cX10_measured 49 = .ok (.iload_n 2, 1) := by decide +kernel
theorem dX10_measured_50 : decode cX10_measured 50 = .ok (.invokevirtual 162, 3) := by decide +kernel
theorem dX10_measured_53 : decode cX10_measured 53 = .ok (.ireturn, 1) := by decide +kernel
theorem dX10_measured_54 : decode cX10_measured 54 = .ok (.aload_n 0, 1) := by decide +kernel
theorem dX10_measured_55 : decode cX10_measured 55 = .ok (.getfield 9, 3) := by decide +kernel
theorem dX10_measured_58 : decode cX10_measured 58 = .ok (.iload_n 3, 1) := by decide +kernel
theorem dX10_measured_59 : decode cX10_measured 59 = .ok (.iconst 5, 1) := by decide +kernel
theorem dX10_measured_60 : decode cX10_measured 60 = .ok (.iadd, 1) := by decide +kernel
theorem dX10_measured_61 : decode cX10_measured 61 = .ok (.iaload, 1) := by decide +kernel
theorem dX10_measured_62 : decode cX10_measured 62 = .ok (.ireturn, 1) := by decide +kernel
set_option maxRecDepth 20000 in
theorem ggX10_ranked_X10_in : GoodIn wsX10_ranked wsX10_in := goodIn_r _ [7] (by decide +kernel) (by decide +kernel)
set_option maxRecDepth 20000 in
theorem gX10_ranked_X10_in : GoodIn wsX10_ranked (va_wsS RX10 59 yX10_in wsX10_in) := goodIn_app (goodIn_of _ (by decide +kernel)) ggX10_ranked_X10_in
set_option maxRecDepth 20000 in
theorem ggX10_ranked_X10_throwing : GoodIn wsX10_ranked wsX10_throwing := goodIn_r _ [11, 1, 27, 28, 29, 30, 31, 32, 33, 34, 35, 36, 37, 38, 39, 40, 41, 42, 43, 44, 45, 46, 47] (by decide +kernel) (by decide +kernel)
set_option maxRecDepth 20000 in
theorem gX10_ranked_X10_throwing : GoodIn wsX10_ranked (wsV RX10 50 RX10 yX10_throwing wsX10_throwing) := goodIn_app (goodIn_of _ (by decide +kernel)) ggX10_ranked_X10_throwing
set_option maxRecDepth 20000 in
theorem ggX10_ranked_X10_measured : GoodIn wsX10_ranked wsX10_measured := goodIn_ca (goodIn_r _ [15, 3, 16, 17, 6, 18, 19, 20, 21, 22, 23, 24, 25, 26, 27, 28, 29, 30, 31, 32, 33, 34, 35, 36, 37, 38, 39, 40, 41, 42, 43, 44, 45, 46, 47] (by decide +kernel) (by decide +kernel)) (goodIn_sub (fun _ h => List.mem_cons_of_mem _ (List.mem_append_right _ h)) (by decide +kernel))
set_option maxRecDepth 20000 in
theorem gX10_ranked_X10_measured : GoodIn wsX10_ranked (wsV RX10 192 RX10 yX10_measured wsX10_measured) := goodIn_app (goodIn_of _ (by decide +kernel)) ggX10_ranked_X10_measured
theorem dX10_ranked_0 : decode cX10_ranked 0 = .ok (.aload_n 0, 1) := by decide +kernel
theorem dX10_ranked_1 : decode cX10_ranked 1 = .ok (.iconst 0, 1) := by decide +kernel
theorem dX10_ranked_2 : decode cX10_ranked 2 = .ok (.putfield 38, 3) := by decide +kernel
theorem dX10_ranked_5 : decode cX10_ranked 5 = .ok (.iload_n 1, 1) := by decide +kernel
theorem dX10_ranked_6 : decode cX10_ranked 6 = .ok (.i2l, 1) := by decide +kernel
theorem dX10_ranked_7 : decode cX10_ranked 7 = .ok (.lconst 0, 1) := by decide +kernel
theorem dX10_ranked_8 : decode cX10_ranked 8 = .ok (.ldc2_w 63, 3) := by decide +kernel
theorem dX10_ranked_11 : decode cX10_ranked 11 = .ok (.invokestatic 59, 3) := by decide +kernel
theorem dX10_ranked_14 : decode cX10_ranked 14 = .ok (.ifCond .ne 9, 3) := by decide +kernel
theorem dX10_ranked_17 : decode cX10_ranked 17 = .ok (.aload_n 0, 1) := by decide +kernel
theorem dX10_ranked_18 : decode cX10_ranked 18 = .ok (.iconst 1, 1) := by decide +kernel
theorem dX10_ranked_19 : decode cX10_ranked 19 = .ok (.invokevirtual 50, 3) := by decide +kernel
theorem dX10_ranked_22 : decode cX10_ranked 22 = .ok (.ireturn, 1) := by decide +kernel
theorem dX10_ranked_23 : decode cX10_ranked 23 = .ok (.iconst 0, 1) := by decide +kernel
theorem dX10_ranked_24 : decode cX10_ranked 24 = .ok (.istore_n 3, 1) := by decide +kernel
theorem dX10_ranked_25 : decode cX10_ranked 25 = .ok (.iload_n 3, 1) := by decide +kernel
theorem dX10_ranked_26 : decode cX10_ranked 26 = .ok (.aload_n 0, 1) := by decide +kernel
theorem dX10_ranked_27 : decode cX10_ranked 27 = .ok (.getfield 9, 3) := by decide +kernel
theorem dX10_ranked_30 : decode cX10_ranked 30 = .ok (.iconst 1, 1) := by decide +kernel
theorem dX10_ranked_31 : decode cX10_ranked 31 = .ok (.iaload, 1) := by decide +kernel
theorem dX10_ranked_32 : decode cX10_ranked 32 = .ok (.if_icmp .ge 82, 3) := by decide +kernel
theorem dX10_ranked_35 : decode cX10_ranked 35 = .ok (.iconst 0, 1) := by decide +kernel
theorem dX10_ranked_36 : decode cX10_ranked 36 = .ok (.istore 4, 2) := by decide +kernel
theorem dX10_ranked_38 : decode cX10_ranked 38 = .ok (.iconst 0, 1) := by decide +kernel
theorem dX10_ranked_39 : decode cX10_ranked 39 = .ok (.istore 5, 2) := by decide +kernel
theorem dX10_ranked_41 : decode cX10_ranked 41 = .ok (.iload 5, 2) := by decide +kernel
theorem dX10_ranked_43 : decode cX10_ranked 43 = .ok (.aload_n 0, 1) := by decide +kernel
theorem dX10_ranked_44 : decode cX10_ranked 44 = .ok (.getfield 9, 3) := by decide +kernel
theorem dX10_ranked_47 : decode cX10_ranked 47 = .ok (.iconst 1, 1) := by decide +kernel
theorem dX10_ranked_48 : decode cX10_ranked 48 = .ok (.iaload, 1) := by decide +kernel
theorem dX10_ranked_49 : decode cX10_ranked 49 = .ok (.if_icmp .ge 51, 3) := by decide +kernel
theorem dX10_ranked_52 : decode cX10_ranked 52 = .ok (.aload_n 0, 1) := by decide +kernel
theorem dX10_ranked_53 : decode cX10_ranked 53 = .ok (.iload_n 1, 1) := by decide +kernel
theorem dX10_ranked_54 : decode cX10_ranked 54 = .ok (.iload 5, 2) := by decide +kernel
theorem dX10_ranked_56 : decode cX10_ranked 56 = .ok (.invokevirtual 192, 3) := by decide +kernel
theorem dX10_ranked_59 : decode cX10_ranked 59 = .ok (.aload_n 0, 1) := by decide +kernel
theorem dX10_ranked_60 : decode cX10_ranked 60 = .ok (.iload_n 1, 1) := by decide +kernel
theorem dX10_ranked_61 : decode cX10_ranked 61 = .ok (.iload_n 3, 1) := by decide +kernel
theorem dX10_ranked_62 : decode cX10_ranked 62 = .ok (.invokevirtual 192, 3) := by decide +kernel
theorem dX10_ranked_65 : decode cX10_ranked 65 = .ok (.isub, 1) := by decide +kernel
theorem dX10_ranked_66 : decode cX10_ranked 66 = .ok (.istore 6, 2) := by decide +kernel
theorem dX10_ranked_68 : decode cX10_ranked 68 = .ok (.iload 4, 2) := by decide +kernel
theorem dX10_ranked_70 : decode cX10_ranked 70 = .ok (.iload 6, 2) := by decide +kernel
theorem dX10_ranked_72 : decode cX10_ranked 72 = .ok (.ifCond .gt 14, 3) := by decide +kernel
theorem dX10_ranked_75 : decode cX10_ranked 75 = .ok (.iload 6, 2) := by decide +kernel
theorem dX10_ranked_77 : decode cX10_ranked 77 = .ok (.ifCond .ne 13, 3) := by decide +kernel
theorem dX10_ranked_80 : decode cX10_ranked 80 = .ok (.iload 5, 2) := by decide +kernel
theorem dX10_ranked_82 : decode cX10_ranked 82 = .ok (.iload_n 3, 1) := by decide +kernel
theorem dX10_ranked_83 : decode cX10_ranked 83 = .ok (.if_icmp .ge 7, 3) := by decide +kernel
theorem dX10_ranked_86 : decode cX10_ranked 86 = .ok (.iconst 1, 1) := by decide +kernel
theorem dX10_ranked_87 : decode cX10_ranked 87 = .ok (.goto 4, 3) := by decide +kernel
theorem dX10_ranked_90 : decode cX10_ranked 90 = .ok (.iconst 0, 1) := by decide +kernel
theorem dX10_ranked_91 : decode cX10_ranked 91 = .ok (.iadd, 1) := by decide +kernel
theorem dX10_ranked_92 : decode cX10_ranked 92 = .ok (.istore 4, 2) := by decide +kernel
theorem dX10_ranked_94 : decode cX10_ranked 94 = .ok (.iinc 5 1, 3) := by decide +kernel
theorem dX10_ranked_97 : decode cX10_ranked 97 = .ok (.goto (-56), 3) := by decide +kernel
theorem dX10_ranked_100 : decode cX10_ranked 100 = .ok (.iload 4, 2) := by decide +kernel
theorem dX10_ranked_102 : decode cX10_ranked 102 = .ok (.iload_n 2, 1) := by decide +kernel
theorem dX10_ranked_103 : decode cX10_ranked 103 = .ok (.if_icmp .ne 5, 3) := by decide +kernel
theorem dX10_ranked_106 : decode cX10_ranked 106 = .ok (.iload_n 3, 1) := by decide +kernel
theorem dX10_ranked_107 : decode cX10_ranked 107 = .ok (.ireturn, 1) := by decide +kernel
theorem dX10_ranked_108 : decode cX10_ranked 108 = .ok (.iinc 3 1, 3) := by decide +kernel
theorem dX10_ranked_111 : decode cX10_ranked 111 = .ok (.goto (-86), 3) := by decide +kernel
theorem dX10_ranked_114 : decode cX10_ranked 114 = .ok (.aload_n 0, 1) := by decide +kernel
theorem dX10_ranked_115 : decode cX10_ranked 115 = .ok (.iconst 2, 1) := by decide +kernel
theorem dX10_ranked_116 : decode cX10_ranked 116 = .ok (.invokevirtual 50, 3) := by decide +kernel
theorem dX10_ranked_119 : decode cX10_ranked 119 = .ok (.ireturn, 1) := by decide +kernel
set_option maxRecDepth 20000 in
theorem ggX10_richest_X10_gardenerAt : GoodIn wsX10_richest wsX10_gardenerAt := goodIn_r _ [6] (by decide +kernel) (by decide +kernel)
set_option maxRecDepth 20000 in
theorem gX10_richest_X10_gardenerAt : GoodIn wsX10_richest (va_wsS RX10 120 yX10_gardenerAt wsX10_gardenerAt) := goodIn_app (goodIn_of _ (by decide +kernel)) ggX10_richest_X10_gardenerAt
set_option maxRecDepth 20000 in
theorem ggX10_richest_X10_owedBy : GoodIn wsX10_richest wsX10_owedBy := goodIn_ca (goodIn_r _ [10, 2, 11, 12, 5, 13, 14, 15, 16, 17, 18, 19, 20, 21, 22, 23, 24, 25, 30, 31, 32, 33, 34, 35, 36, 37, 38, 39, 40, 41, 42, 43, 44, 45, 46, 47, 48, 49, 50] (by decide +kernel) (by decide +kernel)) (goodIn_sub (fun _ h => List.mem_cons_of_mem _ (List.mem_append_right _ h)) (by decide +kernel))
set_option maxRecDepth 20000 in
theorem gX10_richest_X10_owedBy : GoodIn wsX10_richest (wsV RX10 189 RX10 yX10_owedBy wsX10_owedBy) := goodIn_app (goodIn_of _ (by decide +kernel)) ggX10_richest_X10_owedBy
set_option maxRecDepth 20000 in
theorem ggX10_richest_X10_throwing : GoodIn wsX10_richest wsX10_throwing := goodIn_r _ [29, 1, 30, 31, 32, 33, 34, 35, 36, 37, 38, 39, 40, 41, 42, 43, 44, 45, 46, 47, 48, 49, 50] (by decide +kernel) (by decide +kernel)
set_option maxRecDepth 20000 in
theorem gX10_richest_X10_throwing : GoodIn wsX10_richest (wsV RX10 50 RX10 yX10_throwing wsX10_throwing) := goodIn_app (goodIn_of _ (by decide +kernel)) ggX10_richest_X10_throwing
theorem dX10_richest_0 : decode cX10_richest 0 = .ok (.aload_n 0, 1) := by decide +kernel
theorem dX10_richest_1 : decode cX10_richest 1 = .ok (.iconst 0, 1) := by decide +kernel
theorem dX10_richest_2 : decode cX10_richest 2 = .ok (.putfield 38, 3) := by decide +kernel
theorem dX10_richest_5 : decode cX10_richest 5 = .ok (.iconst 0, 1) := by decide +kernel
theorem dX10_richest_6 : decode cX10_richest 6 = .ok (.istore_n 2, 1) := by decide +kernel
theorem dX10_richest_7 : decode cX10_richest 7 = .ok (.iload_n 2, 1) := by decide +kernel
theorem dX10_richest_8 : decode cX10_richest 8 = .ok (.aload_n 0, 1) := by decide +kernel
theorem dX10_richest_9 : decode cX10_richest 9 = .ok (.getfield 9, 3) := by decide +kernel
theorem dX10_richest_12 : decode cX10_richest 12 = .ok (.iconst 0, 1) := by decide +kernel
theorem dX10_richest_13 : decode cX10_richest 13 = .ok (.iaload, 1) := by decide +kernel
theorem dX10_richest_14 : decode cX10_richest 14 = .ok (.if_icmp .ge 108, 3) := by decide +kernel
theorem dX10_richest_17 : decode cX10_richest 17 = .ok (.iconst 0, 1) := by decide +kernel
theorem dX10_richest_18 : decode cX10_richest 18 = .ok (.istore_n 3, 1) := by decide +kernel
theorem dX10_richest_19 : decode cX10_richest 19 = .ok (.iconst 0, 1) := by decide +kernel
theorem dX10_richest_20 : decode cX10_richest 20 = .ok (.istore 4, 2) := by decide +kernel
theorem dX10_richest_22 : decode cX10_richest 22 = .ok (.iload 4, 2) := by decide +kernel
theorem dX10_richest_24 : decode cX10_richest 24 = .ok (.aload_n 0, 1) := by decide +kernel
theorem dX10_richest_25 : decode cX10_richest 25 = .ok (.getfield 9, 3) := by decide +kernel
theorem dX10_richest_28 : decode cX10_richest 28 = .ok (.iconst 0, 1) := by decide +kernel
theorem dX10_richest_29 : decode cX10_richest 29 = .ok (.iaload, 1) := by decide +kernel
theorem dX10_richest_30 : decode cX10_richest 30 = .ok (.if_icmp .ge 79, 3) := by decide +kernel
theorem dX10_richest_33 : decode cX10_richest 33 = .ok (.aload_n 0, 1) := by decide +kernel
theorem dX10_richest_34 : decode cX10_richest 34 = .ok (.getfield 9, 3) := by decide +kernel
theorem dX10_richest_37 : decode cX10_richest 37 = .ok (.iload 4, 2) := by decide +kernel
theorem dX10_richest_39 : decode cX10_richest 39 = .ok (.invokestatic 120, 3) := by decide +kernel
theorem dX10_richest_42 : decode cX10_richest 42 = .ok (.iaload, 1) := by decide +kernel
theorem dX10_richest_43 : decode cX10_richest 43 = .ok (.aload_n 0, 1) := by decide +kernel
theorem dX10_richest_44 : decode cX10_richest 44 = .ok (.getfield 9, 3) := by decide +kernel
theorem dX10_richest_47 : decode cX10_richest 47 = .ok (.iload_n 2, 1) := by decide +kernel
theorem dX10_richest_48 : decode cX10_richest 48 = .ok (.invokestatic 120, 3) := by decide +kernel
theorem dX10_richest_51 : decode cX10_richest 51 = .ok (.iaload, 1) := by decide +kernel
theorem dX10_richest_52 : decode cX10_richest 52 = .ok (.isub, 1) := by decide +kernel
theorem dX10_richest_53 : decode cX10_richest 53 = .ok (.istore 5, 2) := by decide +kernel
theorem dX10_richest_55 : decode cX10_richest 55 = .ok (.iload 5, 2) := by decide +kernel
theorem dX10_richest_57 : decode cX10_richest 57 = .ok (.ifCond .ne 18, 3) := by decide +kernel
theorem dX10_richest_60 : decode cX10_richest 60 = .ok (.aload_n 0, 1) := by decide +kernel
theorem dX10_richest_61 : decode cX10_richest 61 = .ok (.iload_n 2, 1) := by decide +kernel
theorem dX10_richest_62 : decode cX10_richest 62 = .ok (.invokevirtual 189, 3) := by decide +kernel
theorem dX10_richest_65 : decode cX10_richest 65 = .ok (.aload_n 0, 1) := by decide +kernel
theorem dX10_richest_66 : decode cX10_richest 66 = .ok (.iload 4, 2) := by decide +kernel
theorem dX10_richest_68 : decode cX10_richest 68 = .ok (.invokevirtual 189, 3) := by decide +kernel
theorem dX10_richest_71 : decode cX10_richest 71 = .ok (.isub, 1) := by decide +kernel
theorem dX10_richest_72 : decode cX10_richest 72 = .ok (.goto 5, 3) := by decide +kernel
theorem dX10_richest_75 : decode cX10_richest 75 = .ok (.iload 5, 2) := by decide +kernel
theorem dX10_richest_77 : decode cX10_richest 77 = .ok (.istore 6, 2) := by decide +kernel
theorem dX10_richest_79 : decode cX10_richest 79 = .ok (.iload_n 3, 1) := by decide +kernel
theorem dX10_richest_80 : decode cX10_richest 80 = .ok (.iload 6, 2) := by decide +kernel
theorem dX10_richest_82 : decode cX10_richest 82 = .ok (.ifCond .gt 14, 3) := by decide +kernel
theorem dX10_richest_85 : decode cX10_richest 85 = .ok (.iload 6, 2) := by decide +kernel
theorem dX10_richest_87 : decode cX10_richest 87 = .ok (.ifCond .ne 13, 3) := by decide +kernel
theorem dX10_richest_90 : decode cX10_richest 90 = .ok (.iload 4, 2) := by decide +kernel
theorem dX10_richest_92 : decode cX10_richest 92 = .ok (.iload_n 2, 1) := by decide +kernel
theorem dX10_richest_93 : decode cX10_richest 93 = .ok (.if_icmp .ge 7, 3) := by decide +kernel
theorem dX10_richest_96 : decode cX10_richest 96 = .ok (.iconst 1, 1) := by decide +kernel
theorem dX10_richest_97 : decode cX10_richest 97 = .ok (.goto 4, 3) := by decide +kernel
theorem dX10_richest_100 : decode cX10_richest 100 = .ok (.iconst 0, 1) := by decide +kernel
theorem dX10_richest_101 : decode cX10_richest 101 = .ok (.iadd, 1) := by decide +kernel
theorem dX10_richest_102 : decode cX10_richest 102 = .ok (.istore_n 3, 1) := by decide +kernel
theorem dX10_richest_103 : decode cX10_richest 103 = .ok (.iinc 4 1, 3) := by decide +kernel
theorem dX10_richest_106 : decode cX10_richest 106 = .ok (.goto (-84), 3) := by decide +kernel
theorem dX10_richest_109 : decode cX10_richest 109 = .ok (.iload_n 3, 1) := by decide +kernel
theorem dX10_richest_110 : decode cX10_richest 110 = .ok (.iload_n 1, 1) := by decide +kernel
theorem dX10_richest_111 : decode cX10_richest 111 = .ok (.if_icmp .ne 5, 3) := by decide +kernel
theorem dX10_richest_114 : decode cX10_richest 114 = .ok (.iload_n 2, 1) := by decide +kernel
theorem dX10_richest_115 : decode cX10_richest 115 = .ok (.ireturn, 1) := by decide +kernel
theorem dX10_richest_116 : decode cX10_richest 116 = .ok (.iinc 2 1, 3) := by decide +kernel
theorem dX10_richest_119 : decode cX10_richest 119 = .ok (.goto (-112), 3) := by decide +kernel
theorem dX10_richest_122 : decode cX10_richest 122 = .ok (.aload_n 0, 1) := by decide +kernel
theorem dX10_richest_123 : decode cX10_richest 123 = .ok (.iconst 1, 1) := by decide +kernel
theorem dX10_richest_124 : decode cX10_richest 124 = .ok (.invokevirtual 50, 3) := by decide +kernel
theorem dX10_richest_127 : decode cX10_richest 127 = .ok (.ireturn, 1) := by decide +kernel
set_option maxRecDepth 20000 in
theorem ggX10_append_X10_throwing : GoodIn wsX10_append wsX10_throwing := goodIn_r _ [8, 1, 9, 10, 11, 12, 13, 14, 15, 16, 17, 18, 19, 20, 21, 22, 23, 24, 25, 26, 27, 28, 29] (by decide +kernel) (by decide +kernel)
set_option maxRecDepth 20000 in
theorem gX10_append_X10_throwing : GoodIn wsX10_append (wsV RX10 50 RX10 yX10_throwing wsX10_throwing) := goodIn_app (goodIn_of _ (by decide +kernel)) ggX10_append_X10_throwing
theorem dX10_append_0 : decode cX10_append 0 = .ok (.aload_n 0, 1) := by decide +kernel
theorem dX10_append_1 : decode cX10_append 1 = .ok (.iconst 0, 1) := by decide +kernel
theorem dX10_append_2 : decode cX10_append 2 = .ok (.putfield 38, 3) := by decide +kernel
theorem dX10_append_5 : decode cX10_append 5 = .ok (.aload_n 0, 1) := by decide +kernel
theorem dX10_append_6 : decode cX10_append 6 = .ok (.getfield 195, 3) := by decide +kernel
theorem dX10_append_9 : decode cX10_append 9 = .ok (.bipush 60, 2) := by decide +kernel
theorem dX10_append_11 : decode cX10_append 11 = .ok (.if_icmp .ne 9, 3) := by decide +kernel
theorem dX10_append_14 : decode cX10_append 14 = .ok (.aload_n 0, 1) := by decide +kernel
theorem dX10_append_15 : decode cX10_append 15 = .ok (.iconst 1, 1) := by decide +kernel
theorem dX10_append_16 : decode cX10_append 16 = .ok (.invokevirtual 50, 3) := by decide +kernel
theorem dX10_append_19 : decode cX10_append 19 = .ok (.ireturn, 1) := by decide +kernel
theorem dX10_append_20 : decode cX10_append 20 = .ok (.aload_n 0, 1) := by decide +kernel
theorem dX10_append_21 : decode cX10_append 21 = .ok (.getfield 26, 3) := by decide +kernel
theorem dX10_append_24 : decode cX10_append 24 = .ok (.aload_n 0, 1) := by decide +kernel
theorem dX10_append_25 : decode cX10_append 25 = .ok (.getfield 195, 3) := by decide +kernel
theorem dX10_append_28 : decode cX10_append 28 = .ok (.iload_n 1, 1) := by decide +kernel
theorem dX10_append_29 : decode cX10_append 29 = .ok (.iastore, 1) := by decide +kernel
theorem dX10_append_30 : decode cX10_append 30 = .ok (.aload_n 0, 1) := by decide +kernel
theorem dX10_append_31 : decode cX10_append 31 = .ok (.dup, 1) := by decide +kernel
theorem dX10_append_32 : decode cX10_append 32 = .ok (.getfield 195, 3) := by decide +kernel
theorem dX10_append_35 : decode cX10_append 35 = .ok (.iconst 1, 1) := by decide +kernel
theorem dX10_append_36 : decode cX10_append 36 = .ok (.iadd, 1) := by decide +kernel
theorem dX10_append_37 : decode cX10_append 37 = .ok (.putfield 195, 3) := by decide +kernel
theorem dX10_append_40 : decode cX10_append 40 = .ok (.aload_n 0, 1) := by decide +kernel
theorem dX10_append_41 : decode cX10_append 41 = .ok (.getfield 195, 3) := by decide +kernel
theorem dX10_append_44 : decode cX10_append 44 = .ok (.ireturn, 1) := by decide +kernel
theorem dX10_here_0 : decode cX10_here 0 = .ok (.aload_n 0, 1) := by decide +kernel
theorem dX10_here_1 : decode cX10_here 1 = .ok (.getfield 198, 3) := by decide +kernel
theorem dX10_here_4 : decode cX10_here 4 = .ok (.aload_n 0, 1) := by decide +kernel
theorem dX10_here_5 : decode cX10_here 5 = .ok (.getfield 201, 3) := by decide +kernel
theorem dX10_here_8 : decode cX10_here 8 = .ok (.if_icmp .ge 15, 3) := by decide +kernel
theorem dX10_here_11 : decode cX10_here 11 = .ok (.aload_n 0, 1) := by decide +kernel
theorem dX10_here_12 : decode cX10_here 12 = .ok (.getfield 26, 3) := by decide +kernel
theorem dX10_here_15 : decode cX10_here 15 = .ok (.aload_n 0, 1) := by decide +kernel
theorem dX10_here_16 : decode cX10_here 16 = .ok (.getfield 198, 3) := by decide +kernel
theorem dX10_here_19 : decode cX10_here 19 = .ok (.iaload, 1) := by decide +kernel
theorem dX10_here_20 : decode cX10_here 20 = .ok (.goto 4, 3) := by decide +kernel
theorem dX10_here_23 : decode cX10_here 23 = .ok (.iconst (-1), 1) := by decide +kernel
theorem dX10_here_24 : decode cX10_here 24 = .ok (.ireturn, 1) := by decide +kernel
theorem dX10_expects_0 : decode cX10_expects 0 = .ok (.aload_n 0, 1) := by decide +kernel
theorem dX10_expects_1 : decode cX10_expects 1 = .ok (.aload_n 0, 1) := by decide +kernel
theorem dX10_expects_2 : decode cX10_expects 2 = .ok (.getfield 204, 3) := by decide +kernel
theorem dX10_expects_5 : decode cX10_expects 5 = .ok (.ifCond .ne 7, 3) := by decide +kernel
theorem dX10_expects_8 : decode cX10_expects 8 = .ok (.iload_n 1, 1) := by decide +kernel
theorem dX10_expects_9 : decode cX10_expects 9 = .ok (.ifCond .ne 7, 3) := by decide +kernel
theorem dX10_expects_12 : decode cX10_expects 12 = .ok (.iconst 1, 1) := by decide +kernel
theorem dX10_expects_13 : decode cX10_expects 13 = .ok (.goto 4, 3) := by decide +kernel
theorem dX10_expects_16 : decode cX10_expects 16 = .ok (.iconst 0, 1) := by decide +kernel
theorem dX10_expects_17 : decode cX10_expects 17 = .ok (.putfield 204, 3) := by decide +kernel
theorem dX10_expects_20 : decode cX10_expects 20 = .ok (.aload_n 0, 1) := by decide +kernel
theorem dX10_expects_21 : decode cX10_expects 21 = .ok (.dup, 1) := by decide +kernel
theorem dX10_expects_22 : decode cX10_expects 22 = .ok (.getfield 198, 3) := by decide +kernel
theorem dX10_expects_25 : decode cX10_expects 25 = .ok (.aload_n 0, 1) := by decide +kernel
theorem dX10_expects_26 : decode cX10_expects 26 = .ok (.getfield 204, 3) := by decide +kernel
theorem dX10_expects_29 : decode cX10_expects 29 = .ok (.ifCond .eq 7, 3) := by decide +kernel
theorem dX10_expects_32 : decode cX10_expects 32 = .ok (.iconst 0, 1) := by decide +kernel
theorem dX10_expects_33 : decode cX10_expects 33 = .ok (.goto 4, 3) := by decide +kernel
theorem dX10_expects_36 : decode cX10_expects 36 = .ok (.iconst 1, 1) := by decide +kernel
theorem dX10_expects_37 : decode cX10_expects 37 = .ok (.iadd, 1) := by decide +kernel
theorem dX10_expects_38 : decode cX10_expects 38 = .ok (.putfield 198, 3) := by decide +kernel
theorem dX10_expects_41 : decode cX10_expects 41 = .ok (.return_, 1) := by decide +kernel
set_option maxRecDepth 20000 in
theorem ggX10_digit_X10_here : GoodIn wsX10_digit wsX10_here := goodIn_ca (goodIn_r _ [8, 9, 10, 11, 19, 20, 21, 22, 23, 24, 25, 26, 27, 28, 29, 30, 31, 32, 33, 34, 35, 36, 37, 38, 39] (by decide +kernel) (by decide +kernel)) (goodIn_sub (fun _ h => List.mem_cons_of_mem _ (List.mem_append_right _ h)) (by decide +kernel))
set_option maxRecDepth 20000 in
theorem gX10_digit_X10_here : GoodIn wsX10_digit (wsV RX10 208 RX10 yX10_here wsX10_here) := goodIn_app (goodIn_of _ (by decide +kernel)) ggX10_digit_X10_here
set_option maxRecDepth 20000 in
theorem ggX10_digit_X10_in : GoodIn wsX10_digit wsX10_in := goodIn_r _ [14] (by decide +kernel) (by decide +kernel)
set_option maxRecDepth 20000 in
theorem gX10_digit_X10_in : GoodIn wsX10_digit (va_wsS RX10 59 yX10_in wsX10_in) := goodIn_app (goodIn_of _ (by decide +kernel)) ggX10_digit_X10_in
set_option maxRecDepth 20000 in
theorem ggX10_digit_X10_expects : GoodIn wsX10_digit wsX10_expects := goodIn_r _ [18, 3, 9, 19, 20, 21, 22, 23, 24, 25, 26, 27, 28, 29, 30, 31, 32, 33, 34, 35, 36, 37, 38, 39] (by decide +kernel) (by decide +kernel)
set_option maxRecDepth 20000 in
theorem gX10_digit_X10_expects : GoodIn wsX10_digit (wsV RX10 215 RX10 yX10_expects wsX10_expects) := goodIn_app (goodIn_of _ (by decide +kernel)) ggX10_digit_X10_expects
theorem dX10_digit_0 : decode cX10_digit 0 = .ok (.aload_n 0, 1) := by decide +kernel
theorem dX10_digit_1 : decode cX10_digit 1 = .ok (.invokevirtual 208, 3) := by decide +kernel
theorem dX10_digit_4 : decode cX10_digit 4 = .ok (.bipush 48, 2) := by decide +kernel
theorem dX10_digit_6 : decode cX10_digit 6 = .ok (.isub, 1) := by decide +kernel
theorem dX10_digit_7 : decode cX10_digit 7 = .ok (.istore_n 1, 1) := by decide +kernel
theorem dX10_digit_8 : decode cX10_digit 8 = .ok (.aload_n 0, 1) := by decide +kernel
theorem dX10_digit_9 : decode cX10_digit 9 = .ok (.aload_n 0, 1) := by decide +kernel
theorem dX10_digit_10 : decode cX10_digit 10 = .ok (.invokevirtual 208, 3) := by decide +kernel
theorem dX10_digit_13 : decode cX10_digit 13 = .ok (.i2l, 1) := by decide +kernel
theorem dX10_digit_14 : decode cX10_digit 14 = .ok (.ldc2_w 211, 3) := by decide +kernel
theorem dX10_digit_17 : decode cX10_digit 17 = .ok (.ldc2_w 213, 3) := by decide +kernel
theorem dX10_digit_20 : decode cX10_digit 20 = .ok (.invokestatic 59, 3) := by decide +kernel
theorem dX10_digit_23 : decode cX10_digit 23 = .ok (.invokevirtual 215, 3) := by decide +kernel
theorem dX10_digit_26 : decode cX10_digit 26 = .ok (.aload_n 0, 1) := by decide +kernel
theorem dX10_digit_27 : decode cX10_digit 27 = .ok (.getfield 204, 3) := by decide +kernel
theorem dX10_digit_30 : decode cX10_digit 30 = .ok (.ifCond .eq 7, 3) := by decide +kernel
theorem dX10_digit_33 : decode cX10_digit 33 = .ok (.iconst 0, 1) := by decide +kernel
theorem dX10_digit_34 : decode cX10_digit 34 = .ok (.goto 4, 3) := by decide +kernel
theorem dX10_digit_37 : decode cX10_digit 37 = .ok (.iload_n 1, 1) := by decide +kernel
theorem dX10_digit_38 : decode cX10_digit 38 = .ok (.ireturn, 1) := by decide +kernel
set_option maxRecDepth 20000 in
theorem ggX10_number_X10_digit : GoodIn wsX10_number wsX10_digit := goodIn_ca (goodIn_r _ [8, 2, 3, 1, 9, 10, 11, 7, 12, 13, 14, 15, 16, 17, 18, 19, 20, 21, 22, 23, 24, 25, 26, 27, 28, 29, 30, 31, 32, 33, 34, 35, 36, 37, 38, 39, 40, 41, 42, 43] (by decide +kernel) (by decide +kernel)) (goodIn_sub (fun _ h => List.mem_cons_of_mem _ (List.mem_append_right _ h)) (by decide +kernel))
set_option maxRecDepth 20000 in
theorem gX10_number_X10_digit : GoodIn wsX10_number (wsV RX10 219 RX10 yX10_digit wsX10_digit) := goodIn_app (goodIn_of _ (by decide +kernel)) ggX10_number_X10_digit
set_option maxRecDepth 20000 in
theorem ggX10_number_X10_here : GoodIn wsX10_number wsX10_here := goodIn_ca (goodIn_r _ [12, 13, 14, 15, 23, 24, 25, 26, 27, 28, 29, 30, 31, 32, 33, 34, 35, 36, 37, 38, 39, 40, 41, 42, 43] (by decide +kernel) (by decide +kernel)) (goodIn_sub (fun _ h => List.mem_cons_of_mem _ (List.mem_append_right _ h)) (by decide +kernel))
set_option maxRecDepth 20000 in
theorem gX10_number_X10_here : GoodIn wsX10_number (wsV RX10 208 RX10 yX10_here wsX10_here) := goodIn_app (goodIn_of _ (by decide +kernel)) ggX10_number_X10_here
set_option maxRecDepth 20000 in
theorem ggX10_number_X10_in : GoodIn wsX10_number wsX10_in := goodIn_r _ [18] (by decide +kernel) (by decide +kernel)
set_option maxRecDepth 20000 in
theorem gX10_number_X10_in : GoodIn wsX10_number (va_wsS RX10 59 yX10_in wsX10_in) := goodIn_app (goodIn_of _ (by decide +kernel)) ggX10_number_X10_in
theorem dX10_number_0 : decode cX10_number 0 = .ok (.aload_n 0, 1) := by decide +kernel
theorem dX10_number_1 : decode cX10_number 1 = .ok (.invokevirtual 219, 3) := by decide +kernel
theorem dX10_number_4 : decode cX10_number 4 = .ok (.istore_n 1, 1) := by decide +kernel
theorem dX10_number_5 : decode cX10_number 5 = .ok (.aload_n 0, 1) := by decide +kernel
theorem dX10_number_6 : decode cX10_number 6 = .ok (.getfield 204, 3) := by decide +kernel
theorem dX10_number_9 : decode cX10_number 9 = .ok (.ifCond .ne 32, 3) := by decide +kernel
theorem dX10_number_12 : decode cX10_number 12 = .ok (.aload_n 0, 1) := by decide +kernel
theorem dX10_number_13 : decode cX10_number 13 = .ok (.invokevirtual 208, 3) := by decide +kernel
theorem dX10_number_16 : decode cX10_number 16 = .ok (.i2l, 1) := by decide +kernel
theorem dX10_number_17 : decode cX10_number 17 = .ok (.ldc2_w 211, 3) := by decide +kernel
theorem dX10_number_20 : decode cX10_number 20 = .ok (.ldc2_w 213, 3) := by decide +kernel
theorem dX10_number_23 : decode cX10_number 23 = .ok (.invokestatic 59, 3) := by decide +kernel
theorem dX10_number_26 : decode cX10_number 26 = .ok (.ifCond .eq 15, 3) := by decide +kernel
theorem dX10_number_29 : decode cX10_number 29 = .ok (.bipush 10, 2) := by decide +kernel
theorem dX10_number_31 : decode cX10_number 31 = .ok (.iload_n 1, 1) := by decide +kernel
theorem dX10_number_32 : decode cX10_number 32 = .ok (.imul, 1) := by decide +kernel
theorem dX10_number_33 : decode cX10_number 33 = .ok (.aload_n 0, 1) := by decide +kernel
theorem dX10_number_34 : decode cX10_number 34 = .ok (.invokevirtual 219, 3) := by decide +kernel
theorem dX10_number_37 : decode cX10_number 37 = .ok (.iadd, 1) := by decide +kernel
theorem dX10_number_38 : decode cX10_number 38 = .ok (.goto 4, 3) := by decide +kernel
theorem dX10_number_41 : decode cX10_number 41 = .ok (.iload_n 1, 1) := by decide +kernel
theorem dX10_number_42 : decode cX10_number 42 = .ok (.ireturn, 1) := by decide +kernel
theorem dX10_directionOf_0 : decode cX10_directionOf 0 = .ok (.iload_n 0, 1) := by decide +kernel
theorem dX10_directionOf_1 : decode cX10_directionOf 1 = .ok (.bipush 110, 2) := by decide +kernel
theorem dX10_directionOf_3 : decode cX10_directionOf 3 = .ok (.if_icmp .ne 7, 3) := by decide +kernel
theorem dX10_directionOf_6 : decode cX10_directionOf 6 = .ok (.iconst 0, 1) := by decide +kernel
theorem dX10_directionOf_7 : decode cX10_directionOf 7 = .ok (.goto 34, 3) := by decide +kernel
theorem dX10_directionOf_10 : decode cX10_directionOf 10 = .ok (.iload_n 0, 1) := by decide +kernel
theorem dX10_directionOf_11 : decode cX10_directionOf 11 = .ok (.bipush 101, 2) := by decide +kernel
theorem dX10_directionOf_13 : decode cX10_directionOf 13 = .ok (.if_icmp .ne 7, 3) := by decide +kernel
theorem dX10_directionOf_16 : decode cX10_directionOf 16 = .ok (.iconst 1, 1) := by decide +kernel
theorem dX10_directionOf_17 : decode cX10_directionOf 17 = .ok (.goto 24, 3) := by decide +kernel
theorem dX10_directionOf_20 : decode cX10_directionOf 20 = .ok (.iload_n 0, 1) := by decide +kernel
theorem dX10_directionOf_21 : decode cX10_directionOf 21 = .ok (.bipush 115, 2) := by decide +kernel
theorem dX10_directionOf_23 : decode cX10_directionOf 23 = .ok (.if_icmp .ne 7, 3) := by decide +kernel
theorem dX10_directionOf_26 : decode cX10_directionOf 26 = .ok (.iconst 2, 1) := by decide +kernel
theorem dX10_directionOf_27 : decode cX10_directionOf 27 = .ok (.goto 14, 3) := by decide +kernel
theorem dX10_directionOf_30 : decode cX10_directionOf 30 = .ok (.iload_n 0, 1) := by decide +kernel
theorem dX10_directionOf_31 : decode cX10_directionOf 31 = .ok (.bipush 119, 2) := by decide +kernel
theorem dX10_directionOf_33 : decode cX10_directionOf 33 = .ok (.if_icmp .ne 7, 3) := by decide +kernel
theorem dX10_directionOf_36 : decode cX10_directionOf 36 = .ok (.iconst 3, 1) := by decide +kernel
theorem dX10_directionOf_37 : decode cX10_directionOf 37 = .ok (.goto 4, 3) := by decide +kernel
theorem dX10_directionOf_40 : decode cX10_directionOf 40 = .ok (.iconst (-1), 1) := by decide +kernel
theorem dX10_directionOf_41 : decode cX10_directionOf 41 = .ok (.ireturn, 1) := by decide +kernel
set_option maxRecDepth 20000 in
theorem ggX10_cells_X10_number : GoodIn wsX10_cells wsX10_number := goodIn_ca (goodIn_r _ [6, 7, 8, 9, 10, 11, 12, 5, 13, 14, 15, 16, 17, 18, 19, 20, 21, 22, 23, 24, 25, 26, 27, 28, 29, 30, 31, 32, 33, 34, 35, 36, 37, 38, 39, 40, 41, 42, 43, 44, 45, 46, 47, 48] (by decide +kernel) (by decide +kernel)) (goodIn_sub (fun _ h => List.mem_cons_of_mem _ (List.mem_append_right _ h)) (by decide +kernel))
set_option maxRecDepth 20000 in
theorem gX10_cells_X10_number : GoodIn wsX10_cells (wsV RX10 222 RX10 yX10_number wsX10_number) := goodIn_app (goodIn_of _ (by decide +kernel)) ggX10_cells_X10_number
set_option maxRecDepth 20000 in
theorem ggX10_cells_X10_here : GoodIn wsX10_cells wsX10_here := goodIn_ca (goodIn_r _ [17, 18, 19, 20, 28, 29, 30, 31, 32, 33, 34, 35, 36, 37, 38, 39, 40, 41, 42, 43, 44, 45, 46, 47, 48] (by decide +kernel) (by decide +kernel)) (goodIn_sub (fun _ h => List.mem_cons_of_mem _ (List.mem_append_right _ h)) (by decide +kernel))
set_option maxRecDepth 20000 in
theorem gX10_cells_X10_here : GoodIn wsX10_cells (wsV RX10 208 RX10 yX10_here wsX10_here) := goodIn_app (goodIn_of _ (by decide +kernel)) ggX10_cells_X10_here
set_option maxRecDepth 20000 in
theorem ggX10_cells_X10_expects : GoodIn wsX10_cells wsX10_expects := goodIn_r _ [27, 7, 18, 28, 29, 30, 31, 32, 33, 34, 35, 36, 37, 38, 39, 40, 41, 42, 43, 44, 45, 46, 47, 48] (by decide +kernel) (by decide +kernel)
set_option maxRecDepth 20000 in
theorem gX10_cells_X10_expects : GoodIn wsX10_cells (wsV RX10 215 RX10 yX10_expects wsX10_expects) := goodIn_app (goodIn_of _ (by decide +kernel)) ggX10_cells_X10_expects
theorem dX10_cells_0 : decode cX10_cells 0 = .ok (.aload_n 0, 1) := by decide +kernel
theorem dX10_cells_1 : decode cX10_cells 1 = .ok (.getfield 32, 3) := by decide +kernel
theorem dX10_cells_4 : decode cX10_cells 4 = .ok (.iload_n 1, 1) := by decide +kernel
theorem dX10_cells_5 : decode cX10_cells 5 = .ok (.aload_n 0, 1) := by decide +kernel
theorem dX10_cells_6 : decode cX10_cells 6 = .ok (.invokevirtual 222, 3) := by decide +kernel
theorem dX10_cells_9 : decode cX10_cells 9 = .ok (.iastore, 1) := by decide +kernel
theorem dX10_cells_10 : decode cX10_cells 10 = .ok (.aload_n 0, 1) := by decide +kernel
theorem dX10_cells_11 : decode cX10_cells 11 = .ok (.aload_n 0, 1) := by decide +kernel
theorem dX10_cells_12 : decode cX10_cells 12 = .ok (.invokevirtual 208, 3) := by decide +kernel
theorem dX10_cells_15 : decode cX10_cells 15 = .ok (.bipush 45, 2) := by decide +kernel
theorem dX10_cells_17 : decode cX10_cells 17 = .ok (.if_icmp .ne 7, 3) := by decide +kernel
theorem dX10_cells_20 : decode cX10_cells 20 = .ok (.iconst 1, 1) := by decide +kernel
theorem dX10_cells_21 : decode cX10_cells 21 = .ok (.goto 4, 3) := by decide +kernel
theorem dX10_cells_24 : decode cX10_cells 24 = .ok (.iconst 0, 1) := by decide +kernel
theorem dX10_cells_25 : decode cX10_cells 25 = .ok (.invokevirtual 215, 3) := by decide +kernel
theorem dX10_cells_28 : decode cX10_cells 28 = .ok (.aload_n 0, 1) := by decide +kernel
theorem dX10_cells_29 : decode cX10_cells 29 = .ok (.getfield 32, 3) := by decide +kernel
theorem dX10_cells_32 : decode cX10_cells 32 = .ok (.iload_n 1, 1) := by decide +kernel
theorem dX10_cells_33 : decode cX10_cells 33 = .ok (.iconst 1, 1) := by decide +kernel
theorem dX10_cells_34 : decode cX10_cells 34 = .ok (.iadd, 1) := by decide +kernel
theorem dX10_cells_35 : decode cX10_cells 35 = .ok (.aload_n 0, 1) := by decide +kernel
theorem dX10_cells_36 : decode cX10_cells 36 = .ok (.invokevirtual 222, 3) := by decide +kernel
theorem dX10_cells_39 : decode cX10_cells 39 = .ok (.iastore, 1) := by decide +kernel
theorem dX10_cells_40 : decode cX10_cells 40 = .ok (.return_, 1) := by decide +kernel
set_option maxRecDepth 20000 in
theorem ggX10_readOrder_X10_here : GoodIn wsX10_readOrder wsX10_here := goodIn_ca (goodIn_r _ [8, 3, 9, 10, 36, 37, 38, 39, 40, 41, 42, 43, 44, 45, 46, 47, 48, 49, 50, 51, 52, 53, 54, 55, 56] (by decide +kernel) (by decide +kernel)) (goodIn_sub (fun _ h => List.mem_cons_of_mem _ (List.mem_append_right _ h)) (by decide +kernel))
set_option maxRecDepth 20000 in
theorem gX10_readOrder_X10_here : GoodIn wsX10_readOrder (wsV RX10 208 RX10 yX10_here wsX10_here) := goodIn_app (goodIn_of _ (by decide +kernel)) ggX10_readOrder_X10_here
set_option maxRecDepth 20000 in
theorem ggX10_readOrder_X10_expects : GoodIn wsX10_readOrder wsX10_expects := goodIn_r _ [14, 15, 3, 36, 37, 38, 39, 40, 41, 42, 43, 44, 45, 46, 47, 48, 49, 50, 51, 52, 53, 54, 55, 56] (by decide +kernel) (by decide +kernel)
set_option maxRecDepth 20000 in
theorem gX10_readOrder_X10_expects : GoodIn wsX10_readOrder (wsV RX10 215 RX10 yX10_expects wsX10_expects) := goodIn_app (goodIn_of _ (by decide +kernel)) ggX10_readOrder_X10_expects
set_option maxRecDepth 20000 in
theorem ggX10_readOrder_X10_cells : GoodIn wsX10_readOrder wsX10_cells := goodIn_ca (goodIn_r _ [19, 2, 20, 21, 22, 7, 23, 15, 24, 25, 26, 27, 28, 29, 4, 5, 6, 8, 3, 9, 10, 30, 31, 32, 11, 12, 13, 14, 36, 37, 38, 39, 40, 41, 42, 43, 44, 45, 46, 47, 48, 49, 50, 51, 52, 53, 54, 55, 56] (by decide +kernel) (by decide +kernel)) (goodIn_sub (fun _ h => List.mem_cons_of_mem _ (List.mem_append_right _ h)) (by decide +kernel))
set_option maxRecDepth 20000 in
theorem gX10_readOrder_X10_cells : GoodIn wsX10_readOrder (wsV RX10 228 RX10 yX10_cells wsX10_cells) := goodIn_app (goodIn_of _ (by decide +kernel)) ggX10_readOrder_X10_cells
set_option maxRecDepth 20000 in
theorem ggX10_readOrder_X10_digit : GoodIn wsX10_readOrder wsX10_digit := goodIn_ca (goodIn_r _ [29, 24, 25, 15, 4, 5, 6, 7, 8, 3, 9, 10, 30, 31, 32, 11, 12, 13, 14, 36, 37, 38, 39, 40, 41, 42, 43, 44, 45, 46, 47, 48, 49, 50, 51, 52, 53, 54, 55, 56] (by decide +kernel) (by decide +kernel)) (goodIn_sub (fun _ h => List.mem_cons_of_mem _ (List.mem_append_right _ h)) (by decide +kernel))
set_option maxRecDepth 20000 in
theorem gX10_readOrder_X10_digit : GoodIn wsX10_readOrder (wsV RX10 219 RX10 yX10_digit wsX10_digit) := goodIn_app (goodIn_of _ (by decide +kernel)) ggX10_readOrder_X10_digit
set_option maxRecDepth 20000 in
theorem ggX10_readOrder_X10_number : GoodIn wsX10_readOrder wsX10_number := goodIn_ca (goodIn_r _ [23, 15, 24, 25, 26, 27, 28, 7, 29, 4, 5, 6, 8, 3, 9, 10, 30, 31, 32, 11, 12, 13, 14, 36, 37, 38, 39, 40, 41, 42, 43, 44, 45, 46, 47, 48, 49, 50, 51, 52, 53, 54, 55, 56] (by decide +kernel) (by decide +kernel)) (goodIn_sub (fun _ h => List.mem_cons_of_mem _ (List.mem_append_right _ h)) (by decide +kernel))
set_option maxRecDepth 20000 in
theorem gX10_readOrder_X10_number : GoodIn wsX10_readOrder (wsV RX10 222 RX10 yX10_number wsX10_number) := goodIn_app (goodIn_of _ (by decide +kernel)) ggX10_readOrder_X10_number
set_option maxRecDepth 20000 in
theorem ggX10_readOrder_X10_directionOf : GoodIn wsX10_readOrder wsX10_directionOf := goodIn_r _ [35] (by decide +kernel) (by decide +kernel)
set_option maxRecDepth 20000 in
theorem gX10_readOrder_X10_directionOf : GoodIn wsX10_readOrder (va_wsS RX10 232 yX10_directionOf wsX10_directionOf) := goodIn_app (goodIn_of _ (by decide +kernel)) ggX10_readOrder_X10_directionOf
theorem dX10_readOrder_0 : decode cX10_readOrder 0 = .ok (.iconst 4, 1) := by decide +kernel
theorem dX10_readOrder_1 : decode cX10_readOrder 1 = .ok (.aload_n 0, 1) := by decide +kernel
theorem dX10_readOrder_2 : decode cX10_readOrder 2 = .ok (.getfield 225, 3) := by decide +kernel
theorem dX10_readOrder_5 : decode cX10_readOrder 5 = .ok (.imul, 1) := by decide +kernel
theorem dX10_readOrder_6 : decode cX10_readOrder 6 = .ok (.istore_n 1, 1) := by decide +kernel
theorem dX10_readOrder_7 : decode cX10_readOrder 7 = .ok (.aload_n 0, 1) := by decide +kernel
theorem dX10_readOrder_8 : decode cX10_readOrder 8 = .ok (.invokevirtual 208, 3) := by decide +kernel
theorem dX10_readOrder_11 : decode cX10_readOrder 11 = .ok (.istore_n 2, 1) := by decide +kernel
theorem dX10_readOrder_12 : decode cX10_readOrder 12 = .ok (.aload_n 0, 1) := by decide +kernel
theorem dX10_readOrder_13 : decode cX10_readOrder 13 = .ok (.iload_n 2, 1) := by decide +kernel
theorem dX10_readOrder_14 : decode cX10_readOrder 14 = .ok (.bipush 104, 2) := by decide +kernel
theorem dX10_readOrder_16 : decode cX10_readOrder 16 = .ok (.if_icmp .eq 51, 3) := by decide +kernel
theorem dX10_readOrder_19 : decode cX10_readOrder 19 = .ok (.iload_n 2, 1) := by decide +kernel
theorem dX10_readOrder_20 : decode cX10_readOrder 20 = .ok (.bipush 115, 2) := by decide +kernel
theorem dX10_readOrder_22 : decode cX10_readOrder 22 = .ok (.if_icmp .eq 45, 3) := by decide +kernel
theorem dX10_readOrder_25 : decode cX10_readOrder 25 = .ok (.iload_n 2, 1) := by decide +kernel
theorem dX10_readOrder_26 : decode cX10_readOrder 26 = .ok (.bipush 116, 2) := by decide +kernel
theorem dX10_readOrder_28 : decode cX10_readOrder 28 = .ok (.if_icmp .eq 39, 3) := by decide +kernel
theorem dX10_readOrder_31 : decode cX10_readOrder 31 = .ok (.iload_n 2, 1) := by decide +kernel
theorem dX10_readOrder_32 : decode cX10_readOrder 32 = .ok (.bipush 109, 2) := by decide +kernel
theorem dX10_readOrder_34 : decode cX10_readOrder 34 = .ok (.if_icmp .eq 33, 3) := by decide +kernel
theorem dX10_readOrder_37 : decode cX10_readOrder 37 = .ok (.iload_n 2, 1) := by decide +kernel
theorem dX10_readOrder_38 : decode cX10_readOrder 38 = .ok (.bipush 103, 2) := by decide +kernel
theorem dX10_readOrder_40 : decode cX10_readOrder 40 = .ok (.if_icmp .eq 27, 3) := by decide +kernel
theorem dX10_readOrder_43 : decode cX10_readOrder 43 = .ok (.iload_n 2, 1) := by decide +kernel
theorem dX10_readOrder_44 : decode cX10_readOrder 44 = .ok (.bipush 118, 2) := by decide +kernel
theorem dX10_readOrder_46 : decode cX10_readOrder 46 = .ok (.if_icmp .eq 21, 3) := by decide +kernel
theorem dX10_readOrder_49 : decode cX10_readOrder 49 = .ok (.iload_n 2, 1) := by decide +kernel
theorem dX10_readOrder_50 : decode cX10_readOrder 50 = .ok (.bipush 98, 2) := by decide +kernel
theorem dX10_readOrder_52 : decode cX10_readOrder 52 = .ok (.if_icmp .eq 15, 3) := by decide +kernel
theorem dX10_readOrder_55 : decode cX10_readOrder 55 = .ok (.iload_n 2, 1) := by decide +kernel
theorem dX10_readOrder_56 : decode cX10_readOrder 56 = .ok (.bipush 119, 2) := by decide +kernel
theorem dX10_readOrder_58 : decode cX10_readOrder 58 = .ok (.if_icmp .eq 9, 3) := by decide +kernel
theorem dX10_readOrder_61 : decode cX10_readOrder 61 = .ok (.iload_n 2, 1) := by decide +kernel
theorem dX10_readOrder_62 : decode cX10_readOrder 62 = .ok (.bipush 114, 2) := by decide +kernel
theorem dX10_readOrder_64 : decode cX10_readOrder 64 = .ok (.if_icmp .ne 7, 3) := by decide +kernel
theorem dX10_readOrder_67 : decode cX10_readOrder 67 = .ok (.iconst 1, 1) := by decide +kernel
theorem dX10_readOrder_68 : decode cX10_readOrder 68 = .ok (.goto 4, 3) := by decide +kernel
theorem dX10_readOrder_71 : decode cX10_readOrder 71 = .ok (.iconst 0, 1) := by decide +kernel
theorem dX10_readOrder_72 : decode cX10_readOrder 72 = .ok (.invokevirtual 215, 3) := by decide +kernel
theorem dX10_readOrder_75 : decode cX10_readOrder 75 = .ok (.aload_n 0, 1) := by decide +kernel
theorem dX10_readOrder_76 : decode cX10_readOrder 76 = .ok (.getfield 32, 3) := by decide +kernel
theorem dX10_readOrder_79 : decode cX10_readOrder 79 = .ok (.iload_n 1, 1) := by decide +kernel
theorem dX10_readOrder_80 : decode cX10_readOrder 80 = .ok (.iload_n 2, 1) := by decide +kernel
theorem dX10_readOrder_81 : decode cX10_readOrder 81 = .ok (.iastore, 1) := by decide +kernel
theorem dX10_readOrder_82 : decode cX10_readOrder 82 = .ok (.aload_n 0, 1) := by decide +kernel
theorem dX10_readOrder_83 : decode cX10_readOrder 83 = .ok (.dup, 1) := by decide +kernel
theorem dX10_readOrder_84 : decode cX10_readOrder 84 = .ok (.getfield 225, 3) := by decide +kernel
theorem dX10_readOrder_87 : decode cX10_readOrder 87 = .ok (.iconst 1, 1) := by decide +kernel
theorem dX10_readOrder_88 : decode cX10_readOrder 88 = .ok (.iadd, 1) := by decide +kernel
theorem dX10_readOrder_89 : decode cX10_readOrder 89 = .ok (.putfield 225, 3) := by decide +kernel
theorem dX10_readOrder_92 : decode cX10_readOrder 92 = .ok (.iload_n 2, 1) := by decide +kernel
theorem dX10_readOrder_93 : decode cX10_readOrder 93 = .ok (.tableswitch 415 98 119 #[244, 415, 415, 415, 415, 229, 103, 415, 415, 415, 415, 183, 415, 415, 415, 415, 370, 415, 143, 415, 229, 319], 103) := by decide +kernel
theorem dX10_readOrder_196 : decode cX10_readOrder 196 = .ok (.aload_n 0, 1) := by decide +kernel
theorem dX10_readOrder_197 : decode cX10_readOrder 197 = .ok (.iload_n 1, 1) := by decide +kernel
theorem dX10_readOrder_198 : decode cX10_readOrder 198 = .ok (.iconst 1, 1) := by decide +kernel
theorem dX10_readOrder_199 : decode cX10_readOrder 199 = .ok (.iadd, 1) := by decide +kernel
theorem dX10_readOrder_200 : decode cX10_readOrder 200 = .ok (.invokevirtual 228, 3) := by decide +kernel
theorem dX10_readOrder_203 : decode cX10_readOrder 203 = .ok (.aload_n 0, 1) := by decide +kernel
theorem dX10_readOrder_204 : decode cX10_readOrder 204 = .ok (.aload_n 0, 1) := by decide +kernel
theorem dX10_readOrder_205 : decode cX10_readOrder 205 = .ok (.invokevirtual 208, 3) := by decide +kernel
theorem dX10_readOrder_208 : decode cX10_readOrder 208 = .ok (.bipush 61, 2) := by decide +kernel
theorem dX10_readOrder_210 : decode cX10_readOrder 210 = .ok (.if_icmp .ne 7, 3) := by decide +kernel
theorem dX10_readOrder_213 : decode cX10_readOrder 213 = .ok (.iconst 1, 1) := by decide +kernel
theorem dX10_readOrder_214 : decode cX10_readOrder 214 = .ok (.goto 4, 3) := by decide +kernel
theorem dX10_readOrder_217 : decode cX10_readOrder 217 = .ok (.iconst 0, 1) := by decide +kernel
theorem dX10_readOrder_218 : decode cX10_readOrder 218 = .ok (.invokevirtual 215, 3) := by decide +kernel
theorem dX10_readOrder_221 : decode cX10_readOrder 221 = .ok (.aload_n 0, 1) := by decide +kernel
theorem dX10_readOrder_222 : decode cX10_readOrder 222 = .ok (.getfield 32, 3) := by decide +kernel
theorem dX10_readOrder_225 : decode cX10_readOrder 225 = .ok (.iload_n 1, 1) := by decide +kernel
theorem dX10_readOrder_226 : decode cX10_readOrder 226 = .ok (.iconst 3, 1) := by decide +kernel
theorem dX10_readOrder_227 : decode cX10_readOrder 227 = .ok (.iadd, 1) := by decide +kernel
theorem dX10_readOrder_228 : decode cX10_readOrder 228 = .ok (.aload_n 0, 1) := by decide +kernel
theorem dX10_readOrder_229 : decode cX10_readOrder 229 = .ok (.invokevirtual 219, 3) := by decide +kernel
theorem dX10_readOrder_232 : decode cX10_readOrder 232 = .ok (.iastore, 1) := by decide +kernel
theorem dX10_readOrder_233 : decode cX10_readOrder 233 = .ok (.goto 275, 3) := by decide +kernel
theorem dX10_readOrder_236 : decode cX10_readOrder 236 = .ok (.aload_n 0, 1) := by decide +kernel
theorem dX10_readOrder_237 : decode cX10_readOrder 237 = .ok (.getfield 32, 3) := by decide +kernel
theorem dX10_readOrder_240 : decode cX10_readOrder 240 = .ok (.iload_n 1, 1) := by decide +kernel
theorem dX10_readOrder_241 : decode cX10_readOrder 241 = .ok (.iconst 1, 1) := by decide +kernel
theorem dX10_readOrder_242 : decode cX10_readOrder 242 = .ok (.iadd, 1) := by decide +kernel
theorem dX10_readOrder_243 : decode cX10_readOrder 243 = .ok (.aload_n 0, 1) := by decide +kernel
theorem dX10_readOrder_244 : decode cX10_readOrder 244 = .ok (.invokevirtual 219, 3) := by decide +kernel
theorem dX10_readOrder_247 : decode cX10_readOrder 247 = .ok (.iastore, 1) := by decide +kernel
theorem dX10_readOrder_248 : decode cX10_readOrder 248 = .ok (.aload_n 0, 1) := by decide +kernel
theorem dX10_readOrder_249 : decode cX10_readOrder 249 = .ok (.aload_n 0, 1) := by decide +kernel
theorem dX10_readOrder_250 : decode cX10_readOrder 250 = .ok (.invokevirtual 208, 3) := by decide +kernel
theorem dX10_readOrder_253 : decode cX10_readOrder 253 = .ok (.bipush 58, 2) := by decide +kernel
theorem dX10_readOrder_255 : decode cX10_readOrder 255 = .ok (.if_icmp .ne 7, 3) := by decide +kernel
theorem dX10_readOrder_258 : decode cX10_readOrder 258 = .ok (.iconst 1, 1) := by decide +kernel
theorem dX10_readOrder_259 : decode cX10_readOrder 259 = .ok (.goto 4, 3) := by decide +kernel
theorem dX10_readOrder_262 : decode cX10_readOrder 262 = .ok (.iconst 0, 1) := by decide +kernel
theorem dX10_readOrder_263 : decode cX10_readOrder 263 = .ok (.invokevirtual 215, 3) := by decide +kernel
theorem dX10_readOrder_266 : decode cX10_readOrder 266 = .ok (.aload_n 0, 1) := by decide +kernel
theorem dX10_readOrder_267 : decode cX10_readOrder 267 = .ok (.iload_n 1, 1) := by decide +kernel
theorem dX10_readOrder_268 : decode cX10_readOrder 268 = .ok (.iconst 2, 1) := by decide +kernel
theorem dX10_readOrder_269 : decode cX10_readOrder 269 = .ok (.iadd, 1) := by decide +kernel
theorem dX10_readOrder_270 : decode cX10_readOrder 270 = .ok (.invokevirtual 228, 3) := by decide +kernel
theorem dX10_readOrder_273 : decode cX10_readOrder 273 = .ok (.goto 235, 3) := by decide +kernel
theorem dX10_readOrder_276 : decode cX10_readOrder 276 = .ok (.aload_n 0, 1) := by decide +kernel
theorem dX10_readOrder_277 : decode cX10_readOrder 277 = .ok (.invokevirtual 208, 3) := by decide +kernel
theorem dX10_readOrder_280 : decode cX10_readOrder 280 = .ok (.bipush 120, 2) := by decide +kernel
theorem dX10_readOrder_282 : decode cX10_readOrder 282 = .ok (.if_icmp .ne 25, 3) := by decide +kernel
theorem dX10_readOrder_285 : decode cX10_readOrder 285 = .ok (.aload_n 0, 1) := by decide +kernel
theorem dX10_readOrder_286 : decode cX10_readOrder 286 = .ok (.dup, 1) := by decide +kernel
theorem dX10_readOrder_287 : decode cX10_readOrder 287 = .ok (.getfield 198, 3) := by decide +kernel
theorem dX10_readOrder_290 : decode cX10_readOrder 290 = .ok (.iconst 1, 1) := by decide +kernel
theorem dX10_readOrder_291 : decode cX10_readOrder 291 = .ok (.iadd, 1) := by decide +kernel
theorem dX10_readOrder_292 : decode cX10_readOrder 292 = .ok (.putfield 198, 3) := by decide +kernel
theorem dX10_readOrder_295 : decode cX10_readOrder 295 = .ok (.aload_n 0, 1) := by decide +kernel
theorem dX10_readOrder_296 : decode cX10_readOrder 296 = .ok (.getfield 32, 3) := by decide +kernel
theorem dX10_readOrder_299 : decode cX10_readOrder 299 = .ok (.iload_n 1, 1) := by decide +kernel
theorem dX10_readOrder_300 : decode cX10_readOrder 300 = .ok (.iconst 1, 1) := by decide +kernel
theorem dX10_readOrder_301 : decode cX10_readOrder 301 = .ok (.iadd, 1) := by decide +kernel
theorem dX10_readOrder_302 : decode cX10_readOrder 302 = .ok (.iconst (-1), 1) := by decide +kernel
theorem dX10_readOrder_303 : decode cX10_readOrder 303 = .ok (.iastore, 1) := by decide +kernel
theorem dX10_readOrder_304 : decode cX10_readOrder 304 = .ok (.goto 204, 3) := by decide +kernel
theorem dX10_readOrder_307 : decode cX10_readOrder 307 = .ok (.aload_n 0, 1) := by decide +kernel
theorem dX10_readOrder_308 : decode cX10_readOrder 308 = .ok (.getfield 32, 3) := by decide +kernel
theorem dX10_readOrder_311 : decode cX10_readOrder 311 = .ok (.iload_n 1, 1) := by decide +kernel
theorem dX10_readOrder_312 : decode cX10_readOrder 312 = .ok (.iconst 1, 1) := by decide +kernel
theorem dX10_readOrder_313 : decode cX10_readOrder 313 = .ok (.iadd, 1) := by decide +kernel
theorem dX10_readOrder_314 : decode cX10_readOrder 314 = .ok (.aload_n 0, 1) := by decide +kernel
theorem dX10_readOrder_315 : decode cX10_readOrder 315 = .ok (.invokevirtual 222, 3) := by decide +kernel
theorem dX10_readOrder_318 : decode cX10_readOrder 318 = .ok (.iastore, 1) := by decide +kernel
theorem dX10_readOrder_319 : decode cX10_readOrder 319 = .ok (.goto 189, 3) := by decide +kernel
theorem dX10_readOrder_322 : decode cX10_readOrder 322 = .ok (.aload_n 0, 1) := by decide +kernel
theorem dX10_readOrder_323 : decode cX10_readOrder 323 = .ok (.getfield 32, 3) := by decide +kernel
theorem dX10_readOrder_326 : decode cX10_readOrder 326 = .ok (.iload_n 1, 1) := by decide +kernel
theorem dX10_readOrder_327 : decode cX10_readOrder 327 = .ok (.iconst 1, 1) := by decide +kernel
theorem dX10_readOrder_328 : decode cX10_readOrder 328 = .ok (.iadd, 1) := by decide +kernel
theorem dX10_readOrder_329 : decode cX10_readOrder 329 = .ok (.aload_n 0, 1) := by decide +kernel
theorem dX10_readOrder_330 : decode cX10_readOrder 330 = .ok (.invokevirtual 222, 3) := by decide +kernel
theorem dX10_readOrder_333 : decode cX10_readOrder 333 = .ok (.iastore, 1) := by decide +kernel
theorem dX10_readOrder_334 : decode cX10_readOrder 334 = .ok (.goto 174, 3) := by decide +kernel
theorem dX10_readOrder_337 : decode cX10_readOrder 337 = .ok (.aload_n 0, 1) := by decide +kernel
theorem dX10_readOrder_338 : decode cX10_readOrder 338 = .ok (.getfield 32, 3) := by decide +kernel
theorem dX10_readOrder_341 : decode cX10_readOrder 341 = .ok (.iload_n 1, 1) := by decide +kernel
theorem dX10_readOrder_342 : decode cX10_readOrder 342 = .ok (.iconst 1, 1) := by decide +kernel
theorem dX10_readOrder_343 : decode cX10_readOrder 343 = .ok (.iadd, 1) := by decide +kernel
theorem dX10_readOrder_344 : decode cX10_readOrder 344 = .ok (.aload_n 0, 1) := by decide +kernel
theorem dX10_readOrder_345 : decode cX10_readOrder 345 = .ok (.invokevirtual 219, 3) := by decide +kernel
theorem dX10_readOrder_348 : decode cX10_readOrder 348 = .ok (.iastore, 1) := by decide +kernel
theorem dX10_readOrder_349 : decode cX10_readOrder 349 = .ok (.aload_n 0, 1) := by decide +kernel
theorem dX10_readOrder_350 : decode cX10_readOrder 350 = .ok (.aload_n 0, 1) := by decide +kernel
theorem dX10_readOrder_351 : decode cX10_readOrder 351 = .ok (.invokevirtual 208, 3) := by decide +kernel
theorem dX10_readOrder_354 : decode cX10_readOrder 354 = .ok (.bipush 62, 2) := by decide +kernel
theorem dX10_readOrder_356 : decode cX10_readOrder 356 = .ok (.if_icmp .ne 7, 3) := by decide +kernel
theorem dX10_readOrder_359 : decode cX10_readOrder 359 = .ok (.iconst 1, 1) := by decide +kernel
theorem dX10_readOrder_360 : decode cX10_readOrder 360 = .ok (.goto 4, 3) := by decide +kernel
theorem dX10_readOrder_363 : decode cX10_readOrder 363 = .ok (.iconst 0, 1) := by decide +kernel
theorem dX10_readOrder_364 : decode cX10_readOrder 364 = .ok (.invokevirtual 215, 3) := by decide +kernel
theorem dX10_readOrder_367 : decode cX10_readOrder 367 = .ok (.aload_n 0, 1) := by decide +kernel
theorem dX10_readOrder_368 : decode cX10_readOrder 368 = .ok (.getfield 32, 3) := by decide +kernel
theorem dX10_readOrder_371 : decode cX10_readOrder 371 = .ok (.iload_n 1, 1) := by decide +kernel
theorem dX10_readOrder_372 : decode cX10_readOrder 372 = .ok (.iconst 2, 1) := by decide +kernel
theorem dX10_readOrder_373 : decode cX10_readOrder 373 = .ok (.iadd, 1) := by decide +kernel
theorem dX10_readOrder_374 : decode cX10_readOrder 374 = .ok (.aload_n 0, 1) := by decide +kernel
theorem dX10_readOrder_375 : decode cX10_readOrder 375 = .ok (.invokevirtual 219, 3) := by decide +kernel
theorem dX10_readOrder_378 : decode cX10_readOrder 378 = .ok (.iastore, 1) := by decide +kernel
theorem dX10_readOrder_379 : decode cX10_readOrder 379 = .ok (.aload_n 0, 1) := by decide +kernel
theorem dX10_readOrder_380 : decode cX10_readOrder 380 = .ok (.aload_n 0, 1) := by decide +kernel
theorem dX10_readOrder_381 : decode cX10_readOrder 381 = .ok (.invokevirtual 208, 3) := by decide +kernel
theorem dX10_readOrder_384 : decode cX10_readOrder 384 = .ok (.bipush 42, 2) := by decide +kernel
theorem dX10_readOrder_386 : decode cX10_readOrder 386 = .ok (.if_icmp .ne 7, 3) := by decide +kernel
theorem dX10_readOrder_389 : decode cX10_readOrder 389 = .ok (.iconst 1, 1) := by decide +kernel
theorem dX10_readOrder_390 : decode cX10_readOrder 390 = .ok (.goto 4, 3) := by decide +kernel
theorem dX10_readOrder_393 : decode cX10_readOrder 393 = .ok (.iconst 0, 1) := by decide +kernel
theorem dX10_readOrder_394 : decode cX10_readOrder 394 = .ok (.invokevirtual 215, 3) := by decide +kernel
theorem dX10_readOrder_397 : decode cX10_readOrder 397 = .ok (.aload_n 0, 1) := by decide +kernel
theorem dX10_readOrder_398 : decode cX10_readOrder 398 = .ok (.getfield 32, 3) := by decide +kernel
theorem dX10_readOrder_401 : decode cX10_readOrder 401 = .ok (.iload_n 1, 1) := by decide +kernel
theorem dX10_readOrder_402 : decode cX10_readOrder 402 = .ok (.iconst 3, 1) := by decide +kernel
theorem dX10_readOrder_403 : decode cX10_readOrder 403 = .ok (.iadd, 1) := by decide +kernel
theorem dX10_readOrder_404 : decode cX10_readOrder 404 = .ok (.aload_n 0, 1) := by decide +kernel
theorem dX10_readOrder_405 : decode cX10_readOrder 405 = .ok (.invokevirtual 219, 3) := by decide +kernel
theorem dX10_readOrder_408 : decode cX10_readOrder 408 = .ok (.iastore, 1) := by decide +kernel
theorem dX10_readOrder_409 : decode cX10_readOrder 409 = .ok (.goto 99, 3) := by decide +kernel
theorem dX10_readOrder_412 : decode cX10_readOrder 412 = .ok (.aload_n 0, 1) := by decide +kernel
theorem dX10_readOrder_413 : decode cX10_readOrder 413 = .ok (.getfield 32, 3) := by decide +kernel
theorem dX10_readOrder_416 : decode cX10_readOrder 416 = .ok (.iload_n 1, 1) := by decide +kernel
theorem dX10_readOrder_417 : decode cX10_readOrder 417 = .ok (.iconst 1, 1) := by decide +kernel
theorem dX10_readOrder_418 : decode cX10_readOrder 418 = .ok (.iadd, 1) := by decide +kernel
theorem dX10_readOrder_419 : decode cX10_readOrder 419 = .ok (.aload_n 0, 1) := by decide +kernel
theorem dX10_readOrder_420 : decode cX10_readOrder 420 = .ok (.invokevirtual 219, 3) := by decide +kernel
theorem dX10_readOrder_423 : decode cX10_readOrder 423 = .ok (.iastore, 1) := by decide +kernel
theorem dX10_readOrder_424 : decode cX10_readOrder 424 = .ok (.aload_n 0, 1) := by decide +kernel
theorem dX10_readOrder_425 : decode cX10_readOrder 425 = .ok (.getfield 32, 3) := by decide +kernel
theorem dX10_readOrder_428 : decode cX10_readOrder 428 = .ok (.iload_n 1, 1) := by decide +kernel
theorem dX10_readOrder_429 : decode cX10_readOrder 429 = .ok (.iconst 2, 1) := by decide +kernel
theorem dX10_readOrder_430 : decode cX10_readOrder 430 = .ok (.iadd, 1) := by decide +kernel
theorem dX10_readOrder_431 : decode cX10_readOrder 431 = .ok (.aload_n 0, 1) := by decide +kernel
theorem dX10_readOrder_432 : decode cX10_readOrder 432 = .ok (.invokevirtual 208, 3) := by decide +kernel
theorem dX10_readOrder_435 : decode cX10_readOrder 435 = .ok (.invokestatic 232, 3) := by decide +kernel
theorem dX10_readOrder_438 : decode cX10_readOrder 438 = .ok (.iastore, 1) := by decide +kernel
theorem dX10_readOrder_439 : decode cX10_readOrder 439 = .ok (.aload_n 0, 1) := by decide +kernel
theorem dX10_readOrder_440 : decode cX10_readOrder 440 = .ok (.aload_n 0, 1) := by decide +kernel
theorem dX10_readOrder_441 : decode cX10_readOrder 441 = .ok (.getfield 32, 3) := by decide +kernel
theorem dX10_readOrder_444 : decode cX10_readOrder 444 = .ok (.iload_n 1, 1) := by decide +kernel
theorem dX10_readOrder_445 : decode cX10_readOrder 445 = .ok (.iconst 2, 1) := by decide +kernel
theorem dX10_readOrder_446 : decode cX10_readOrder 446 = .ok (.iadd, 1) := by decide +kernel
theorem dX10_readOrder_447 : decode cX10_readOrder 447 = .ok (.iaload, 1) := by decide +kernel
theorem dX10_readOrder_448 : decode cX10_readOrder 448 = .ok (.iconst (-1), 1) := by decide +kernel
theorem dX10_readOrder_449 : decode cX10_readOrder 449 = .ok (.if_icmp .eq 7, 3) := by decide +kernel
theorem dX10_readOrder_452 : decode cX10_readOrder 452 = .ok (.iconst 1, 1) := by decide +kernel
theorem dX10_readOrder_453 : decode cX10_readOrder 453 = .ok (.goto 4, 3) := by decide +kernel
theorem dX10_readOrder_456 : decode cX10_readOrder 456 = .ok (.iconst 0, 1) := by decide +kernel
theorem dX10_readOrder_457 : decode cX10_readOrder 457 = .ok (.invokevirtual 215, 3) := by decide +kernel
theorem dX10_readOrder_460 : decode cX10_readOrder 460 = .ok (.goto 48, 3) := by decide +kernel
theorem dX10_readOrder_463 : decode cX10_readOrder 463 = .ok (.aload_n 0, 1) := by decide +kernel
theorem dX10_readOrder_464 : decode cX10_readOrder 464 = .ok (.getfield 32, 3) := by decide +kernel
theorem dX10_readOrder_467 : decode cX10_readOrder 467 = .ok (.iload_n 1, 1) := by decide +kernel
theorem dX10_readOrder_468 : decode cX10_readOrder 468 = .ok (.iconst 1, 1) := by decide +kernel
theorem dX10_readOrder_469 : decode cX10_readOrder 469 = .ok (.iadd, 1) := by decide +kernel
theorem dX10_readOrder_470 : decode cX10_readOrder 470 = .ok (.aload_n 0, 1) := by decide +kernel
theorem dX10_readOrder_471 : decode cX10_readOrder 471 = .ok (.invokevirtual 219, 3) := by decide +kernel
theorem dX10_readOrder_474 : decode cX10_readOrder 474 = .ok (.iastore, 1) := by decide +kernel
theorem dX10_readOrder_475 : decode cX10_readOrder 475 = .ok (.aload_n 0, 1) := by decide +kernel
theorem dX10_readOrder_476 : decode cX10_readOrder 476 = .ok (.aload_n 0, 1) := by decide +kernel
theorem dX10_readOrder_477 : decode cX10_readOrder 477 = .ok (.invokevirtual 208, 3) := by decide +kernel
theorem dX10_readOrder_480 : decode cX10_readOrder 480 = .ok (.bipush 43, 2) := by decide +kernel
theorem dX10_readOrder_482 : decode cX10_readOrder 482 = .ok (.if_icmp .ne 7, 3) := by decide +kernel
theorem dX10_readOrder_485 : decode cX10_readOrder 485 = .ok (.iconst 1, 1) := by decide +kernel
theorem dX10_readOrder_486 : decode cX10_readOrder 486 = .ok (.goto 4, 3) := by decide +kernel
theorem dX10_readOrder_489 : decode cX10_readOrder 489 = .ok (.iconst 0, 1) := by decide +kernel
theorem dX10_readOrder_490 : decode cX10_readOrder 490 = .ok (.invokevirtual 215, 3) := by decide +kernel
theorem dX10_readOrder_493 : decode cX10_readOrder 493 = .ok (.aload_n 0, 1) := by decide +kernel
theorem dX10_readOrder_494 : decode cX10_readOrder 494 = .ok (.getfield 32, 3) := by decide +kernel
theorem dX10_readOrder_497 : decode cX10_readOrder 497 = .ok (.iload_n 1, 1) := by decide +kernel
theorem dX10_readOrder_498 : decode cX10_readOrder 498 = .ok (.iconst 2, 1) := by decide +kernel
theorem dX10_readOrder_499 : decode cX10_readOrder 499 = .ok (.iadd, 1) := by decide +kernel
theorem dX10_readOrder_500 : decode cX10_readOrder 500 = .ok (.aload_n 0, 1) := by decide +kernel
theorem dX10_readOrder_501 : decode cX10_readOrder 501 = .ok (.invokevirtual 219, 3) := by decide +kernel
theorem dX10_readOrder_504 : decode cX10_readOrder 504 = .ok (.iastore, 1) := by decide +kernel
theorem dX10_readOrder_505 : decode cX10_readOrder 505 = .ok (.goto 3, 3) := by decide +kernel
theorem dX10_readOrder_508 : decode cX10_readOrder 508 = .ok (.return_, 1) := by decide +kernel
set_option maxRecDepth 20000 in
theorem ggX10_does_X10_hedgeIt : GoodIn wsX10_does wsX10_hedgeIt := goodIn_ca (goodIn_r _ [6, 7, 8, 9, 10, 5, 11, 12, 13, 14, 15, 16, 17, 18, 19, 20, 21, 22, 23, 24, 25, 26, 27, 28, 29, 30, 31, 32, 33, 34, 35, 36, 37, 38, 39, 40, 41, 131, 132, 133, 134, 135, 136, 137, 138, 139, 140, 141, 142, 143, 144, 145, 146, 147, 148, 149, 150, 151] (by decide +kernel) (by decide +kernel)) (goodIn_sub (fun _ h => List.mem_cons_of_mem _ (List.mem_append_right _ h)) (by decide +kernel))
set_option maxRecDepth 20000 in
theorem gX10_does_X10_hedgeIt : GoodIn wsX10_does (wsV RX10 103 RX10 yX10_hedgeIt wsX10_hedgeIt) := goodIn_app (goodIn_of _ (by decide +kernel)) ggX10_does_X10_hedgeIt
set_option maxRecDepth 20000 in
theorem ggX10_does_X10_summerIt : GoodIn wsX10_does wsX10_summerIt := goodIn_ca (goodIn_r _ [45, 8, 39, 40, 30, 41, 46, 47, 48, 5, 49, 50, 51, 52, 53, 131, 132, 133, 134, 135, 136, 137, 138, 139, 140, 141, 142, 143, 144, 145, 146, 147, 148, 149, 150, 151] (by decide +kernel) (by decide +kernel)) (goodIn_sub (fun _ h => List.mem_cons_of_mem _ (List.mem_append_right _ h)) (by decide +kernel))
set_option maxRecDepth 20000 in
theorem gX10_does_X10_summerIt : GoodIn wsX10_does (wsV RX10 114 RX10 yX10_summerIt wsX10_summerIt) := goodIn_app (goodIn_of _ (by decide +kernel)) ggX10_does_X10_summerIt
set_option maxRecDepth 20000 in
theorem ggX10_does_X10_trimIt : GoodIn wsX10_does wsX10_trimIt := goodIn_ca (goodIn_r _ [57, 8, 58, 59, 60, 5, 61, 9, 10, 11, 12, 13, 14, 15, 16, 17, 18, 19, 20, 21, 22, 23, 24, 25, 26, 27, 28, 29, 30, 31, 32, 33, 34, 35, 36, 37, 38, 39, 40, 41, 62, 63, 64, 131, 132, 133, 134, 135, 136, 137, 138, 139, 140, 141, 142, 143, 144, 145, 146, 147, 148, 149, 150, 151] (by decide +kernel) (by decide +kernel)) (goodIn_sub (fun _ h => List.mem_cons_of_mem _ (List.mem_append_right _ h)) (by decide +kernel))
set_option maxRecDepth 20000 in
theorem gX10_does_X10_trimIt : GoodIn wsX10_does (wsV RX10 123 RX10 yX10_trimIt wsX10_trimIt) := goodIn_app (goodIn_of _ (by decide +kernel)) ggX10_does_X10_trimIt
set_option maxRecDepth 20000 in
theorem ggX10_does_X10_minotaurIt : GoodIn wsX10_does wsX10_minotaurIt := goodIn_ca (goodIn_r _ [68, 69, 35, 8, 9, 10, 5, 11, 12, 13, 14, 15, 16, 17, 18, 19, 20, 21, 22, 23, 70, 71, 72, 73, 74, 75, 76, 131, 132, 133, 134, 135, 136, 137, 138, 139, 140, 141, 142, 143, 144, 145, 146, 147, 148, 149, 150, 151] (by decide +kernel) (by decide +kernel)) (goodIn_sub (fun _ h => List.mem_cons_of_mem _ (List.mem_append_right _ h)) (by decide +kernel))
set_option maxRecDepth 20000 in
theorem gX10_does_X10_minotaurIt : GoodIn wsX10_does (wsV RX10 134 RX10 yX10_minotaurIt wsX10_minotaurIt) := goodIn_app (goodIn_of _ (by decide +kernel)) ggX10_does_X10_minotaurIt
set_option maxRecDepth 20000 in
theorem ggX10_does_X10_gardenerIt : GoodIn wsX10_does wsX10_gardenerIt := goodIn_ca (goodIn_r _ [80, 81, 8, 9, 10, 5, 11, 12, 13, 14, 15, 16, 17, 18, 19, 20, 21, 22, 23, 62, 63, 64, 131, 132, 133, 134, 135, 136, 137, 138, 139, 140, 141, 142, 143, 144, 145, 146, 147, 148, 149, 150, 151] (by decide +kernel) (by decide +kernel)) (goodIn_sub (fun _ h => List.mem_cons_of_mem _ (List.mem_append_right _ h)) (by decide +kernel))
set_option maxRecDepth 20000 in
theorem gX10_does_X10_gardenerIt : GoodIn wsX10_does (wsV RX10 139 RX10 yX10_gardenerIt wsX10_gardenerIt) := goodIn_app (goodIn_of _ (by decide +kernel)) ggX10_does_X10_gardenerIt
set_option maxRecDepth 20000 in
theorem ggX10_does_X10_visitorIt : GoodIn wsX10_does wsX10_visitorIt := goodIn_ca (goodIn_r _ [85, 81, 8, 9, 10, 5, 11, 12, 13, 14, 15, 16, 17, 18, 19, 20, 21, 22, 23, 86, 87, 88, 89, 90, 91, 92, 93, 94, 39, 40, 30, 41, 95, 96, 97, 98, 36, 37, 38, 28, 29, 31, 50, 51, 52, 53, 99, 100, 101, 102, 103, 104, 105, 74, 75, 76, 131, 132, 133, 134, 135, 136, 137, 138, 139, 140, 141, 142, 143, 144, 145, 146, 147, 148, 149, 150, 151] (by decide +kernel) (by decide +kernel)) (goodIn_sub (fun _ h => List.mem_cons_of_mem _ (List.mem_append_right _ h)) (by decide +kernel))
set_option maxRecDepth 20000 in
theorem gX10_does_X10_visitorIt : GoodIn wsX10_does (wsV RX10 151 RX10 yX10_visitorIt wsX10_visitorIt) := goodIn_app (goodIn_of _ (by decide +kernel)) ggX10_does_X10_visitorIt
set_option maxRecDepth 20000 in
theorem ggX10_does_X10_bondIt : GoodIn wsX10_does wsX10_bondIt := goodIn_ca (goodIn_r _ [109, 8, 110, 58, 59, 60, 5, 61, 9, 10, 11, 12, 13, 14, 15, 16, 17, 18, 19, 20, 21, 22, 23, 111, 112, 113, 114, 74, 75, 76, 70, 71, 72, 73, 62, 63, 64, 131, 132, 133, 134, 135, 136, 137, 138, 139, 140, 141, 142, 143, 144, 145, 146, 147, 148, 149, 150, 151] (by decide +kernel) (by decide +kernel)) (goodIn_sub (fun _ h => List.mem_cons_of_mem _ (List.mem_append_right _ h)) (by decide +kernel))
set_option maxRecDepth 20000 in
theorem gX10_does_X10_bondIt : GoodIn wsX10_does (wsV RX10 159 RX10 yX10_bondIt wsX10_bondIt) := goodIn_app (goodIn_of _ (by decide +kernel)) ggX10_does_X10_bondIt
set_option maxRecDepth 20000 in
theorem ggX10_does_X10_walkIt : GoodIn wsX10_does wsX10_walkIt := goodIn_ca (goodIn_r _ [118, 8, 98, 111, 112, 113, 5, 114, 9, 10, 11, 12, 13, 14, 15, 16, 17, 18, 19, 20, 21, 22, 23, 74, 75, 76, 95, 96, 97, 36, 37, 38, 39, 40, 30, 41, 28, 29, 31, 50, 51, 52, 53, 70, 71, 72, 73, 119, 120, 121, 122, 123, 124, 125, 126, 62, 63, 64, 131, 132, 133, 134, 135, 136, 137, 138, 139, 140, 141, 142, 143, 144, 145, 146, 147, 148, 149, 150, 151] (by decide +kernel) (by decide +kernel)) (goodIn_sub (fun _ h => List.mem_cons_of_mem _ (List.mem_append_right _ h)) (by decide +kernel))
set_option maxRecDepth 20000 in
theorem gX10_does_X10_walkIt : GoodIn wsX10_does (wsV RX10 168 RX10 yX10_walkIt wsX10_walkIt) := goodIn_app (goodIn_of _ (by decide +kernel)) ggX10_does_X10_walkIt
set_option maxRecDepth 20000 in
theorem ggX10_does_X10_restIt : GoodIn wsX10_does wsX10_restIt := goodIn_ca (goodIn_r _ [130, 8, 7, 111, 112, 113, 5, 114, 9, 10, 11, 12, 13, 14, 15, 16, 17, 18, 19, 20, 21, 22, 23, 74, 75, 76, 131, 132, 133, 134, 135, 136, 137, 138, 139, 140, 141, 142, 143, 144, 145, 146, 147, 148, 149, 150, 151] (by decide +kernel) (by decide +kernel)) (goodIn_sub (fun _ h => List.mem_cons_of_mem _ (List.mem_append_right _ h)) (by decide +kernel))
set_option maxRecDepth 20000 in
theorem gX10_does_X10_restIt : GoodIn wsX10_does (wsV RX10 171 RX10 yX10_restIt wsX10_restIt) := goodIn_app (goodIn_of _ (by decide +kernel)) ggX10_does_X10_restIt
theorem dX10_does_0 : decode cX10_does 0 = .ok (.aload_n 0, 1) := by decide +kernel
theorem dX10_does_1 : decode cX10_does 1 = .ok (.getfield 32, 3) := by decide +kernel
theorem dX10_does_4 : decode cX10_does 4 = .ok (.iload_n 1, 1) := by decide +kernel
theorem dX10_does_5 : decode cX10_does 5 = .ok (.iconst 1, 1) := by decide +kernel
theorem dX10_does_6 : decode cX10_does 6 = .ok (.iadd, 1) := by decide +kernel
theorem dX10_does_7 : decode cX10_does 7 = .ok (.iaload, 1) := by decide +kernel
theorem dX10_does_8 : decode cX10_does 8 = .ok (.istore_n 2, 1) := by decide +kernel
theorem dX10_does_9 : decode cX10_does 9 = .ok (.aload_n 0, 1) := by decide +kernel
theorem dX10_does_10 : decode cX10_does 10 = .ok (.getfield 32, 3) := by decide +kernel
theorem dX10_does_13 : decode cX10_does 13 = .ok (.iload_n 1, 1) := by decide +kernel
theorem dX10_does_14 : decode cX10_does 14 = .ok (.iconst 2, 1) := by decide +kernel
theorem dX10_does_15 : decode cX10_does 15 = .ok (.iadd, 1) := by decide +kernel
theorem dX10_does_16 : decode cX10_does 16 = .ok (.iaload, 1) := by decide +kernel
theorem dX10_does_17 : decode cX10_does 17 = .ok (.istore_n 3, 1) := by decide +kernel
theorem dX10_does_18 : decode cX10_does 18 = .ok (.aload_n 0, 1) := by decide +kernel
theorem dX10_does_19 : decode cX10_does 19 = .ok (.getfield 32, 3) := by decide +kernel
theorem dX10_does_22 : decode cX10_does 22 = .ok (.iload_n 1, 1) := by decide +kernel
theorem dX10_does_23 : decode cX10_does 23 = .ok (.iconst 3, 1) := by decide +kernel
theorem dX10_does_24 : decode cX10_does 24 = .ok (.iadd, 1) := by decide +kernel
theorem dX10_does_25 : decode cX10_does 25 = .ok (.iaload, 1) := by decide +kernel
theorem dX10_does_26 : decode cX10_does 26 = .ok (.istore 4, 2) := by decide +kernel
theorem dX10_does_28 : decode cX10_does 28 = .ok (.aload_n 0, 1) := by decide +kernel
theorem dX10_does_29 : decode cX10_does 29 = .ok (.getfield 32, 3) := by decide +kernel
theorem dX10_does_32 : decode cX10_does 32 = .ok (.iload_n 1, 1) := by decide +kernel
theorem dX10_does_33 : decode cX10_does 33 = .ok (.iaload, 1) := by decide +kernel
theorem dX10_does_34 : decode cX10_does 34 = .ok (.tableswitch 183 98 119 #[161, 183, 183, 183, 183, 143, 102, 183, 183, 183, 183, 134, 183, 183, 183, 183, 183, 114, 122, 183, 152, 173], 102) := by decide +kernel
theorem dX10_does_136 : decode cX10_does 136 = .ok (.aload_n 0, 1) := by decide +kernel
theorem dX10_does_137 : decode cX10_does 137 = .ok (.iload_n 2, 1) := by decide +kernel
theorem dX10_does_138 : decode cX10_does 138 = .ok (.iload_n 3, 1) := by decide +kernel
theorem dX10_does_139 : decode cX10_does 139 = .ok (.iload 4, 2) := by decide +kernel
theorem dX10_does_141 : decode cX10_does 141 = .ok (.invokevirtual 103, 3) := by decide +kernel
theorem dX10_does_144 : decode cX10_does 144 = .ok (.pop, 1) := by decide +kernel
theorem dX10_does_145 : decode cX10_does 145 = .ok (.goto 79, 3) := by decide +kernel
theorem dX10_does_148 : decode cX10_does 148 = .ok (.aload_n 0, 1) := by decide +kernel
theorem dX10_does_149 : decode cX10_does 149 = .ok (.invokevirtual 114, 3) := by decide +kernel
theorem dX10_does_152 : decode cX10_does 152 = .ok (.pop, 1) := by decide +kernel
theorem dX10_does_153 : decode cX10_does 153 = .ok (.goto 71, 3) := by decide +kernel
theorem dX10_does_156 : decode cX10_does 156 = .ok (.aload_n 0, 1) := by decide +kernel
theorem dX10_does_157 : decode cX10_does 157 = .ok (.iload_n 2, 1) := by decide +kernel
theorem dX10_does_158 : decode cX10_does 158 = .ok (.iload_n 3, 1) := by decide +kernel
theorem dX10_does_159 : decode cX10_does 159 = .ok (.iload 4, 2) := by decide +kernel
theorem dX10_does_161 : decode cX10_does 161 = .ok (.invokevirtual 123, 3) := by decide +kernel
theorem dX10_does_164 : decode cX10_does 164 = .ok (.pop, 1) := by decide +kernel
theorem dX10_does_165 : decode cX10_does 165 = .ok (.goto 59, 3) := by decide +kernel
theorem dX10_does_168 : decode cX10_does 168 = .ok (.aload_n 0, 1) := by decide +kernel
theorem dX10_does_169 : decode cX10_does 169 = .ok (.iload_n 2, 1) := by decide +kernel
theorem dX10_does_170 : decode cX10_does 170 = .ok (.invokevirtual 134, 3) := by decide +kernel
theorem dX10_does_173 : decode cX10_does 173 = .ok (.pop, 1) := by decide +kernel
theorem dX10_does_174 : decode cX10_does 174 = .ok (.goto 50, 3) := by decide +kernel
theorem dX10_does_177 : decode cX10_does 177 = .ok (.aload_n 0, 1) := by decide +kernel
theorem dX10_does_178 : decode cX10_does 178 = .ok (.iload_n 2, 1) := by decide +kernel
theorem dX10_does_179 : decode cX10_does 179 = .ok (.invokevirtual 139, 3) := by decide +kernel
theorem dX10_does_182 : decode cX10_does 182 = .ok (.pop, 1) := by decide +kernel
theorem dX10_does_183 : decode cX10_does 183 = .ok (.goto 41, 3) := by decide +kernel
theorem dX10_does_186 : decode cX10_does 186 = .ok (.aload_n 0, 1) := by decide +kernel
theorem dX10_does_187 : decode cX10_does 187 = .ok (.iload_n 2, 1) := by decide +kernel
theorem dX10_does_188 : decode cX10_does 188 = .ok (.invokevirtual 151, 3) := by decide +kernel
theorem dX10_does_191 : decode cX10_does 191 = .ok (.pop, 1) := by decide +kernel
theorem dX10_does_192 : decode cX10_does 192 = .ok (.goto 32, 3) := by decide +kernel
theorem dX10_does_195 : decode cX10_does 195 = .ok (.aload_n 0, 1) := by decide +kernel
theorem dX10_does_196 : decode cX10_does 196 = .ok (.iload_n 2, 1) := by decide +kernel
theorem dX10_does_197 : decode cX10_does 197 = .ok (.iload_n 3, 1) := by decide +kernel
theorem dX10_does_198 : decode cX10_does 198 = .ok (.iload 4, 2) := by decide +kernel
theorem dX10_does_200 : decode cX10_does 200 = .ok (.invokevirtual 159, 3) := by decide +kernel
theorem dX10_does_203 : decode cX10_does 203 = .ok (.pop, 1) := by decide +kernel
theorem dX10_does_204 : decode cX10_does 204 = .ok (.goto 20, 3) := by decide +kernel
theorem dX10_does_207 : decode cX10_does 207 = .ok (.aload_n 0, 1) := by decide +kernel
theorem dX10_does_208 : decode cX10_does 208 = .ok (.iload_n 2, 1) := by decide +kernel
theorem dX10_does_209 : decode cX10_does 209 = .ok (.iload_n 3, 1) := by decide +kernel
theorem dX10_does_210 : decode cX10_does 210 = .ok (.invokevirtual 168, 3) := by decide +kernel
theorem dX10_does_213 : decode cX10_does 213 = .ok (.pop, 1) := by decide +kernel
theorem dX10_does_214 : decode cX10_does 214 = .ok (.goto 10, 3) := by decide +kernel
theorem dX10_does_217 : decode cX10_does 217 = .ok (.aload_n 0, 1) := by decide +kernel
theorem dX10_does_218 : decode cX10_does 218 = .ok (.iload_n 2, 1) := by decide +kernel
theorem dX10_does_219 : decode cX10_does 219 = .ok (.iload_n 3, 1) := by decide +kernel
theorem dX10_does_220 : decode cX10_does 220 = .ok (.invokevirtual 171, 3) := by decide +kernel
theorem dX10_does_223 : decode cX10_does 223 = .ok (.pop, 1) := by decide +kernel
theorem dX10_does_224 : decode cX10_does 224 = .ok (.return_, 1) := by decide +kernel
set_option maxRecDepth 20000 in
theorem ggX10_commands_X10_starts : GoodIn wsX10_commands wsX10_starts := goodIn_ca (goodIn_r _ [15, 7, 9, 8, 182, 183, 184, 185, 186, 187, 188, 189, 190, 191, 192, 193, 194, 195, 196, 197, 198, 199, 200, 201, 202] (by decide +kernel) (by decide +kernel)) (goodIn_sub (fun _ h => List.mem_cons_of_mem _ (List.mem_append_right _ h)) (by decide +kernel))
set_option maxRecDepth 20000 in
theorem gX10_commands_X10_starts : GoodIn wsX10_commands (wsV RX10 100 RX10 yX10_starts wsX10_starts) := goodIn_app (goodIn_of _ (by decide +kernel)) ggX10_commands_X10_starts
set_option maxRecDepth 20000 in
theorem ggX10_commands_X10_readOrder : GoodIn wsX10_commands wsX10_readOrder := goodIn_ca (goodIn_r _ [19, 4, 20, 3, 21, 22, 23, 14, 24, 2, 25, 26, 27, 28, 29, 5, 30, 31, 32, 33, 34, 35, 36, 37, 38, 39, 40, 41, 42, 43, 44, 45, 46, 47, 48, 49, 182, 183, 184, 185, 186, 187, 188, 189, 190, 191, 192, 193, 194, 195, 196, 197, 198, 199, 200, 201, 202] (by decide +kernel) (by decide +kernel)) (goodIn_sub (fun _ h => List.mem_cons_of_mem _ (List.mem_append_right _ h)) (by decide +kernel))
set_option maxRecDepth 20000 in
theorem gX10_commands_X10_readOrder : GoodIn wsX10_commands (wsV RX10 235 RX10 yX10_readOrder wsX10_readOrder) := goodIn_app (goodIn_of _ (by decide +kernel)) ggX10_commands_X10_readOrder
set_option maxRecDepth 20000 in
theorem ggX10_commands_X10_here : GoodIn wsX10_commands wsX10_here := goodIn_ca (goodIn_r _ [24, 3, 2, 25, 182, 183, 184, 185, 186, 187, 188, 189, 190, 191, 192, 193, 194, 195, 196, 197, 198, 199, 200, 201, 202] (by decide +kernel) (by decide +kernel)) (goodIn_sub (fun _ h => List.mem_cons_of_mem _ (List.mem_append_right _ h)) (by decide +kernel))
set_option maxRecDepth 20000 in
theorem gX10_commands_X10_here : GoodIn wsX10_commands (wsV RX10 208 RX10 yX10_here wsX10_here) := goodIn_app (goodIn_of _ (by decide +kernel)) ggX10_commands_X10_here
set_option maxRecDepth 20000 in
theorem ggX10_commands_X10_expects : GoodIn wsX10_commands wsX10_expects := goodIn_r _ [29, 5, 3, 182, 183, 184, 185, 186, 187, 188, 189, 190, 191, 192, 193, 194, 195, 196, 197, 198, 199, 200, 201, 202] (by decide +kernel) (by decide +kernel)
set_option maxRecDepth 20000 in
theorem gX10_commands_X10_expects : GoodIn wsX10_commands (wsV RX10 215 RX10 yX10_expects wsX10_expects) := goodIn_app (goodIn_of _ (by decide +kernel)) ggX10_commands_X10_expects
set_option maxRecDepth 20000 in
theorem ggX10_commands_X10_throwing : GoodIn wsX10_commands wsX10_throwing := goodIn_r _ [53, 7, 182, 183, 184, 185, 186, 187, 188, 189, 190, 191, 192, 193, 194, 195, 196, 197, 198, 199, 200, 201, 202] (by decide +kernel) (by decide +kernel)
set_option maxRecDepth 20000 in
theorem gX10_commands_X10_throwing : GoodIn wsX10_commands (wsV RX10 50 RX10 yX10_throwing wsX10_throwing) := goodIn_app (goodIn_of _ (by decide +kernel)) ggX10_commands_X10_throwing
set_option maxRecDepth 20000 in
theorem ggX10_commands_X10_does : GoodIn wsX10_commands wsX10_does := goodIn_ca (goodIn_r _ [57, 20, 58, 59, 60, 14, 61, 62, 8, 44, 45, 46, 63, 64, 65, 66, 67, 68, 10, 50, 51, 52, 53, 7, 69, 70, 71, 72, 73, 74, 75, 76, 77, 78, 79, 80, 81, 82, 83, 84, 85, 86, 87, 88, 89, 90, 91, 92, 93, 94, 95, 96, 97, 98, 99, 100, 101, 102, 103, 104, 105, 106, 107, 108, 109, 110, 111, 112, 113, 114, 115, 116, 117, 118, 119, 120, 121, 122, 123, 124, 125, 126, 127, 128, 129, 130, 131, 132, 133, 134, 135, 136, 137, 138, 139, 140, 141, 142, 143, 144, 145, 146, 147, 148, 149, 150, 151, 152, 153, 154, 155, 156, 157, 158, 159, 160, 161, 162, 163, 164, 165, 166, 167, 168, 169, 170, 171, 172, 173, 174, 175, 182, 183, 184, 185, 186, 187, 188, 189, 190, 191, 192, 193, 194, 195, 196, 197, 198, 199, 200, 201, 202] (by decide +kernel) (by decide +kernel)) (goodIn_sub (fun _ h => List.mem_cons_of_mem _ (List.mem_append_right _ h)) (by decide +kernel))
