theorem dX10_init_0 : decode cX10_init 0 = .ok (.aload_n 0, 1) := by decide +kernel
theorem dX10_init_1 : decode cX10_init 1 = .ok (.invokespecial 1, 3) := by decide +kernel
theorem dX10_init_4 : decode cX10_init 4 = .ok (.aload_n 0, 1) := by decide +kernel
theorem dX10_init_5 : decode cX10_init 5 = .ok (.bipush 86, 2) := by decide +kernel
theorem dX10_init_7 : decode cX10_init 7 = .ok (.newarray .int, 2) := by decide +kernel
theorem dX10_init_9 : decode cX10_init 9 = .ok (.putfield 9, 3) := by decide +kernel
theorem dX10_init_12 : decode cX10_init 12 = .ok (.aload_n 0, 1) := by decide +kernel
theorem dX10_init_13 : decode cX10_init 13 = .ok (.bipush 86, 2) := by decide +kernel
theorem dX10_init_15 : decode cX10_init 15 = .ok (.newarray .int, 2) := by decide +kernel
theorem dX10_init_17 : decode cX10_init 17 = .ok (.putfield 13, 3) := by decide +kernel
theorem dX10_init_20 : decode cX10_init 20 = .ok (.aload_n 0, 1) := by decide +kernel
theorem dX10_init_21 : decode cX10_init 21 = .ok (.bipush 86, 2) := by decide +kernel
theorem dX10_init_23 : decode cX10_init 23 = .ok (.newarray .int, 2) := by decide +kernel
theorem dX10_init_25 : decode cX10_init 25 = .ok (.putfield 16, 3) := by decide +kernel
theorem dX10_init_28 : decode cX10_init 28 = .ok (.aload_n 0, 1) := by decide +kernel
theorem dX10_init_29 : decode cX10_init 29 = .ok (.sipush 688, 3) := by decide +kernel
theorem dX10_init_32 : decode cX10_init 32 = .ok (.newarray .int, 2) := by decide +kernel
theorem dX10_init_34 : decode cX10_init 34 = .ok (.putfield 19, 3) := by decide +kernel
theorem dX10_init_37 : decode cX10_init 37 = .ok (.aload_n 0, 1) := by decide +kernel
theorem dX10_init_38 : decode cX10_init 38 = .ok (.iconst (-1), 1) := by decide +kernel
theorem dX10_init_39 : decode cX10_init 39 = .ok (.putfield 22, 3) := by decide +kernel
theorem dX10_init_42 : decode cX10_init 42 = .ok (.aload_n 0, 1) := by decide +kernel
theorem dX10_init_43 : decode cX10_init 43 = .ok (.bipush 60, 2) := by decide +kernel
theorem dX10_init_45 : decode cX10_init 45 = .ok (.newarray .int, 2) := by decide +kernel
theorem dX10_init_47 : decode cX10_init 47 = .ok (.putfield 26, 3) := by decide +kernel
theorem dX10_init_50 : decode cX10_init 50 = .ok (.aload_n 0, 1) := by decide +kernel
theorem dX10_init_51 : decode cX10_init 51 = .ok (.bipush 16, 2) := by decide +kernel
theorem dX10_init_53 : decode cX10_init 53 = .ok (.newarray .int, 2) := by decide +kernel
theorem dX10_init_55 : decode cX10_init 55 = .ok (.putfield 29, 3) := by decide +kernel
theorem dX10_init_58 : decode cX10_init 58 = .ok (.aload_n 0, 1) := by decide +kernel
theorem dX10_init_59 : decode cX10_init 59 = .ok (.sipush 244, 3) := by decide +kernel
theorem dX10_init_62 : decode cX10_init 62 = .ok (.newarray .int, 2) := by decide +kernel
theorem dX10_init_64 : decode cX10_init 64 = .ok (.putfield 32, 3) := by decide +kernel
theorem dX10_init_67 : decode cX10_init 67 = .ok (.aload_n 0, 1) := by decide +kernel
theorem dX10_init_68 : decode cX10_init 68 = .ok (.bipush 30, 2) := by decide +kernel
theorem dX10_init_70 : decode cX10_init 70 = .ok (.newarray .int, 2) := by decide +kernel
theorem dX10_init_72 : decode cX10_init 72 = .ok (.putfield 35, 3) := by decide +kernel
theorem dX10_init_75 : decode cX10_init 75 = .ok (.aload_n 0, 1) := by decide +kernel
theorem dX10_init_76 : decode cX10_init 76 = .ok (.getfield 9, 3) := by decide +kernel
theorem dX10_init_79 : decode cX10_init 79 = .ok (.iconst 2, 1) := by decide +kernel
theorem dX10_init_80 : decode cX10_init 80 = .ok (.iconst (-1), 1) := by decide +kernel
theorem dX10_init_81 : decode cX10_init 81 = .ok (.iastore, 1) := by decide +kernel
theorem dX10_init_82 : decode cX10_init 82 = .ok (.return_, 1) := by decide +kernel
theorem dX10_thrown_0 : decode cX10_thrown 0 = .ok (.aload_n 0, 1) := by decide +kernel
theorem dX10_thrown_1 : decode cX10_thrown 1 = .ok (.getfield 38, 3) := by decide +kernel
theorem dX10_thrown_4 : decode cX10_thrown 4 = .ok (.ireturn, 1) := by decide +kernel
theorem dX10_throwing_0 : decode cX10_throwing 0 = .ok (.aload_n 0, 1) := by decide +kernel
theorem dX10_throwing_1 : decode cX10_throwing 1 = .ok (.iload_n 1, 1) := by decide +kernel
theorem dX10_throwing_2 : decode cX10_throwing 2 = .ok (.putfield 38, 3) := by decide +kernel
theorem dX10_throwing_5 : decode cX10_throwing 5 = .ok (.iconst (-1), 1) := by decide +kernel
theorem dX10_throwing_6 : decode cX10_throwing 6 = .ok (.ireturn, 1) := by decide +kernel
theorem dX10_in_0 : decode cX10_in 0 = .ok (.lload_n 0, 1) := by decide +kernel
theorem dX10_in_1 : decode cX10_in 1 = .ok (.lload_n 2, 1) := by decide +kernel
theorem dX10_in_2 : decode cX10_in 2 = .ok (.lcmp, 1) := by decide +kernel
theorem dX10_in_3 : decode cX10_in 3 = .ok (.ifCond .lt 14, 3) := by decide +kernel
theorem dX10_in_6 : decode cX10_in 6 = .ok (.lload_n 0, 1) := by decide +kernel
theorem dX10_in_7 : decode cX10_in 7 = .ok (.lload 4, 2) := by decide +kernel
theorem dX10_in_9 : decode cX10_in 9 = .ok (.lcmp, 1) := by decide +kernel
theorem dX10_in_10 : decode cX10_in 10 = .ok (.ifCond .gt 7, 3) := by decide +kernel
theorem dX10_in_13 : decode cX10_in 13 = .ok (.iconst 1, 1) := by decide +kernel
theorem dX10_in_14 : decode cX10_in 14 = .ok (.goto 4, 3) := by decide +kernel
theorem dX10_in_17 : decode cX10_in 17 = .ok (.iconst 0, 1) := by decide +kernel
theorem dX10_in_18 : decode cX10_in 18 = .ok (.ireturn, 1) := by decide +kernel
set_option maxRecDepth 20000 in
theorem ggX10_refuse_X10_throwing : GoodIn wsX10_refuse wsX10_throwing := goodIn_r _ [8, 9, 10, 11, 12, 13, 14, 15, 16, 17, 18, 19, 20, 21, 22, 23, 24, 25, 26, 27, 28, 29, 30] (by decide +kernel) (by decide +kernel)
set_option maxRecDepth 20000 in
theorem gX10_refuse_X10_throwing : GoodIn wsX10_refuse (wsV RX10 50 RX10 yX10_throwing wsX10_throwing) := goodIn_app (goodIn_of _ (by decide +kernel)) ggX10_refuse_X10_throwing
theorem dX10_refuse_0 : decode cX10_refuse 0 = .ok (.aload_n 0, 1) := by decide +kernel
theorem dX10_refuse_1 : decode cX10_refuse 1 = .ok (.iload_n 1, 1) := by decide +kernel
theorem dX10_refuse_2 : decode cX10_refuse 2 = .ok (.putfield 41, 3) := by decide +kernel
theorem dX10_refuse_5 : decode cX10_refuse 5 = .ok (.aload_n 0, 1) := by decide +kernel
theorem dX10_refuse_6 : decode cX10_refuse 6 = .ok (.iload_n 2, 1) := by decide +kernel
theorem dX10_refuse_7 : decode cX10_refuse 7 = .ok (.putfield 44, 3) := by decide +kernel
theorem dX10_refuse_10 : decode cX10_refuse 10 = .ok (.aload_n 0, 1) := by decide +kernel
theorem dX10_refuse_11 : decode cX10_refuse 11 = .ok (.iconst 0, 1) := by decide +kernel
theorem dX10_refuse_12 : decode cX10_refuse 12 = .ok (.putfield 47, 3) := by decide +kernel
theorem dX10_refuse_15 : decode cX10_refuse 15 = .ok (.aload_n 0, 1) := by decide +kernel
theorem dX10_refuse_16 : decode cX10_refuse 16 = .ok (.iconst 1, 1) := by decide +kernel
theorem dX10_refuse_17 : decode cX10_refuse 17 = .ok (.invokevirtual 50, 3) := by decide +kernel
theorem dX10_refuse_20 : decode cX10_refuse 20 = .ok (.ireturn, 1) := by decide +kernel
theorem dX10_starts_0 : decode cX10_starts 0 = .ok (.aload_n 0, 1) := by decide +kernel
theorem dX10_starts_1 : decode cX10_starts 1 = .ok (.iconst 0, 1) := by decide +kernel
theorem dX10_starts_2 : decode cX10_starts 2 = .ok (.putfield 38, 3) := by decide +kernel
theorem dX10_starts_5 : decode cX10_starts 5 = .ok (.iconst 0, 1) := by decide +kernel
theorem dX10_starts_6 : decode cX10_starts 6 = .ok (.istore_n 1, 1) := by decide +kernel
theorem dX10_starts_7 : decode cX10_starts 7 = .ok (.iload_n 1, 1) := by decide +kernel
theorem dX10_starts_8 : decode cX10_starts 8 = .ok (.bipush 86, 2) := by decide +kernel
theorem dX10_starts_10 : decode cX10_starts 10 = .ok (.if_icmp .ge 21, 3) := by decide +kernel
theorem dX10_starts_13 : decode cX10_starts 13 = .ok (.aload_n 0, 1) := by decide +kernel
theorem dX10_starts_14 : decode cX10_starts 14 = .ok (.getfield 13, 3) := by decide +kernel
theorem dX10_starts_17 : decode cX10_starts 17 = .ok (.iload_n 1, 1) := by decide +kernel
theorem dX10_starts_18 : decode cX10_starts 18 = .ok (.aload_n 0, 1) := by decide +kernel
theorem dX10_starts_19 : decode cX10_starts 19 = .ok (.getfield 9, 3) := by decide +kernel
theorem dX10_starts_22 : decode cX10_starts 22 = .ok (.iload_n 1, 1) := by decide +kernel
theorem dX10_starts_23 : decode cX10_starts 23 = .ok (.iaload, 1) := by decide +kernel
theorem dX10_starts_24 : decode cX10_starts 24 = .ok (.iastore, 1) := by decide +kernel
theorem dX10_starts_25 : decode cX10_starts 25 = .ok (.iinc 1 1, 3) := by decide +kernel
theorem dX10_starts_28 : decode cX10_starts 28 = .ok (.goto (-21), 3) := by decide +kernel
theorem dX10_starts_31 : decode cX10_starts 31 = .ok (.return_, 1) := by decide +kernel
theorem dX10_changed_0 : decode cX10_changed 0 = .ok (.aload_n 0, 1) := by decide +kernel
theorem dX10_changed_1 : decode cX10_changed 1 = .ok (.getfield 38, 3) := by decide +kernel
theorem dX10_changed_4 : decode cX10_changed 4 = .ok (.ifCond .le 5, 3) := by decide +kernel
theorem dX10_changed_7 : decode cX10_changed 7 = .ok (.iload_n 1, 1) := by decide +kernel
theorem dX10_changed_8 : decode cX10_changed 8 = .ok (.ireturn, 1) := by decide +kernel
theorem dX10_changed_9 : decode cX10_changed 9 = .ok (.aload_n 0, 1) := by decide +kernel
theorem dX10_changed_10 : decode cX10_changed 10 = .ok (.getfield 54, 3) := by decide +kernel
theorem dX10_changed_13 : decode cX10_changed 13 = .ok (.bipush 8, 2) := by decide +kernel
theorem dX10_changed_15 : decode cX10_changed 15 = .ok (.if_icmp .ne 43, 3) := by decide +kernel
theorem dX10_changed_18 : decode cX10_changed 18 = .ok (.iconst 0, 1) := by decide +kernel
theorem dX10_changed_19 : decode cX10_changed 19 = .ok (.istore_n 2, 1) := by decide +kernel
theorem dX10_changed_20 : decode cX10_changed 20 = .ok (.iload_n 2, 1) := by decide +kernel
theorem dX10_changed_21 : decode cX10_changed 21 = .ok (.sipush 602, 3) := by decide +kernel
theorem dX10_changed_24 : decode cX10_changed 24 = .ok (.if_icmp .ge 24, 3) := by decide +kernel
theorem dX10_changed_27 : decode cX10_changed 27 = .ok (.aload_n 0, 1) := by decide +kernel
theorem dX10_changed_28 : decode cX10_changed 28 = .ok (.getfield 19, 3) := by decide +kernel
theorem dX10_changed_31 : decode cX10_changed 31 = .ok (.iload_n 2, 1) := by decide +kernel
theorem dX10_changed_32 : decode cX10_changed 32 = .ok (.aload_n 0, 1) := by decide +kernel
theorem dX10_changed_33 : decode cX10_changed 33 = .ok (.getfield 19, 3) := by decide +kernel
theorem dX10_changed_36 : decode cX10_changed 36 = .ok (.iload_n 2, 1) := by decide +kernel
theorem dX10_changed_37 : decode cX10_changed 37 = .ok (.bipush 86, 2) := by decide +kernel
theorem dX10_changed_39 : decode cX10_changed 39 = .ok (.iadd, 1) := by decide +kernel
theorem dX10_changed_40 : decode cX10_changed 40 = .ok (.iaload, 1) := by decide +kernel
theorem dX10_changed_41 : decode cX10_changed 41 = .ok (.iastore, 1) := by decide +kernel
theorem dX10_changed_42 : decode cX10_changed 42 = .ok (.iinc 2 1, 3) := by decide +kernel
theorem dX10_changed_45 : decode cX10_changed 45 = .ok (.goto (-25), 3) := by decide +kernel
theorem dX10_changed_48 : decode cX10_changed 48 = .ok (.aload_n 0, 1) := by decide +kernel
theorem dX10_changed_49 : decode cX10_changed 49 = .ok (.dup, 1) := by decide +kernel
theorem dX10_changed_50 : decode cX10_changed 50 = .ok (.getfield 54, 3) := by decide +kernel
theorem dX10_changed_53 : decode cX10_changed 53 = .ok (.iconst 1, 1) := by decide +kernel
theorem dX10_changed_54 : decode cX10_changed 54 = .ok (.isub, 1) := by decide +kernel
theorem dX10_changed_55 : decode cX10_changed 55 = .ok (.putfield 54, 3) := by decide +kernel
theorem dX10_changed_58 : decode cX10_changed 58 = .ok (.iconst 0, 1) := by decide +kernel
theorem dX10_changed_59 : decode cX10_changed 59 = .ok (.istore_n 2, 1) := by decide +kernel
theorem dX10_changed_60 : decode cX10_changed 60 = .ok (.iload_n 2, 1) := by decide +kernel
theorem dX10_changed_61 : decode cX10_changed 61 = .ok (.bipush 86, 2) := by decide +kernel
theorem dX10_changed_63 : decode cX10_changed 63 = .ok (.if_icmp .ge 29, 3) := by decide +kernel
theorem dX10_changed_66 : decode cX10_changed 66 = .ok (.aload_n 0, 1) := by decide +kernel
theorem dX10_changed_67 : decode cX10_changed 67 = .ok (.getfield 19, 3) := by decide +kernel
theorem dX10_changed_70 : decode cX10_changed 70 = .ok (.bipush 86, 2) := by decide +kernel
theorem dX10_changed_72 : decode cX10_changed 72 = .ok (.aload_n 0, 1) := by decide +kernel
theorem dX10_changed_73 : decode cX10_changed 73 = .ok (.getfield 54, 3) := by decide +kernel
theorem dX10_changed_76 : decode cX10_changed 76 = .ok (.imul, 1) := by decide +kernel
theorem dX10_changed_77 : decode cX10_changed 77 = .ok (.iload_n 2, 1) := by decide +kernel
theorem dX10_changed_78 : decode cX10_changed 78 = .ok (.iadd, 1) := by decide +kernel
theorem dX10_changed_79 : decode cX10_changed 79 = .ok (.aload_n 0, 1) := by decide +kernel
theorem dX10_changed_80 : decode cX10_changed 80 = .ok (.getfield 13, 3) := by decide +kernel
theorem dX10_changed_83 : decode cX10_changed 83 = .ok (.iload_n 2, 1) := by decide +kernel
theorem dX10_changed_84 : decode cX10_changed 84 = .ok (.iaload, 1) := by decide +kernel
theorem dX10_changed_85 : decode cX10_changed 85 = .ok (.iastore, 1) := by decide +kernel
theorem dX10_changed_86 : decode cX10_changed 86 = .ok (.iinc 2 1, 3) := by decide +kernel
theorem dX10_changed_89 : decode cX10_changed 89 = .ok (.goto (-29), 3) := by decide +kernel
theorem dX10_changed_92 : decode cX10_changed 92 = .ok (.aload_n 0, 1) := by decide +kernel
theorem dX10_changed_93 : decode cX10_changed 93 = .ok (.dup, 1) := by decide +kernel
theorem dX10_changed_94 : decode cX10_changed 94 = .ok (.getfield 54, 3) := by decide +kernel
theorem dX10_changed_97 : decode cX10_changed 97 = .ok (.iconst 1, 1) := by decide +kernel
theorem dX10_changed_98 : decode cX10_changed 98 = .ok (.iadd, 1) := by decide +kernel
theorem dX10_changed_99 : decode cX10_changed 99 = .ok (.putfield 54, 3) := by decide +kernel
theorem dX10_changed_102 : decode cX10_changed 102 = .ok (.iload_n 1, 1) := by decide +kernel
theorem dX10_changed_103 : decode cX10_changed 103 = .ok (.ireturn, 1) := by decide +kernel
set_option maxRecDepth 20000 in
theorem ggX10_isCell_X10_in : GoodIn wsX10_isCell wsX10_in := goodIn_r _ [5] (by decide +kernel) (by decide +kernel)
set_option maxRecDepth 20000 in
theorem gX10_isCell_X10_in : GoodIn wsX10_isCell (va_wsS RX10 59 yX10_in wsX10_in) := goodIn_app (goodIn_of _ (by decide +kernel)) ggX10_isCell_X10_in
theorem dX10_isCell_0 : decode cX10_isCell 0 = .ok (.iload_n 0, 1) := by decide +kernel
theorem dX10_isCell_1 : decode cX10_isCell 1 = .ok (.i2l, 1) := by decide +kernel
theorem dX10_isCell_2 : decode cX10_isCell 2 = .ok (.lconst 0, 1) := by decide +kernel
theorem dX10_isCell_3 : decode cX10_isCell 3 = .ok (.ldc2_w 57, 3) := by decide +kernel
theorem dX10_isCell_6 : decode cX10_isCell 6 = .ok (.invokestatic 59, 3) := by decide +kernel
theorem dX10_isCell_9 : decode cX10_isCell 9 = .ok (.ireturn, 1) := by decide +kernel
set_option maxRecDepth 20000 in
theorem ggX10_nextTo_X10_in : GoodIn wsX10_nextTo wsX10_in := goodIn_r _ [5] (by decide +kernel) (by decide +kernel)
set_option maxRecDepth 20000 in
theorem gX10_nextTo_X10_in : GoodIn wsX10_nextTo (va_wsS RX10 59 yX10_in wsX10_in) := goodIn_app (goodIn_of _ (by decide +kernel)) ggX10_nextTo_X10_in
theorem dX10_nextTo_0 : decode cX10_nextTo 0 = .ok (.iload_n 0, 1) := by decide +kernel
theorem dX10_nextTo_1 : decode cX10_nextTo 1 = .ok (.iconst 4, 1) := by decide +kernel
theorem dX10_nextTo_2 : decode cX10_nextTo 2 = .ok (.idiv, 1) := by decide +kernel
theorem dX10_nextTo_3 : decode cX10_nextTo 3 = .ok (.iload_n 1, 1) := by decide +kernel
theorem dX10_nextTo_4 : decode cX10_nextTo 4 = .ok (.ifCond .ne 7, 3) := by decide +kernel
theorem dX10_nextTo_7 : decode cX10_nextTo 7 = .ok (.iconst (-1), 1) := by decide +kernel
theorem dX10_nextTo_8 : decode cX10_nextTo 8 = .ok (.goto 13, 3) := by decide +kernel
theorem dX10_nextTo_11 : decode cX10_nextTo 11 = .ok (.iload_n 1, 1) := by decide +kernel
theorem dX10_nextTo_12 : decode cX10_nextTo 12 = .ok (.iconst 2, 1) := by decide +kernel
theorem dX10_nextTo_13 : decode cX10_nextTo 13 = .ok (.if_icmp .ne 7, 3) := by decide +kernel
theorem dX10_nextTo_16 : decode cX10_nextTo 16 = .ok (.iconst 1, 1) := by decide +kernel
theorem dX10_nextTo_17 : decode cX10_nextTo 17 = .ok (.goto 4, 3) := by decide +kernel
theorem dX10_nextTo_20 : decode cX10_nextTo 20 = .ok (.iconst 0, 1) := by decide +kernel
theorem dX10_nextTo_21 : decode cX10_nextTo 21 = .ok (.iadd, 1) := by decide +kernel
theorem dX10_nextTo_22 : decode cX10_nextTo 22 = .ok (.istore_n 2, 1) := by decide +kernel
theorem dX10_nextTo_23 : decode cX10_nextTo 23 = .ok (.iload_n 0, 1) := by decide +kernel
theorem dX10_nextTo_24 : decode cX10_nextTo 24 = .ok (.iconst 4, 1) := by decide +kernel
theorem dX10_nextTo_25 : decode cX10_nextTo 25 = .ok (.irem, 1) := by decide +kernel
theorem dX10_nextTo_26 : decode cX10_nextTo 26 = .ok (.iload_n 1, 1) := by decide +kernel
theorem dX10_nextTo_27 : decode cX10_nextTo 27 = .ok (.iconst 1, 1) := by decide +kernel
theorem dX10_nextTo_28 : decode cX10_nextTo 28 = .ok (.if_icmp .ne 7, 3) := by decide +kernel
theorem dX10_nextTo_31 : decode cX10_nextTo 31 = .ok (.iconst 1, 1) := by decide +kernel
theorem dX10_nextTo_32 : decode cX10_nextTo 32 = .ok (.goto 13, 3) := by decide +kernel
theorem dX10_nextTo_35 : decode cX10_nextTo 35 = .ok (.iload_n 1, 1) := by decide +kernel
theorem dX10_nextTo_36 : decode cX10_nextTo 36 = .ok (.iconst 3, 1) := by decide +kernel
theorem dX10_nextTo_37 : decode cX10_nextTo 37 = .ok (.if_icmp .ne 7, 3) := by decide +kernel
theorem dX10_nextTo_40 : decode cX10_nextTo 40 = .ok (.iconst (-1), 1) := by decide +kernel
theorem dX10_nextTo_41 : decode cX10_nextTo 41 = .ok (.goto 4, 3) := by decide +kernel
theorem dX10_nextTo_44 : decode cX10_nextTo 44 = .ok (.iconst 0, 1) := by decide +kernel
theorem dX10_nextTo_45 : decode cX10_nextTo 45 = .ok (.iadd, 1) := by decide +kernel
theorem dX10_nextTo_46 : decode cX10_nextTo 46 = .ok (.istore_n 3, 1) := by decide +kernel
theorem dX10_nextTo_47 : decode cX10_nextTo 47 = .ok (.iload_n 2, 1) := by decide +kernel
theorem dX10_nextTo_48 : decode cX10_nextTo 48 = .ok (.i2l, 1) := by decide +kernel
theorem dX10_nextTo_49 : decode cX10_nextTo 49 = .ok (.lconst 0, 1) := by decide +kernel
theorem dX10_nextTo_50 : decode cX10_nextTo 50 = .ok (.ldc2_w 63, 3) := by decide +kernel
theorem dX10_nextTo_53 : decode cX10_nextTo 53 = .ok (.invokestatic 59, 3) := by decide +kernel
theorem dX10_nextTo_56 : decode cX10_nextTo 56 = .ok (.ifCond .eq 23, 3) := by decide +kernel
theorem dX10_nextTo_59 : decode cX10_nextTo 59 = .ok (.iload_n 3, 1) := by decide +kernel
theorem dX10_nextTo_60 : decode cX10_nextTo 60 = .ok (.i2l, 1) := by decide +kernel
theorem dX10_nextTo_61 : decode cX10_nextTo 61 = .ok (.lconst 0, 1) := by decide +kernel
theorem dX10_nextTo_62 : decode cX10_nextTo 62 = .ok (.ldc2_w 63, 3) := by decide +kernel
theorem dX10_nextTo_65 : decode cX10_nextTo 65 = .ok (.invokestatic 59, 3) := by decide +kernel
theorem dX10_nextTo_68 : decode cX10_nextTo 68 = .ok (.ifCond .eq 11, 3) := by decide +kernel
theorem dX10_nextTo_71 : decode cX10_nextTo 71 = .ok (.iconst 4, 1) := by decide +kernel
theorem dX10_nextTo_72 : decode cX10_nextTo 72 = .ok (.iload_n 2, 1) := by decide +kernel
theorem dX10_nextTo_73 : decode cX10_nextTo 73 = .ok (.imul, 1) := by decide +kernel
theorem dX10_nextTo_74 : decode cX10_nextTo 74 = .ok (.iload_n 3, 1) := by decide +kernel
theorem dX10_nextTo_75 : decode cX10_nextTo 75 = .ok (.iadd, 1) := by decide +kernel
theorem dX10_nextTo_76 : decode cX10_nextTo 76 = .ok (.goto 4, 3) := by decide +kernel
theorem dX10_nextTo_79 : decode cX10_nextTo 79 = .ok (.iconst (-1), 1) := by decide +kernel
theorem dX10_nextTo_80 : decode cX10_nextTo 80 = .ok (.ireturn, 1) := by decide +kernel
theorem dX10_hedgeAt_0 : decode cX10_hedgeAt 0 = .ok (.iload_n 0, 1) := by decide +kernel
theorem dX10_hedgeAt_1 : decode cX10_hedgeAt 1 = .ok (.iload_n 1, 1) := by decide +kernel
theorem dX10_hedgeAt_2 : decode cX10_hedgeAt 2 = .ok (.invokestatic 65, 3) := by decide +kernel
theorem dX10_hedgeAt_5 : decode cX10_hedgeAt 5 = .ok (.istore_n 2, 1) := by decide +kernel
theorem dX10_hedgeAt_6 : decode cX10_hedgeAt 6 = .ok (.iload_n 0, 1) := by decide +kernel
theorem dX10_hedgeAt_7 : decode cX10_hedgeAt 7 = .ok (.iload_n 1, 1) := by decide +kernel
theorem dX10_hedgeAt_8 : decode cX10_hedgeAt 8 = .ok (.invokestatic 71, 3) := by decide +kernel
theorem dX10_hedgeAt_11 : decode cX10_hedgeAt 11 = .ok (.istore_n 3, 1) := by decide +kernel
theorem dX10_hedgeAt_12 : decode cX10_hedgeAt 12 = .ok (.iload_n 3, 1) := by decide +kernel
theorem dX10_hedgeAt_13 : decode cX10_hedgeAt 13 = .ok (.iload_n 2, 1) := by decide +kernel
theorem dX10_hedgeAt_14 : decode cX10_hedgeAt 14 = .ok (.isub, 1) := by decide +kernel
theorem dX10_hedgeAt_15 : decode cX10_hedgeAt 15 = .ok (.iconst 4, 1) := by decide +kernel
theorem dX10_hedgeAt_16 : decode cX10_hedgeAt 16 = .ok (.if_icmp .ne 8, 3) := by decide +kernel
theorem dX10_hedgeAt_19 : decode cX10_hedgeAt 19 = .ok (.bipush 18, 2) := by decide +kernel
theorem dX10_hedgeAt_21 : decode cX10_hedgeAt 21 = .ok (.iload_n 2, 1) := by decide +kernel
theorem dX10_hedgeAt_22 : decode cX10_hedgeAt 22 = .ok (.iadd, 1) := by decide +kernel
theorem dX10_hedgeAt_23 : decode cX10_hedgeAt 23 = .ok (.ireturn, 1) := by decide +kernel
theorem dX10_hedgeAt_24 : decode cX10_hedgeAt 24 = .ok (.iload_n 3, 1) := by decide +kernel
theorem dX10_hedgeAt_25 : decode cX10_hedgeAt 25 = .ok (.iload_n 2, 1) := by decide +kernel
theorem dX10_hedgeAt_26 : decode cX10_hedgeAt 26 = .ok (.isub, 1) := by decide +kernel
theorem dX10_hedgeAt_27 : decode cX10_hedgeAt 27 = .ok (.iconst 1, 1) := by decide +kernel
theorem dX10_hedgeAt_28 : decode cX10_hedgeAt 28 = .ok (.if_icmp .ne 25, 3) := by decide +kernel
theorem dX10_hedgeAt_31 : decode cX10_hedgeAt 31 = .ok (.iload_n 2, 1) := by decide +kernel
theorem dX10_hedgeAt_32 : decode cX10_hedgeAt 32 = .ok (.iconst 4, 1) := by decide +kernel
theorem dX10_hedgeAt_33 : decode cX10_hedgeAt 33 = .ok (.irem, 1) := by decide +kernel
theorem dX10_hedgeAt_34 : decode cX10_hedgeAt 34 = .ok (.iconst 3, 1) := by decide +kernel
theorem dX10_hedgeAt_35 : decode cX10_hedgeAt 35 = .ok (.if_icmp .ge 18, 3) := by decide +kernel
theorem dX10_hedgeAt_38 : decode cX10_hedgeAt 38 = .ok (.bipush 6, 2) := by decide +kernel
theorem dX10_hedgeAt_40 : decode cX10_hedgeAt 40 = .ok (.iconst 3, 1) := by decide +kernel
theorem dX10_hedgeAt_41 : decode cX10_hedgeAt 41 = .ok (.iload_n 2, 1) := by decide +kernel
theorem dX10_hedgeAt_42 : decode cX10_hedgeAt 42 = .ok (.iconst 4, 1) := by decide +kernel
theorem dX10_hedgeAt_43 : decode cX10_hedgeAt 43 = .ok (.idiv, 1) := by decide +kernel
theorem dX10_hedgeAt_44 : decode cX10_hedgeAt 44 = .ok (.imul, 1) := by decide +kernel
theorem dX10_hedgeAt_45 : decode cX10_hedgeAt 45 = .ok (.iadd, 1) := by decide +kernel
theorem dX10_hedgeAt_46 : decode cX10_hedgeAt 46 = .ok (.iload_n 2, 1) := by decide +kernel
theorem dX10_hedgeAt_47 : decode cX10_hedgeAt 47 = .ok (.iconst 4, 1) := by decide +kernel
theorem dX10_hedgeAt_48 : decode cX10_hedgeAt 48 = .ok (.irem, 1) := by decide +kernel
theorem dX10_hedgeAt_49 : decode cX10_hedgeAt 49 = .ok (.iadd, 1) := by decide +kernel
theorem dX10_hedgeAt_50 : decode cX10_hedgeAt 50 = .ok (.goto 4, 3) := by decide +kernel
theorem dX10_hedgeAt_53 : decode cX10_hedgeAt 53 = .ok (.iconst (-1), 1) := by decide +kernel
theorem dX10_hedgeAt_54 : decode cX10_hedgeAt 54 = .ok (.ireturn, 1) := by decide +kernel
theorem dX10_isGapAt_0 : decode cX10_isGapAt 0 = .ok (.iload_n 1, 1) := by decide +kernel
theorem dX10_isGapAt_1 : decode cX10_isGapAt 1 = .ok (.iconst (-1), 1) := by decide +kernel
theorem dX10_isGapAt_2 : decode cX10_isGapAt 2 = .ok (.if_icmp .eq 17, 3) := by decide +kernel
theorem dX10_isGapAt_5 : decode cX10_isGapAt 5 = .ok (.aload_n 0, 1) := by decide +kernel
theorem dX10_isGapAt_6 : decode cX10_isGapAt 6 = .ok (.getfield 9, 3) := by decide +kernel
theorem dX10_isGapAt_9 : decode cX10_isGapAt 9 = .ok (.iload_n 1, 1) := by decide +kernel
theorem dX10_isGapAt_10 : decode cX10_isGapAt 10 = .ok (.iaload, 1) := by decide +kernel
theorem dX10_isGapAt_11 : decode cX10_isGapAt 11 = .ok (.iconst 5, 1) := by decide +kernel
theorem dX10_isGapAt_12 : decode cX10_isGapAt 12 = .ok (.if_icmp .ge 7, 3) := by decide +kernel
theorem dX10_isGapAt_15 : decode cX10_isGapAt 15 = .ok (.iconst 1, 1) := by decide +kernel
theorem dX10_isGapAt_16 : decode cX10_isGapAt 16 = .ok (.goto 4, 3) := by decide +kernel
theorem dX10_isGapAt_19 : decode cX10_isGapAt 19 = .ok (.iconst 0, 1) := by decide +kernel
theorem dX10_isGapAt_20 : decode cX10_isGapAt 20 = .ok (.ireturn, 1) := by decide +kernel
theorem dX10_gardenerAt_0 : decode cX10_gardenerAt 0 = .ok (.bipush 30, 2) := by decide +kernel
theorem dX10_gardenerAt_2 : decode cX10_gardenerAt 2 = .ok (.iconst 4, 1) := by decide +kernel
theorem dX10_gardenerAt_3 : decode cX10_gardenerAt 3 = .ok (.iload_n 0, 1) := by decide +kernel
theorem dX10_gardenerAt_4 : decode cX10_gardenerAt 4 = .ok (.imul, 1) := by decide +kernel
theorem dX10_gardenerAt_5 : decode cX10_gardenerAt 5 = .ok (.iadd, 1) := by decide +kernel
theorem dX10_gardenerAt_6 : decode cX10_gardenerAt 6 = .ok (.ireturn, 1) := by decide +kernel
theorem dX10_visitorAt_0 : decode cX10_visitorAt 0 = .ok (.bipush 46, 2) := by decide +kernel
theorem dX10_visitorAt_2 : decode cX10_visitorAt 2 = .ok (.bipush 8, 2) := by decide +kernel
theorem dX10_visitorAt_4 : decode cX10_visitorAt 4 = .ok (.iload_n 0, 1) := by decide +kernel
theorem dX10_visitorAt_5 : decode cX10_visitorAt 5 = .ok (.imul, 1) := by decide +kernel
theorem dX10_visitorAt_6 : decode cX10_visitorAt 6 = .ok (.iadd, 1) := by decide +kernel
theorem dX10_visitorAt_7 : decode cX10_visitorAt 7 = .ok (.ireturn, 1) := by decide +kernel
set_option maxRecDepth 20000 in
theorem ggX10_isGardener_X10_in : GoodIn wsX10_isGardener wsX10_in := goodIn_r _ [5] (by decide +kernel) (by decide +kernel)
set_option maxRecDepth 20000 in
theorem gX10_isGardener_X10_in : GoodIn wsX10_isGardener (va_wsS RX10 59 yX10_in wsX10_in) := goodIn_app (goodIn_of _ (by decide +kernel)) ggX10_isGardener_X10_in
theorem dX10_isGardener_0 : decode cX10_isGardener 0 = .ok (.iload_n 1, 1) := by decide +kernel
theorem dX10_isGardener_1 : decode cX10_isGardener 1 = .ok (.i2l, 1) := by decide +kernel
theorem dX10_isGardener_2 : decode cX10_isGardener 2 = .ok (.lconst 0, 1) := by decide +kernel
theorem dX10_isGardener_3 : decode cX10_isGardener 3 = .ok (.aload_n 0, 1) := by decide +kernel
theorem dX10_isGardener_4 : decode cX10_isGardener 4 = .ok (.getfield 9, 3) := by decide +kernel
theorem dX10_isGardener_7 : decode cX10_isGardener 7 = .ok (.iconst 0, 1) := by decide +kernel
theorem dX10_isGardener_8 : decode cX10_isGardener 8 = .ok (.iaload, 1) := by decide +kernel
theorem dX10_isGardener_9 : decode cX10_isGardener 9 = .ok (.iconst 1, 1) := by decide +kernel
theorem dX10_isGardener_10 : decode cX10_isGardener 10 = .ok (.isub, 1) := by decide +kernel
theorem dX10_isGardener_11 : decode cX10_isGardener 11 = .ok (.i2l, 1) := by decide +kernel
theorem dX10_isGardener_12 : decode cX10_isGardener 12 = .ok (.invokestatic 59, 3) := by decide +kernel
theorem dX10_isGardener_15 : decode cX10_isGardener 15 = .ok (.ireturn, 1) := by decide +kernel
set_option maxRecDepth 20000 in
theorem ggX10_isVisitor_X10_in : GoodIn wsX10_isVisitor wsX10_in := goodIn_r _ [5] (by decide +kernel) (by decide +kernel)
set_option maxRecDepth 20000 in
theorem gX10_isVisitor_X10_in : GoodIn wsX10_isVisitor (va_wsS RX10 59 yX10_in wsX10_in) := goodIn_app (goodIn_of _ (by decide +kernel)) ggX10_isVisitor_X10_in
theorem dX10_isVisitor_0 : decode cX10_isVisitor 0 = .ok (.iload_n 1, 1) := by decide +kernel
theorem dX10_isVisitor_1 : decode cX10_isVisitor 1 = .ok (.i2l, 1) := by decide +kernel
theorem dX10_isVisitor_2 : decode cX10_isVisitor 2 = .ok (.lconst 0, 1) := by decide +kernel
theorem dX10_isVisitor_3 : decode cX10_isVisitor 3 = .ok (.aload_n 0, 1) := by decide +kernel
theorem dX10_isVisitor_4 : decode cX10_isVisitor 4 = .ok (.getfield 9, 3) := by decide +kernel
theorem dX10_isVisitor_7 : decode cX10_isVisitor 7 = .ok (.iconst 1, 1) := by decide +kernel
theorem dX10_isVisitor_8 : decode cX10_isVisitor 8 = .ok (.iaload, 1) := by decide +kernel
theorem dX10_isVisitor_9 : decode cX10_isVisitor 9 = .ok (.iconst 1, 1) := by decide +kernel
theorem dX10_isVisitor_10 : decode cX10_isVisitor 10 = .ok (.isub, 1) := by decide +kernel
theorem dX10_isVisitor_11 : decode cX10_isVisitor 11 = .ok (.i2l, 1) := by decide +kernel
theorem dX10_isVisitor_12 : decode cX10_isVisitor 12 = .ok (.invokestatic 59, 3) := by decide +kernel
theorem dX10_isVisitor_15 : decode cX10_isVisitor 15 = .ok (.ireturn, 1) := by decide +kernel
set_option maxRecDepth 20000 in
theorem ggX10_laysWays_X10_nextTo : GoodIn wsX10_laysWays wsX10_nextTo := goodIn_r _ [9, 10, 11, 12, 8, 13] (by decide +kernel) (by decide +kernel)
set_option maxRecDepth 20000 in
theorem gX10_laysWays_X10_nextTo : GoodIn wsX10_laysWays (va_wsS RX10 74 yX10_nextTo wsX10_nextTo) := goodIn_app (goodIn_of _ (by decide +kernel)) ggX10_laysWays_X10_nextTo
set_option maxRecDepth 20000 in
theorem ggX10_laysWays_X10_hedgeAt : GoodIn wsX10_laysWays wsX10_hedgeAt := goodIn_r _ [16, 2, 3, 4, 5, 17, 18, 19] (by decide +kernel) (by decide +kernel)
set_option maxRecDepth 20000 in
theorem gX10_laysWays_X10_hedgeAt : GoodIn wsX10_laysWays (va_wsS RX10 77 yX10_hedgeAt wsX10_hedgeAt) := goodIn_app (goodIn_of _ (by decide +kernel)) ggX10_laysWays_X10_hedgeAt
set_option maxRecDepth 20000 in
theorem ggX10_laysWays_X10_isGapAt : GoodIn wsX10_laysWays wsX10_isGapAt := goodIn_ca (goodIn_r _ [23, 24, 25, 26, 27, 28, 29, 30, 31, 32, 33, 34, 35, 36, 37, 38, 39, 40, 41, 42, 43, 44, 45] (by decide +kernel) (by decide +kernel)) (goodIn_sub (fun _ h => List.mem_cons_of_mem _ (List.mem_append_right _ h)) (by decide +kernel))
set_option maxRecDepth 20000 in
theorem gX10_laysWays_X10_isGapAt : GoodIn wsX10_laysWays (wsV RX10 80 RX10 yX10_isGapAt wsX10_isGapAt) := goodIn_app (goodIn_of _ (by decide +kernel)) ggX10_laysWays_X10_isGapAt
theorem dX10_laysWays_0 : decode cX10_laysWays 0 = .ok (.iconst 0, 1) := by decide +kernel
theorem dX10_laysWays_1 : decode cX10_laysWays 1 = .ok (.istore_n 3, 1) := by decide +kernel
theorem dX10_laysWays_2 : decode cX10_laysWays 2 = .ok (.iload_n 3, 1) := by decide +kernel
theorem dX10_laysWays_3 : decode cX10_laysWays 3 = .ok (.bipush 16, 2) := by decide +kernel
theorem dX10_laysWays_5 : decode cX10_laysWays 5 = .ok (.if_icmp .ge 26, 3) := by decide +kernel
theorem dX10_laysWays_8 : decode cX10_laysWays 8 = .ok (.aload_n 0, 1) := by decide +kernel
theorem dX10_laysWays_9 : decode cX10_laysWays 9 = .ok (.getfield 29, 3) := by decide +kernel
theorem dX10_laysWays_12 : decode cX10_laysWays 12 = .ok (.iload_n 3, 1) := by decide +kernel
theorem dX10_laysWays_13 : decode cX10_laysWays 13 = .ok (.iload_n 3, 1) := by decide +kernel
theorem dX10_laysWays_14 : decode cX10_laysWays 14 = .ok (.iload_n 1, 1) := by decide +kernel
theorem dX10_laysWays_15 : decode cX10_laysWays 15 = .ok (.if_icmp .ne 7, 3) := by decide +kernel
theorem dX10_laysWays_18 : decode cX10_laysWays 18 = .ok (.iconst 0, 1) := by decide +kernel
theorem dX10_laysWays_19 : decode cX10_laysWays 19 = .ok (.goto 5, 3) := by decide +kernel
theorem dX10_laysWays_22 : decode cX10_laysWays 22 = .ok (.bipush 99, 2) := by decide +kernel
theorem dX10_laysWays_24 : decode cX10_laysWays 24 = .ok (.iastore, 1) := by decide +kernel
theorem dX10_laysWays_25 : decode cX10_laysWays 25 = .ok (.iinc 3 1, 3) := by decide +kernel
theorem dX10_laysWays_28 : decode cX10_laysWays 28 = .ok (.goto (-26), 3) := by decide +kernel
theorem dX10_laysWays_31 : decode cX10_laysWays 31 = .ok (.iconst 0, 1) := by decide +kernel
theorem dX10_laysWays_32 : decode cX10_laysWays 32 = .ok (.istore_n 3, 1) := by decide +kernel
theorem dX10_laysWays_33 : decode cX10_laysWays 33 = .ok (.iload_n 3, 1) := by decide +kernel
theorem dX10_laysWays_34 : decode cX10_laysWays 34 = .ok (.bipush 16, 2) := by decide +kernel
theorem dX10_laysWays_36 : decode cX10_laysWays 36 = .ok (.if_icmp .ge 139, 3) := by decide +kernel
theorem dX10_laysWays_39 : decode cX10_laysWays 39 = .ok (.iconst 0, 1) := by decide +kernel
theorem dX10_laysWays_40 : decode cX10_laysWays 40 = .ok (.istore 4, 2) := by decide +kernel
theorem dX10_laysWays_42 : decode cX10_laysWays 42 = .ok (.iload 4, 2) := by decide +kernel
theorem dX10_laysWays_44 : decode cX10_laysWays 44 = .ok (.bipush 16, 2) := by decide +kernel
theorem dX10_laysWays_46 : decode cX10_laysWays 46 = .ok (.if_icmp .ge 123, 3) := by decide +kernel
theorem dX10_laysWays_49 : decode cX10_laysWays 49 = .ok (.iconst 0, 1) := by decide +kernel
theorem dX10_laysWays_50 : decode cX10_laysWays 50 = .ok (.istore 5, 2) := by decide +kernel
theorem dX10_laysWays_52 : decode cX10_laysWays 52 = .ok (.iload 5, 2) := by decide +kernel
theorem dX10_laysWays_54 : decode cX10_laysWays 54 = .ok (.iconst 4, 1) := by decide +kernel
theorem dX10_laysWays_55 : decode cX10_laysWays 55 = .ok (.if_icmp .ge 108, 3) := by decide +kernel
theorem dX10_laysWays_58 : decode cX10_laysWays 58 = .ok (.iload 4, 2) := by decide +kernel
theorem dX10_laysWays_60 : decode cX10_laysWays 60 = .ok (.iload 5, 2) := by decide +kernel
theorem dX10_laysWays_62 : decode cX10_laysWays 62 = .ok (.invokestatic 74, 3) := by decide +kernel
theorem dX10_laysWays_65 : decode cX10_laysWays 65 = .ok (.istore 6, 2) := by decide +kernel
theorem dX10_laysWays_67 : decode cX10_laysWays 67 = .ok (.iload 6, 2) := by decide +kernel
theorem dX10_laysWays_69 : decode cX10_laysWays 69 = .ok (.iconst (-1), 1) := by decide +kernel
theorem dX10_laysWays_70 : decode cX10_laysWays 70 = .ok (.if_icmp .eq 21, 3) := by decide +kernel
theorem dX10_laysWays_73 : decode cX10_laysWays 73 = .ok (.aload_n 0, 1) := by decide +kernel
theorem dX10_laysWays_74 : decode cX10_laysWays 74 = .ok (.iload 4, 2) := by decide +kernel
theorem dX10_laysWays_76 : decode cX10_laysWays 76 = .ok (.iload 6, 2) := by decide +kernel
theorem dX10_laysWays_78 : decode cX10_laysWays 78 = .ok (.invokestatic 77, 3) := by decide +kernel
theorem dX10_laysWays_81 : decode cX10_laysWays 81 = .ok (.invokevirtual 80, 3) := by decide +kernel
theorem dX10_laysWays_84 : decode cX10_laysWays 84 = .ok (.ifCond .eq 7, 3) := by decide +kernel
theorem dX10_laysWays_87 : decode cX10_laysWays 87 = .ok (.iconst 1, 1) := by decide +kernel
theorem dX10_laysWays_88 : decode cX10_laysWays 88 = .ok (.goto 4, 3) := by decide +kernel
theorem dX10_laysWays_91 : decode cX10_laysWays 91 = .ok (.iconst 0, 1) := by decide +kernel
theorem dX10_laysWays_92 : decode cX10_laysWays 92 = .ok (.istore 7, 2) := by decide +kernel
theorem dX10_laysWays_94 : decode cX10_laysWays 94 = .ok (.iload_n 2, 1) := by decide +kernel
theorem dX10_laysWays_95 : decode cX10_laysWays 95 = .ok (.ifCond .eq 16, 3) := by decide +kernel
theorem dX10_laysWays_98 : decode cX10_laysWays 98 = .ok (.iload 7, 2) := by decide +kernel
theorem dX10_laysWays_100 : decode cX10_laysWays 100 = .ok (.ifCond .eq 7, 3) := by decide +kernel
theorem dX10_laysWays_103 : decode cX10_laysWays 103 = .ok (.iconst 0, 1) := by decide +kernel
theorem dX10_laysWays_104 : decode cX10_laysWays 104 = .ok (.goto 18, 3) := by decide +kernel
theorem dX10_laysWays_107 : decode cX10_laysWays 107 = .ok (.iconst 1, 1) := by decide +kernel
theorem dX10_laysWays_108 : decode cX10_laysWays 108 = .ok (.goto 14, 3) := by decide +kernel
theorem dX10_laysWays_111 : decode cX10_laysWays 111 = .ok (.iload 7, 2) := by decide +kernel
theorem dX10_laysWays_113 : decode cX10_laysWays 113 = .ok (.ifCond .eq 7, 3) := by decide +kernel
theorem dX10_laysWays_116 : decode cX10_laysWays 116 = .ok (.iconst 1, 1) := by decide +kernel
theorem dX10_laysWays_117 : decode cX10_laysWays 117 = .ok (.goto 5, 3) := by decide +kernel
theorem dX10_laysWays_120 : decode cX10_laysWays 120 = .ok (.bipush 99, 2) := by decide +kernel
theorem dX10_laysWays_122 : decode cX10_laysWays 122 = .ok (.istore 8, 2) := by decide +kernel
theorem dX10_laysWays_124 : decode cX10_laysWays 124 = .ok (.iload 6, 2) := by decide +kernel
theorem dX10_laysWays_126 : decode cX10_laysWays 126 = .ok (.iconst (-1), 1) := by decide +kernel
theorem dX10_laysWays_127 : decode cX10_laysWays 127 = .ok (.if_icmp .eq 30, 3) := by decide +kernel
theorem dX10_laysWays_130 : decode cX10_laysWays 130 = .ok (.aload_n 0, 1) := by decide +kernel
theorem dX10_laysWays_131 : decode cX10_laysWays 131 = .ok (.getfield 29, 3) := by decide +kernel
theorem dX10_laysWays_134 : decode cX10_laysWays 134 = .ok (.iload 6, 2) := by decide +kernel
theorem dX10_laysWays_136 : decode cX10_laysWays 136 = .ok (.aload_n 0, 1) := by decide +kernel
theorem dX10_laysWays_137 : decode cX10_laysWays 137 = .ok (.getfield 29, 3) := by decide +kernel
theorem dX10_laysWays_140 : decode cX10_laysWays 140 = .ok (.iload 6, 2) := by decide +kernel
theorem dX10_laysWays_142 : decode cX10_laysWays 142 = .ok (.iaload, 1) := by decide +kernel
theorem dX10_laysWays_143 : decode cX10_laysWays 143 = .ok (.aload_n 0, 1) := by decide +kernel
theorem dX10_laysWays_144 : decode cX10_laysWays 144 = .ok (.getfield 29, 3) := by decide +kernel
theorem dX10_laysWays_147 : decode cX10_laysWays 147 = .ok (.iload 4, 2) := by decide +kernel
theorem dX10_laysWays_149 : decode cX10_laysWays 149 = .ok (.iaload, 1) := by decide +kernel
theorem dX10_laysWays_150 : decode cX10_laysWays 150 = .ok (.iload 8, 2) := by decide +kernel
theorem dX10_laysWays_152 : decode cX10_laysWays 152 = .ok (.iadd, 1) := by decide +kernel
theorem dX10_laysWays_153 : decode cX10_laysWays 153 = .ok (.invokestatic 65, 3) := by decide +kernel
theorem dX10_laysWays_156 : decode cX10_laysWays 156 = .ok (.iastore, 1) := by decide +kernel
theorem dX10_laysWays_157 : decode cX10_laysWays 157 = .ok (.iinc 5 1, 3) := by decide +kernel
theorem dX10_laysWays_160 : decode cX10_laysWays 160 = .ok (.goto (-108), 3) := by decide +kernel
theorem dX10_laysWays_163 : decode cX10_laysWays 163 = .ok (.iinc 4 1, 3) := by decide +kernel
theorem dX10_laysWays_166 : decode cX10_laysWays 166 = .ok (.goto (-124), 3) := by decide +kernel
theorem dX10_laysWays_169 : decode cX10_laysWays 169 = .ok (.iinc 3 1, 3) := by decide +kernel
theorem dX10_laysWays_172 : decode cX10_laysWays 172 = .ok (.goto (-139), 3) := by decide +kernel
theorem dX10_laysWays_175 : decode cX10_laysWays 175 = .ok (.return_, 1) := by decide +kernel
set_option maxRecDepth 20000 in
theorem ggX10_hoursOf_X10_laysWays : GoodIn wsX10_hoursOf wsX10_laysWays := goodIn_ca (goodIn_r _ [6, 1, 7, 8, 9, 10, 11, 12, 5, 13, 14, 15, 16, 17, 18, 19, 20, 21, 22, 23, 24, 25, 26, 27, 28, 29, 30, 31, 32, 33, 34, 35, 36, 37, 38, 39, 40, 41, 42, 43, 44, 45, 46, 47, 48, 49] (by decide +kernel) (by decide +kernel)) (goodIn_sub (fun _ h => List.mem_cons_of_mem _ (List.mem_append_right _ h)) (by decide +kernel))
set_option maxRecDepth 20000 in
theorem gX10_hoursOf_X10_laysWays : GoodIn wsX10_hoursOf (wsV RX10 84 RX10 yX10_laysWays wsX10_laysWays) := goodIn_app (goodIn_of _ (by decide +kernel)) ggX10_hoursOf_X10_laysWays
theorem dX10_hoursOf_0 : decode cX10_hoursOf 0 = .ok (.aload_n 0, 1) := by decide +kernel
theorem dX10_hoursOf_1 : decode cX10_hoursOf 1 = .ok (.iload_n 1, 1) := by decide +kernel
theorem dX10_hoursOf_2 : decode cX10_hoursOf 2 = .ok (.iconst 0, 1) := by decide +kernel
theorem dX10_hoursOf_3 : decode cX10_hoursOf 3 = .ok (.invokevirtual 84, 3) := by decide +kernel
theorem dX10_hoursOf_6 : decode cX10_hoursOf 6 = .ok (.aload_n 0, 1) := by decide +kernel
theorem dX10_hoursOf_7 : decode cX10_hoursOf 7 = .ok (.getfield 29, 3) := by decide +kernel
theorem dX10_hoursOf_10 : decode cX10_hoursOf 10 = .ok (.iload_n 2, 1) := by decide +kernel
theorem dX10_hoursOf_11 : decode cX10_hoursOf 11 = .ok (.iaload, 1) := by decide +kernel
theorem dX10_hoursOf_12 : decode cX10_hoursOf 12 = .ok (.bipush 99, 2) := by decide +kernel
theorem dX10_hoursOf_14 : decode cX10_hoursOf 14 = .ok (.if_icmp .lt 7, 3) := by decide +kernel
theorem dX10_hoursOf_17 : decode cX10_hoursOf 17 = .ok (.iconst (-1), 1) := by decide +kernel
theorem dX10_hoursOf_18 : decode cX10_hoursOf 18 = .ok (.goto 9, 3) := by decide +kernel
theorem dX10_hoursOf_21 : decode cX10_hoursOf 21 = .ok (.aload_n 0, 1) := by decide +kernel
theorem dX10_hoursOf_22 : decode cX10_hoursOf 22 = .ok (.getfield 29, 3) := by decide +kernel
theorem dX10_hoursOf_25 : decode cX10_hoursOf 25 = .ok (.iload_n 2, 1) := by decide +kernel
theorem dX10_hoursOf_26 : decode cX10_hoursOf 26 = .ok (.iaload, 1) := by decide +kernel
theorem dX10_hoursOf_27 : decode cX10_hoursOf 27 = .ok (.ireturn, 1) := by decide +kernel
set_option maxRecDepth 20000 in
theorem ggX10_reachedFrom_X10_laysWays : GoodIn wsX10_reachedFrom wsX10_laysWays := goodIn_ca (goodIn_r _ [6, 1, 7, 8, 9, 10, 11, 12, 5, 13, 14, 15, 16, 17, 18, 19, 20, 21, 22, 23, 24, 25, 26, 27, 28, 29, 30, 31, 32, 33, 34, 35, 36, 37, 38, 39, 40, 41, 42, 43, 44, 45, 46, 47, 48, 49] (by decide +kernel) (by decide +kernel)) (goodIn_sub (fun _ h => List.mem_cons_of_mem _ (List.mem_append_right _ h)) (by decide +kernel))
set_option maxRecDepth 20000 in
theorem gX10_reachedFrom_X10_laysWays : GoodIn wsX10_reachedFrom (wsV RX10 84 RX10 yX10_laysWays wsX10_laysWays) := goodIn_app (goodIn_of _ (by decide +kernel)) ggX10_reachedFrom_X10_laysWays
theorem dX10_reachedFrom_0 : decode cX10_reachedFrom 0 = .ok (.aload_n 0, 1) := by decide +kernel
theorem dX10_reachedFrom_1 : decode cX10_reachedFrom 1 = .ok (.iload_n 1, 1) := by decide +kernel
theorem dX10_reachedFrom_2 : decode cX10_reachedFrom 2 = .ok (.iconst 0, 1) := by decide +kernel
theorem dX10_reachedFrom_3 : decode cX10_reachedFrom 3 = .ok (.invokevirtual 84, 3) := by decide +kernel
theorem dX10_reachedFrom_6 : decode cX10_reachedFrom 6 = .ok (.iconst 0, 1) := by decide +kernel
theorem dX10_reachedFrom_7 : decode cX10_reachedFrom 7 = .ok (.istore_n 2, 1) := by decide +kernel
theorem dX10_reachedFrom_8 : decode cX10_reachedFrom 8 = .ok (.iconst 0, 1) := by decide +kernel
theorem dX10_reachedFrom_9 : decode cX10_reachedFrom 9 = .ok (.istore_n 3, 1) := by decide +kernel
theorem dX10_reachedFrom_10 : decode cX10_reachedFrom 10 = .ok (.iload_n 3, 1) := by decide +kernel
theorem dX10_reachedFrom_11 : decode cX10_reachedFrom 11 = .ok (.bipush 16, 2) := by decide +kernel
theorem dX10_reachedFrom_13 : decode cX10_reachedFrom 13 = .ok (.if_icmp .ge 30, 3) := by decide +kernel
theorem dX10_reachedFrom_16 : decode cX10_reachedFrom 16 = .ok (.iload_n 2, 1) := by decide +kernel
theorem dX10_reachedFrom_17 : decode cX10_reachedFrom 17 = .ok (.aload_n 0, 1) := by decide +kernel
theorem dX10_reachedFrom_18 : decode cX10_reachedFrom 18 = .ok (.getfield 29, 3) := by decide +kernel
theorem dX10_reachedFrom_21 : decode cX10_reachedFrom 21 = .ok (.iload_n 3, 1) := by decide +kernel
theorem dX10_reachedFrom_22 : decode cX10_reachedFrom 22 = .ok (.iaload, 1) := by decide +kernel
theorem dX10_reachedFrom_23 : decode cX10_reachedFrom 23 = .ok (.bipush 99, 2) := by decide +kernel
theorem dX10_reachedFrom_25 : decode cX10_reachedFrom 25 = .ok (.if_icmp .ge 9, 3) := by decide +kernel
theorem dX10_reachedFrom_28 : decode cX10_reachedFrom 28 = .ok (.iconst 1, 1) := by decide +kernel
theorem dX10_reachedFrom_29 : decode cX10_reachedFrom 29 = .ok (.iload_n 3, 1) := by decide +kernel
theorem dX10_reachedFrom_30 : decode cX10_reachedFrom 30 = .ok (.ishl, 1) := by decide +kernel
theorem dX10_reachedFrom_31 : decode cX10_reachedFrom 31 = .ok (.goto 4, 3) := by decide +kernel
theorem dX10_reachedFrom_34 : decode cX10_reachedFrom 34 = .ok (.iconst 0, 1) := by decide +kernel
theorem dX10_reachedFrom_35 : decode cX10_reachedFrom 35 = .ok (.ior, 1) := by decide +kernel
theorem dX10_reachedFrom_36 : decode cX10_reachedFrom 36 = .ok (.istore_n 2, 1) := by decide +kernel
theorem dX10_reachedFrom_37 : decode cX10_reachedFrom 37 = .ok (.iinc 3 1, 3) := by decide +kernel
theorem dX10_reachedFrom_40 : decode cX10_reachedFrom 40 = .ok (.goto (-30), 3) := by decide +kernel
theorem dX10_reachedFrom_43 : decode cX10_reachedFrom 43 = .ok (.iload_n 2, 1) := by decide +kernel
theorem dX10_reachedFrom_44 : decode cX10_reachedFrom 44 = .ok (.ireturn, 1) := by decide +kernel
theorem dX10_ones_0 : decode cX10_ones 0 = .ok (.iconst 0, 1) := by decide +kernel
theorem dX10_ones_1 : decode cX10_ones 1 = .ok (.istore_n 1, 1) := by decide +kernel
theorem dX10_ones_2 : decode cX10_ones 2 = .ok (.iconst 0, 1) := by decide +kernel
theorem dX10_ones_3 : decode cX10_ones 3 = .ok (.istore_n 2, 1) := by decide +kernel
theorem dX10_ones_4 : decode cX10_ones 4 = .ok (.iload_n 2, 1) := by decide +kernel
theorem dX10_ones_5 : decode cX10_ones 5 = .ok (.bipush 16, 2) := by decide +kernel
theorem dX10_ones_7 : decode cX10_ones 7 = .ok (.if_icmp .ge 17, 3) := by decide +kernel
theorem dX10_ones_10 : decode cX10_ones 10 = .ok (.iload_n 1, 1) := by decide +kernel
theorem dX10_ones_11 : decode cX10_ones 11 = .ok (.iload_n 0, 1) := by decide +kernel
theorem dX10_ones_12 : decode cX10_ones 12 = .ok (.iload_n 2, 1) := by decide +kernel
theorem dX10_ones_13 : decode cX10_ones 13 = .ok (.ishr, 1) := by decide +kernel
theorem dX10_ones_14 : decode cX10_ones 14 = .ok (.iconst 1, 1) := by decide +kernel
theorem dX10_ones_15 : decode cX10_ones 15 = .ok (.iand, 1) := by decide +kernel
theorem dX10_ones_16 : decode cX10_ones 16 = .ok (.iadd, 1) := by decide +kernel
theorem dX10_ones_17 : decode cX10_ones 17 = .ok (.istore_n 1, 1) := by decide +kernel
theorem dX10_ones_18 : decode cX10_ones 18 = .ok (.iinc 2 1, 3) := by decide +kernel
theorem dX10_ones_21 : decode cX10_ones 21 = .ok (.goto (-17), 3) := by decide +kernel
theorem dX10_ones_24 : decode cX10_ones 24 = .ok (.iload_n 1, 1) := by decide +kernel
theorem dX10_ones_25 : decode cX10_ones 25 = .ok (.ireturn, 1) := by decide +kernel
set_option maxRecDepth 20000 in
theorem ggX10_gaps_X10_isGapAt : GoodIn wsX10_gaps wsX10_isGapAt := goodIn_ca (goodIn_r _ [5, 6, 7, 8, 9, 10, 11, 12, 13, 14, 15, 16, 17, 18, 19, 20, 21, 22, 23, 24, 25, 26, 27] (by decide +kernel) (by decide +kernel)) (goodIn_sub (fun _ h => List.mem_cons_of_mem _ (List.mem_append_right _ h)) (by decide +kernel))
set_option maxRecDepth 20000 in
theorem gX10_gaps_X10_isGapAt : GoodIn wsX10_gaps (wsV RX10 80 RX10 yX10_isGapAt wsX10_isGapAt) := goodIn_app (goodIn_of _ (by decide +kernel)) ggX10_gaps_X10_isGapAt
theorem dX10_gaps_0 : decode cX10_gaps 0 = .ok (.iconst 0, 1) := by decide +kernel
theorem dX10_gaps_1 : decode cX10_gaps 1 = .ok (.istore_n 1, 1) := by decide +kernel
theorem dX10_gaps_2 : decode cX10_gaps 2 = .ok (.iconst 0, 1) := by decide +kernel
theorem dX10_gaps_3 : decode cX10_gaps 3 = .ok (.istore_n 2, 1) := by decide +kernel
theorem dX10_gaps_4 : decode cX10_gaps 4 = .ok (.iload_n 2, 1) := by decide +kernel
theorem dX10_gaps_5 : decode cX10_gaps 5 = .ok (.bipush 24, 2) := by decide +kernel
theorem dX10_gaps_7 : decode cX10_gaps 7 = .ok (.if_icmp .ge 28, 3) := by decide +kernel
theorem dX10_gaps_10 : decode cX10_gaps 10 = .ok (.iload_n 1, 1) := by decide +kernel
theorem dX10_gaps_11 : decode cX10_gaps 11 = .ok (.aload_n 0, 1) := by decide +kernel
theorem dX10_gaps_12 : decode cX10_gaps 12 = .ok (.bipush 6, 2) := by decide +kernel
theorem dX10_gaps_14 : decode cX10_gaps 14 = .ok (.iload_n 2, 1) := by decide +kernel
theorem dX10_gaps_15 : decode cX10_gaps 15 = .ok (.iadd, 1) := by decide +kernel
theorem dX10_gaps_16 : decode cX10_gaps 16 = .ok (.invokevirtual 80, 3) := by decide +kernel
theorem dX10_gaps_19 : decode cX10_gaps 19 = .ok (.ifCond .eq 7, 3) := by decide +kernel
theorem dX10_gaps_22 : decode cX10_gaps 22 = .ok (.iconst 1, 1) := by decide +kernel
theorem dX10_gaps_23 : decode cX10_gaps 23 = .ok (.goto 4, 3) := by decide +kernel
theorem dX10_gaps_26 : decode cX10_gaps 26 = .ok (.iconst 0, 1) := by decide +kernel
theorem dX10_gaps_27 : decode cX10_gaps 27 = .ok (.iadd, 1) := by decide +kernel
theorem dX10_gaps_28 : decode cX10_gaps 28 = .ok (.istore_n 1, 1) := by decide +kernel
theorem dX10_gaps_29 : decode cX10_gaps 29 = .ok (.iinc 2 1, 3) := by decide +kernel
theorem dX10_gaps_32 : decode cX10_gaps 32 = .ok (.goto (-28), 3) := by decide +kernel
theorem dX10_gaps_35 : decode cX10_gaps 35 = .ok (.iload_n 1, 1) := by decide +kernel
theorem dX10_gaps_36 : decode cX10_gaps 36 = .ok (.ireturn, 1) := by decide +kernel
set_option maxRecDepth 20000 in
theorem ggX10_areNeighbours_X10_isCell : GoodIn wsX10_areNeighbours wsX10_isCell := goodIn_r _ [8, 9, 10, 11, 7, 12] (by decide +kernel) (by decide +kernel)
set_option maxRecDepth 20000 in
theorem gX10_areNeighbours_X10_isCell : GoodIn wsX10_areNeighbours (va_wsS RX10 88 yX10_isCell wsX10_isCell) := goodIn_app (goodIn_of _ (by decide +kernel)) ggX10_areNeighbours_X10_isCell
set_option maxRecDepth 20000 in
theorem ggX10_areNeighbours_X10_refuse : GoodIn wsX10_areNeighbours wsX10_refuse := goodIn_r _ [16, 17, 18, 19, 20, 21, 22, 7, 23, 24, 31, 32, 33, 34, 35, 36, 37, 38, 39, 40, 41, 42, 43, 44, 45, 46, 47, 48, 49, 50, 51] (by decide +kernel) (by decide +kernel)
set_option maxRecDepth 20000 in
theorem gX10_areNeighbours_X10_refuse : GoodIn wsX10_areNeighbours (wsV RX10 91 RX10 yX10_refuse wsX10_refuse) := goodIn_app (goodIn_of _ (by decide +kernel)) ggX10_areNeighbours_X10_refuse
set_option maxRecDepth 20000 in
theorem ggX10_areNeighbours_X10_hedgeAt : GoodIn wsX10_areNeighbours wsX10_hedgeAt := goodIn_r _ [27, 28, 29, 3, 30, 1, 2, 4] (by decide +kernel) (by decide +kernel)
set_option maxRecDepth 20000 in
theorem gX10_areNeighbours_X10_hedgeAt : GoodIn wsX10_areNeighbours (va_wsS RX10 77 yX10_hedgeAt wsX10_hedgeAt) := goodIn_app (goodIn_of _ (by decide +kernel)) ggX10_areNeighbours_X10_hedgeAt
theorem dX10_areNeighbours_0 : decode cX10_areNeighbours 0 = .ok (.iload_n 1, 1) := by decide +kernel
theorem dX10_areNeighbours_1 : decode cX10_areNeighbours 1 = .ok (.invokestatic 88, 3) := by decide +kernel
theorem dX10_areNeighbours_4 : decode cX10_areNeighbours 4 = .ok (.ifCond .eq 10, 3) := by decide +kernel
theorem dX10_areNeighbours_7 : decode cX10_areNeighbours 7 = .ok (.iload_n 2, 1) := by decide +kernel
theorem dX10_areNeighbours_8 : decode cX10_areNeighbours 8 = .ok (.invokestatic 88, 3) := by decide +kernel
theorem dX10_areNeighbours_11 : decode cX10_areNeighbours 11 = .ok (.ifCond .ne 12, 3) := by decide +kernel
theorem dX10_areNeighbours_14 : decode cX10_areNeighbours 14 = .ok (.aload_n 0, 1) := by decide +kernel
theorem dX10_areNeighbours_15 : decode cX10_areNeighbours 15 = .ok (.iconst 1, 1) := by decide +kernel
theorem dX10_areNeighbours_16 : decode cX10_areNeighbours 16 = .ok (.iconst 0, 1) := by decide +kernel
theorem dX10_areNeighbours_17 : decode cX10_areNeighbours 17 = .ok (.invokevirtual 91, 3) := by decide +kernel
theorem dX10_areNeighbours_20 : decode cX10_areNeighbours 20 = .ok (.pop, 1) := by decide +kernel
theorem dX10_areNeighbours_21 : decode cX10_areNeighbours 21 = .ok (.iconst 0, 1) := by decide +kernel
theorem dX10_areNeighbours_22 : decode cX10_areNeighbours 22 = .ok (.ireturn, 1) := by decide +kernel
theorem dX10_areNeighbours_23 : decode cX10_areNeighbours 23 = .ok (.iload_n 1, 1) := by decide +kernel
theorem dX10_areNeighbours_24 : decode cX10_areNeighbours 24 = .ok (.iload_n 2, 1) := by decide +kernel
theorem dX10_areNeighbours_25 : decode cX10_areNeighbours 25 = .ok (.invokestatic 77, 3) := by decide +kernel
theorem dX10_areNeighbours_28 : decode cX10_areNeighbours 28 = .ok (.iconst (-1), 1) := by decide +kernel
theorem dX10_areNeighbours_29 : decode cX10_areNeighbours 29 = .ok (.if_icmp .ne 16, 3) := by decide +kernel
theorem dX10_areNeighbours_32 : decode cX10_areNeighbours 32 = .ok (.aload_n 0, 1) := by decide +kernel
theorem dX10_areNeighbours_33 : decode cX10_areNeighbours 33 = .ok (.iconst 2, 1) := by decide +kernel
theorem dX10_areNeighbours_34 : decode cX10_areNeighbours 34 = .ok (.iload_n 1, 1) := by decide +kernel
theorem dX10_areNeighbours_35 : decode cX10_areNeighbours 35 = .ok (.iload_n 2, 1) := by decide +kernel
theorem dX10_areNeighbours_36 : decode cX10_areNeighbours 36 = .ok (.invokestatic 71, 3) := by decide +kernel
theorem dX10_areNeighbours_39 : decode cX10_areNeighbours 39 = .ok (.invokevirtual 91, 3) := by decide +kernel
theorem dX10_areNeighbours_42 : decode cX10_areNeighbours 42 = .ok (.pop, 1) := by decide +kernel
theorem dX10_areNeighbours_43 : decode cX10_areNeighbours 43 = .ok (.iconst 0, 1) := by decide +kernel
theorem dX10_areNeighbours_44 : decode cX10_areNeighbours 44 = .ok (.ireturn, 1) := by decide +kernel
theorem dX10_areNeighbours_45 : decode cX10_areNeighbours 45 = .ok (.iconst 1, 1) := by decide +kernel
theorem dX10_areNeighbours_46 : decode cX10_areNeighbours 46 = .ok (.ireturn, 1) := by decide +kernel
set_option maxRecDepth 20000 in
theorem ggX10_hedgeIt_X10_in : GoodIn wsX10_hedgeIt wsX10_in := goodIn_r _ [6] (by decide +kernel) (by decide +kernel)
set_option maxRecDepth 20000 in
theorem gX10_hedgeIt_X10_in : GoodIn wsX10_hedgeIt (va_wsS RX10 59 yX10_in wsX10_in) := goodIn_app (goodIn_of _ (by decide +kernel)) ggX10_hedgeIt_X10_in
set_option maxRecDepth 20000 in
theorem ggX10_hedgeIt_X10_refuse : GoodIn wsX10_hedgeIt wsX10_refuse := goodIn_r _ [10, 11, 12, 13, 14, 15, 16, 5, 17, 18, 37, 38, 39, 40, 41, 42, 43, 44, 45, 46, 47, 48, 49, 50, 51, 52, 53, 54, 55, 56, 57] (by decide +kernel) (by decide +kernel)
set_option maxRecDepth 20000 in
theorem gX10_hedgeIt_X10_refuse : GoodIn wsX10_hedgeIt (wsV RX10 91 RX10 yX10_refuse wsX10_refuse) := goodIn_app (goodIn_of _ (by decide +kernel)) ggX10_hedgeIt_X10_refuse
set_option maxRecDepth 20000 in
theorem ggX10_hedgeIt_X10_areNeighbours : GoodIn wsX10_hedgeIt wsX10_areNeighbours := goodIn_r _ [22, 23, 24, 25, 26, 27, 28, 5, 29, 30, 3, 4, 6, 7, 8, 9, 10, 11, 12, 13, 14, 15, 16, 17, 18, 31, 32, 33, 34, 35, 36, 37, 38, 39, 40, 41, 42, 43, 44, 45, 46, 47, 48, 49, 50, 51, 52, 53, 54, 55, 56, 57] (by decide +kernel) (by decide +kernel)
set_option maxRecDepth 20000 in
theorem gX10_hedgeIt_X10_areNeighbours : GoodIn wsX10_hedgeIt (wsV RX10 96 RX10 yX10_areNeighbours wsX10_areNeighbours) := goodIn_app (goodIn_of _ (by decide +kernel)) ggX10_hedgeIt_X10_areNeighbours
set_option maxRecDepth 20000 in
theorem ggX10_hedgeIt_X10_hedgeAt : GoodIn wsX10_hedgeIt wsX10_hedgeAt := goodIn_r _ [33, 34, 35, 25, 36, 23, 24, 26] (by decide +kernel) (by decide +kernel)
set_option maxRecDepth 20000 in
theorem gX10_hedgeIt_X10_hedgeAt : GoodIn wsX10_hedgeIt (va_wsS RX10 77 yX10_hedgeAt wsX10_hedgeAt) := goodIn_app (goodIn_of _ (by decide +kernel)) ggX10_hedgeIt_X10_hedgeAt
theorem dX10_hedgeIt_0 : decode cX10_hedgeIt 0 = .ok (.iload_n 3, 1) := by decide +kernel
theorem dX10_hedgeIt_1 : decode cX10_hedgeIt 1 = .ok (.i2l, 1) := by decide +kernel
theorem dX10_hedgeIt_2 : decode cX10_hedgeIt 2 = .ok (.lconst 0, 1) := by decide +kernel
theorem dX10_hedgeIt_3 : decode cX10_hedgeIt 3 = .ok (.ldc2_w 94, 3) := by decide +kernel
theorem dX10_hedgeIt_6 : decode cX10_hedgeIt 6 = .ok (.invokestatic 59, 3) := by decide +kernel
theorem dX10_hedgeIt_9 : decode cX10_hedgeIt 9 = .ok (.ifCond .ne 10, 3) := by decide +kernel
theorem dX10_hedgeIt_12 : decode cX10_hedgeIt 12 = .ok (.aload_n 0, 1) := by decide +kernel
theorem dX10_hedgeIt_13 : decode cX10_hedgeIt 13 = .ok (.iconst 1, 1) := by decide +kernel
theorem dX10_hedgeIt_14 : decode cX10_hedgeIt 14 = .ok (.iconst 0, 1) := by decide +kernel
theorem dX10_hedgeIt_15 : decode cX10_hedgeIt 15 = .ok (.invokevirtual 91, 3) := by decide +kernel
theorem dX10_hedgeIt_18 : decode cX10_hedgeIt 18 = .ok (.ireturn, 1) := by decide +kernel
theorem dX10_hedgeIt_19 : decode cX10_hedgeIt 19 = .ok (.aload_n 0, 1) := by decide +kernel
theorem dX10_hedgeIt_20 : decode cX10_hedgeIt 20 = .ok (.iload_n 1, 1) := by decide +kernel
theorem dX10_hedgeIt_21 : decode cX10_hedgeIt 21 = .ok (.iload_n 2, 1) := by decide +kernel
theorem dX10_hedgeIt_22 : decode cX10_hedgeIt 22 = .ok (.invokevirtual 96, 3) := by decide +kernel
theorem dX10_hedgeIt_25 : decode cX10_hedgeIt 25 = .ok (.ifCond .ne 5, 3) := by decide +kernel
theorem dX10_hedgeIt_28 : decode cX10_hedgeIt 28 = .ok (.iconst (-1), 1) := by decide +kernel
theorem dX10_hedgeIt_29 : decode cX10_hedgeIt 29 = .ok (.ireturn, 1) := by decide +kernel
theorem dX10_hedgeIt_30 : decode cX10_hedgeIt 30 = .ok (.iload_n 1, 1) := by decide +kernel
theorem dX10_hedgeIt_31 : decode cX10_hedgeIt 31 = .ok (.iload_n 2, 1) := by decide +kernel
theorem dX10_hedgeIt_32 : decode cX10_hedgeIt 32 = .ok (.invokestatic 77, 3) := by decide +kernel
theorem dX10_hedgeIt_35 : decode cX10_hedgeIt 35 = .ok (.istore 4, 2) := by decide +kernel
theorem dX10_hedgeIt_37 : decode cX10_hedgeIt 37 = .ok (.aload_n 0, 1) := by decide +kernel
theorem dX10_hedgeIt_38 : decode cX10_hedgeIt 38 = .ok (.getfield 9, 3) := by decide +kernel
theorem dX10_hedgeIt_41 : decode cX10_hedgeIt 41 = .ok (.iload 4, 2) := by decide +kernel
theorem dX10_hedgeIt_43 : decode cX10_hedgeIt 43 = .ok (.iaload, 1) := by decide +kernel
theorem dX10_hedgeIt_44 : decode cX10_hedgeIt 44 = .ok (.istore 5, 2) := by decide +kernel
theorem dX10_hedgeIt_46 : decode cX10_hedgeIt 46 = .ok (.iload 5, 2) := by decide +kernel
theorem dX10_hedgeIt_48 : decode cX10_hedgeIt 48 = .ok (.iload_n 3, 1) := by decide +kernel
theorem dX10_hedgeIt_49 : decode cX10_hedgeIt 49 = .ok (.if_icmp .ne 10, 3) := by decide +kernel
theorem dX10_hedgeIt_52 : decode cX10_hedgeIt 52 = .ok (.aload_n 0, 1) := by decide +kernel
theorem dX10_hedgeIt_53 : decode cX10_hedgeIt 53 = .ok (.iconst 3, 1) := by decide +kernel
theorem dX10_hedgeIt_54 : decode cX10_hedgeIt 54 = .ok (.iload_n 3, 1) := by decide +kernel
theorem dX10_hedgeIt_55 : decode cX10_hedgeIt 55 = .ok (.invokevirtual 91, 3) := by decide +kernel
theorem dX10_hedgeIt_58 : decode cX10_hedgeIt 58 = .ok (.ireturn, 1) := by decide +kernel
theorem dX10_hedgeIt_59 : decode cX10_hedgeIt 59 = .ok (.aload_n 0, 1) := by decide +kernel
theorem dX10_hedgeIt_60 : decode cX10_hedgeIt 60 = .ok (.getfield 9, 3) := by decide +kernel
theorem dX10_hedgeIt_63 : decode cX10_hedgeIt 63 = .ok (.iload 4, 2) := by decide +kernel
theorem dX10_hedgeIt_65 : decode cX10_hedgeIt 65 = .ok (.iload_n 3, 1) := by decide +kernel
theorem dX10_hedgeIt_66 : decode cX10_hedgeIt 66 = .ok (.iastore, 1) := by decide +kernel
theorem dX10_hedgeIt_67 : decode cX10_hedgeIt 67 = .ok (.iload 5, 2) := by decide +kernel
theorem dX10_hedgeIt_69 : decode cX10_hedgeIt 69 = .ok (.ireturn, 1) := by decide +kernel
set_option maxRecDepth 20000 in
theorem ggX10_hedge_X10_starts : GoodIn wsX10_hedge wsX10_starts := goodIn_ca (goodIn_r _ [5, 6, 7, 8, 52, 53, 54, 55, 56, 57, 58, 59, 60, 61, 62, 63, 64, 65, 66, 67, 68, 69, 70, 71, 72] (by decide +kernel) (by decide +kernel)) (goodIn_sub (fun _ h => List.mem_cons_of_mem _ (List.mem_append_right _ h)) (by decide +kernel))
set_option maxRecDepth 20000 in
theorem gX10_hedge_X10_starts : GoodIn wsX10_hedge (wsV RX10 100 RX10 yX10_starts wsX10_starts) := goodIn_app (goodIn_of _ (by decide +kernel)) ggX10_hedge_X10_starts
set_option maxRecDepth 20000 in
theorem ggX10_hedge_X10_hedgeIt : GoodIn wsX10_hedge wsX10_hedgeIt := goodIn_ca (goodIn_r _ [12, 13, 8, 14, 15, 4, 16, 17, 18, 19, 20, 21, 22, 23, 24, 25, 26, 27, 6, 28, 29, 30, 31, 32, 33, 34, 35, 36, 37, 38, 39, 40, 41, 42, 43, 44, 45, 52, 53, 54, 55, 56, 57, 58, 59, 60, 61, 62, 63, 64, 65, 66, 67, 68, 69, 70, 71, 72] (by decide +kernel) (by decide +kernel)) (goodIn_sub (fun _ h => List.mem_cons_of_mem _ (List.mem_append_right _ h)) (by decide +kernel))
set_option maxRecDepth 20000 in
theorem gX10_hedge_X10_hedgeIt : GoodIn wsX10_hedge (wsV RX10 103 RX10 yX10_hedgeIt wsX10_hedgeIt) := goodIn_app (goodIn_of _ (by decide +kernel)) ggX10_hedge_X10_hedgeIt
set_option maxRecDepth 20000 in
theorem ggX10_hedge_X10_changed : GoodIn wsX10_hedge wsX10_changed := goodIn_ca (goodIn_r _ [49, 6, 50, 51, 7, 52, 53, 54, 55, 56, 57, 58, 59, 60, 61, 62, 63, 64, 65, 66, 67, 68, 69, 70, 71, 72] (by decide +kernel) (by decide +kernel)) (goodIn_sub (fun _ h => List.mem_cons_of_mem _ (List.mem_append_right _ h)) (by decide +kernel))
set_option maxRecDepth 20000 in
theorem gX10_hedge_X10_changed : GoodIn wsX10_hedge (wsV RX10 107 RX10 yX10_changed wsX10_changed) := goodIn_app (goodIn_of _ (by decide +kernel)) ggX10_hedge_X10_changed
theorem dX10_hedge_0 : decode cX10_hedge 0 = .ok (.aload_n 0, 1) := by decide +kernel
theorem dX10_hedge_1 : decode cX10_hedge 1 = .ok (.invokevirtual 100, 3) := by decide +kernel
theorem dX10_hedge_4 : decode cX10_hedge 4 = .ok (.aload_n 0, 1) := by decide +kernel
theorem dX10_hedge_5 : decode cX10_hedge 5 = .ok (.aload_n 0, 1) := by decide +kernel
theorem dX10_hedge_6 : decode cX10_hedge 6 = .ok (.iload_n 1, 1) := by decide +kernel
theorem dX10_hedge_7 : decode cX10_hedge 7 = .ok (.iload_n 2, 1) := by decide +kernel
theorem dX10_hedge_8 : decode cX10_hedge 8 = .ok (.iload_n 3, 1) := by decide +kernel
theorem dX10_hedge_9 : decode cX10_hedge 9 = .ok (.invokevirtual 103, 3) := by decide +kernel
theorem dX10_hedge_12 : decode cX10_hedge 12 = .ok (.invokevirtual 107, 3) := by decide +kernel
theorem dX10_hedge_15 : decode cX10_hedge 15 = .ok (.ireturn, 1) := by decide +kernel
set_option maxRecDepth 20000 in
theorem ggX10_summerIt_X10_gaps : GoodIn wsX10_summerIt wsX10_gaps := goodIn_ca (goodIn_r _ [10, 11, 12, 13, 9, 14, 1, 15, 16, 17, 18, 19, 20, 21, 22, 23, 24, 25, 26, 27, 28, 29, 30, 31, 32, 33, 34, 35] (by decide +kernel) (by decide +kernel)) (goodIn_sub (fun _ h => List.mem_cons_of_mem _ (List.mem_append_right _ h)) (by decide +kernel))
set_option maxRecDepth 20000 in
theorem gX10_summerIt_X10_gaps : GoodIn wsX10_summerIt (wsV RX10 110 RX10 yX10_gaps wsX10_gaps) := goodIn_app (goodIn_of _ (by decide +kernel)) ggX10_summerIt_X10_gaps
theorem dX10_summerIt_0 : decode cX10_summerIt 0 = .ok (.aload_n 0, 1) := by decide +kernel
theorem dX10_summerIt_1 : decode cX10_summerIt 1 = .ok (.invokevirtual 110, 3) := by decide +kernel
theorem dX10_summerIt_4 : decode cX10_summerIt 4 = .ok (.istore_n 1, 1) := by decide +kernel
theorem dX10_summerIt_5 : decode cX10_summerIt 5 = .ok (.iconst 0, 1) := by decide +kernel
theorem dX10_summerIt_6 : decode cX10_summerIt 6 = .ok (.istore_n 2, 1) := by decide +kernel
theorem dX10_summerIt_7 : decode cX10_summerIt 7 = .ok (.iload_n 2, 1) := by decide +kernel
theorem dX10_summerIt_8 : decode cX10_summerIt 8 = .ok (.bipush 24, 2) := by decide +kernel
theorem dX10_summerIt_10 : decode cX10_summerIt 10 = .ok (.if_icmp .ge 34, 3) := by decide +kernel
theorem dX10_summerIt_13 : decode cX10_summerIt 13 = .ok (.aload_n 0, 1) := by decide +kernel
theorem dX10_summerIt_14 : decode cX10_summerIt 14 = .ok (.getfield 9, 3) := by decide +kernel
theorem dX10_summerIt_17 : decode cX10_summerIt 17 = .ok (.bipush 6, 2) := by decide +kernel
theorem dX10_summerIt_19 : decode cX10_summerIt 19 = .ok (.iload_n 2, 1) := by decide +kernel
theorem dX10_summerIt_20 : decode cX10_summerIt 20 = .ok (.iadd, 1) := by decide +kernel
theorem dX10_summerIt_21 : decode cX10_summerIt 21 = .ok (.bipush 9, 2) := by decide +kernel
theorem dX10_summerIt_23 : decode cX10_summerIt 23 = .ok (.aload_n 0, 1) := by decide +kernel
theorem dX10_summerIt_24 : decode cX10_summerIt 24 = .ok (.getfield 9, 3) := by decide +kernel
theorem dX10_summerIt_27 : decode cX10_summerIt 27 = .ok (.bipush 6, 2) := by decide +kernel
theorem dX10_summerIt_29 : decode cX10_summerIt 29 = .ok (.iload_n 2, 1) := by decide +kernel
theorem dX10_summerIt_30 : decode cX10_summerIt 30 = .ok (.iadd, 1) := by decide +kernel
theorem dX10_summerIt_31 : decode cX10_summerIt 31 = .ok (.iaload, 1) := by decide +kernel
theorem dX10_summerIt_32 : decode cX10_summerIt 32 = .ok (.iconst 1, 1) := by decide +kernel
theorem dX10_summerIt_33 : decode cX10_summerIt 33 = .ok (.iadd, 1) := by decide +kernel
theorem dX10_summerIt_34 : decode cX10_summerIt 34 = .ok (.invokestatic 65, 3) := by decide +kernel
theorem dX10_summerIt_37 : decode cX10_summerIt 37 = .ok (.iastore, 1) := by decide +kernel
theorem dX10_summerIt_38 : decode cX10_summerIt 38 = .ok (.iinc 2 1, 3) := by decide +kernel
theorem dX10_summerIt_41 : decode cX10_summerIt 41 = .ok (.goto (-34), 3) := by decide +kernel
theorem dX10_summerIt_44 : decode cX10_summerIt 44 = .ok (.aload_n 0, 1) := by decide +kernel
theorem dX10_summerIt_45 : decode cX10_summerIt 45 = .ok (.getfield 9, 3) := by decide +kernel
theorem dX10_summerIt_48 : decode cX10_summerIt 48 = .ok (.iconst 3, 1) := by decide +kernel
theorem dX10_summerIt_49 : decode cX10_summerIt 49 = .ok (.dup2, 1) := by decide +kernel
theorem dX10_summerIt_50 : decode cX10_summerIt 50 = .ok (.iaload, 1) := by decide +kernel
theorem dX10_summerIt_51 : decode cX10_summerIt 51 = .ok (.iconst 1, 1) := by decide +kernel
theorem dX10_summerIt_52 : decode cX10_summerIt 52 = .ok (.iadd, 1) := by decide +kernel
theorem dX10_summerIt_53 : decode cX10_summerIt 53 = .ok (.iastore, 1) := by decide +kernel
theorem dX10_summerIt_54 : decode cX10_summerIt 54 = .ok (.iload_n 1, 1) := by decide +kernel
theorem dX10_summerIt_55 : decode cX10_summerIt 55 = .ok (.aload_n 0, 1) := by decide +kernel
theorem dX10_summerIt_56 : decode cX10_summerIt 56 = .ok (.invokevirtual 110, 3) := by decide +kernel
theorem dX10_summerIt_59 : decode cX10_summerIt 59 = .ok (.isub, 1) := by decide +kernel
theorem dX10_summerIt_60 : decode cX10_summerIt 60 = .ok (.ireturn, 1) := by decide +kernel
set_option maxRecDepth 20000 in
theorem ggX10_summer_X10_starts : GoodIn wsX10_summer wsX10_starts := goodIn_ca (goodIn_r _ [5, 6, 7, 8, 31, 32, 33, 34, 35, 36, 37, 38, 39, 40, 41, 42, 43, 44, 45, 46, 47, 48, 49, 50, 51] (by decide +kernel) (by decide +kernel)) (goodIn_sub (fun _ h => List.mem_cons_of_mem _ (List.mem_append_right _ h)) (by decide +kernel))
set_option maxRecDepth 20000 in
theorem gX10_summer_X10_starts : GoodIn wsX10_summer (wsV RX10 100 RX10 yX10_starts wsX10_starts) := goodIn_app (goodIn_of _ (by decide +kernel)) ggX10_summer_X10_starts
set_option maxRecDepth 20000 in
theorem ggX10_summer_X10_summerIt : GoodIn wsX10_summer wsX10_summerIt := goodIn_ca (goodIn_r _ [12, 8, 13, 14, 15, 16, 17, 18, 19, 4, 20, 21, 22, 23, 24, 31, 32, 33, 34, 35, 36, 37, 38, 39, 40, 41, 42, 43, 44, 45, 46, 47, 48, 49, 50, 51] (by decide +kernel) (by decide +kernel)) (goodIn_sub (fun _ h => List.mem_cons_of_mem _ (List.mem_append_right _ h)) (by decide +kernel))
set_option maxRecDepth 20000 in
theorem gX10_summer_X10_summerIt : GoodIn wsX10_summer (wsV RX10 114 RX10 yX10_summerIt wsX10_summerIt) := goodIn_app (goodIn_of _ (by decide +kernel)) ggX10_summer_X10_summerIt
set_option maxRecDepth 20000 in
theorem ggX10_summer_X10_changed : GoodIn wsX10_summer wsX10_changed := goodIn_ca (goodIn_r _ [28, 6, 29, 30, 7, 31, 32, 33, 34, 35, 36, 37, 38, 39, 40, 41, 42, 43, 44, 45, 46, 47, 48, 49, 50, 51] (by decide +kernel) (by decide +kernel)) (goodIn_sub (fun _ h => List.mem_cons_of_mem _ (List.mem_append_right _ h)) (by decide +kernel))
set_option maxRecDepth 20000 in
theorem gX10_summer_X10_changed : GoodIn wsX10_summer (wsV RX10 107 RX10 yX10_changed wsX10_changed) := goodIn_app (goodIn_of _ (by decide +kernel)) ggX10_summer_X10_changed
theorem dX10_summer_0 : decode cX10_summer 0 = .ok (.aload_n 0, 1) := by decide +kernel
theorem dX10_summer_1 : decode cX10_summer 1 = .ok (.invokevirtual 100, 3) := by decide +kernel
theorem dX10_summer_4 : decode cX10_summer 4 = .ok (.aload_n 0, 1) := by decide +kernel
theorem dX10_summer_5 : decode cX10_summer 5 = .ok (.aload_n 0, 1) := by decide +kernel
theorem dX10_summer_6 : decode cX10_summer 6 = .ok (.invokevirtual 114, 3) := by decide +kernel
theorem dX10_summer_9 : decode cX10_summer 9 = .ok (.invokevirtual 107, 3) := by decide +kernel
theorem dX10_summer_12 : decode cX10_summer 12 = .ok (.ireturn, 1) := by decide +kernel
set_option maxRecDepth 20000 in
theorem ggX10_trimIt_X10_isGardener : GoodIn wsX10_trimIt wsX10_isGardener := goodIn_ca (goodIn_r _ [6, 1, 7, 8, 5, 9, 43, 44, 45, 46, 47, 48, 49, 50, 51, 52, 53, 54, 55, 56, 57, 58, 59, 60, 61, 62, 63] (by decide +kernel) (by decide +kernel)) (goodIn_sub (fun _ h => List.mem_cons_of_mem _ (List.mem_append_right _ h)) (by decide +kernel))
set_option maxRecDepth 20000 in
theorem gX10_trimIt_X10_isGardener : GoodIn wsX10_trimIt (wsV RX10 117 RX10 yX10_isGardener wsX10_isGardener) := goodIn_app (goodIn_of _ (by decide +kernel)) ggX10_trimIt_X10_isGardener
set_option maxRecDepth 20000 in
theorem ggX10_trimIt_X10_refuse : GoodIn wsX10_trimIt wsX10_refuse := goodIn_r _ [13, 14, 15, 16, 17, 18, 19, 5, 20, 21, 43, 44, 45, 46, 47, 48, 49, 50, 51, 52, 53, 54, 55, 56, 57, 58, 59, 60, 61, 62, 63] (by decide +kernel) (by decide +kernel)
set_option maxRecDepth 20000 in
theorem gX10_trimIt_X10_refuse : GoodIn wsX10_trimIt (wsV RX10 91 RX10 yX10_refuse wsX10_refuse) := goodIn_app (goodIn_of _ (by decide +kernel)) ggX10_trimIt_X10_refuse
set_option maxRecDepth 20000 in
theorem ggX10_trimIt_X10_areNeighbours : GoodIn wsX10_trimIt wsX10_areNeighbours := goodIn_r _ [25, 26, 27, 28, 29, 30, 31, 5, 32, 33, 7, 8, 9, 10, 11, 12, 13, 14, 15, 16, 17, 18, 19, 20, 21, 34, 35, 36, 37, 38, 39, 43, 44, 45, 46, 47, 48, 49, 50, 51, 52, 53, 54, 55, 56, 57, 58, 59, 60, 61, 62, 63] (by decide +kernel) (by decide +kernel)
set_option maxRecDepth 20000 in
theorem gX10_trimIt_X10_areNeighbours : GoodIn wsX10_trimIt (wsV RX10 96 RX10 yX10_areNeighbours wsX10_areNeighbours) := goodIn_app (goodIn_of _ (by decide +kernel)) ggX10_trimIt_X10_areNeighbours
set_option maxRecDepth 20000 in
theorem ggX10_trimIt_X10_hedgeAt : GoodIn wsX10_trimIt wsX10_hedgeAt := goodIn_r _ [36, 37, 38, 28, 39, 26, 27, 29] (by decide +kernel) (by decide +kernel)
set_option maxRecDepth 20000 in
theorem gX10_trimIt_X10_hedgeAt : GoodIn wsX10_trimIt (va_wsS RX10 77 yX10_hedgeAt wsX10_hedgeAt) := goodIn_app (goodIn_of _ (by decide +kernel)) ggX10_trimIt_X10_hedgeAt
set_option maxRecDepth 20000 in
theorem ggX10_trimIt_X10_gardenerAt : GoodIn wsX10_trimIt wsX10_gardenerAt := goodIn_r _ [42] (by decide +kernel) (by decide +kernel)
set_option maxRecDepth 20000 in
theorem gX10_trimIt_X10_gardenerAt : GoodIn wsX10_trimIt (va_wsS RX10 120 yX10_gardenerAt wsX10_gardenerAt) := goodIn_app (goodIn_of _ (by decide +kernel)) ggX10_trimIt_X10_gardenerAt
theorem dX10_trimIt_0 : decode cX10_trimIt 0 = .ok (.aload_n 0, 1) := by decide +kernel
theorem dX10_trimIt_1 : decode cX10_trimIt 1 = .ok (.iload_n 1, 1) := by decide +kernel
theorem dX10_trimIt_2 : decode cX10_trimIt 2 = .ok (.invokevirtual 117, 3) := by decide +kernel
theorem dX10_trimIt_5 : decode cX10_trimIt 5 = .ok (.ifCond .ne 15, 3) := by decide +kernel
theorem dX10_trimIt_8 : decode cX10_trimIt 8 = .ok (.aload_n 0, 1) := by decide +kernel
theorem dX10_trimIt_9 : decode cX10_trimIt 9 = .ok (.iconst 4, 1) := by decide +kernel
theorem dX10_trimIt_10 : decode cX10_trimIt 10 = .ok (.aload_n 0, 1) := by decide +kernel
theorem dX10_trimIt_11 : decode cX10_trimIt 11 = .ok (.getfield 9, 3) := by decide +kernel
theorem dX10_trimIt_14 : decode cX10_trimIt 14 = .ok (.iconst 0, 1) := by decide +kernel
theorem dX10_trimIt_15 : decode cX10_trimIt 15 = .ok (.iaload, 1) := by decide +kernel
theorem dX10_trimIt_16 : decode cX10_trimIt 16 = .ok (.invokevirtual 91, 3) := by decide +kernel
theorem dX10_trimIt_19 : decode cX10_trimIt 19 = .ok (.ireturn, 1) := by decide +kernel
theorem dX10_trimIt_20 : decode cX10_trimIt 20 = .ok (.aload_n 0, 1) := by decide +kernel
theorem dX10_trimIt_21 : decode cX10_trimIt 21 = .ok (.iload_n 2, 1) := by decide +kernel
theorem dX10_trimIt_22 : decode cX10_trimIt 22 = .ok (.iload_n 3, 1) := by decide +kernel
theorem dX10_trimIt_23 : decode cX10_trimIt 23 = .ok (.invokevirtual 96, 3) := by decide +kernel
theorem dX10_trimIt_26 : decode cX10_trimIt 26 = .ok (.ifCond .ne 5, 3) := by decide +kernel
theorem dX10_trimIt_29 : decode cX10_trimIt 29 = .ok (.iconst (-1), 1) := by decide +kernel
theorem dX10_trimIt_30 : decode cX10_trimIt 30 = .ok (.ireturn, 1) := by decide +kernel
theorem dX10_trimIt_31 : decode cX10_trimIt 31 = .ok (.iload_n 2, 1) := by decide +kernel
theorem dX10_trimIt_32 : decode cX10_trimIt 32 = .ok (.iload_n 3, 1) := by decide +kernel
theorem dX10_trimIt_33 : decode cX10_trimIt 33 = .ok (.invokestatic 77, 3) := by decide +kernel
theorem dX10_trimIt_36 : decode cX10_trimIt 36 = .ok (.istore 4, 2) := by decide +kernel
theorem dX10_trimIt_38 : decode cX10_trimIt 38 = .ok (.iload_n 1, 1) := by decide +kernel
theorem dX10_trimIt_39 : decode cX10_trimIt 39 = .ok (.invokestatic 120, 3) := by decide +kernel
theorem dX10_trimIt_42 : decode cX10_trimIt 42 = .ok (.istore 5, 2) := by decide +kernel
theorem dX10_trimIt_44 : decode cX10_trimIt 44 = .ok (.aload_n 0, 1) := by decide +kernel
theorem dX10_trimIt_45 : decode cX10_trimIt 45 = .ok (.getfield 9, 3) := by decide +kernel
theorem dX10_trimIt_48 : decode cX10_trimIt 48 = .ok (.iload 4, 2) := by decide +kernel
theorem dX10_trimIt_50 : decode cX10_trimIt 50 = .ok (.iaload, 1) := by decide +kernel
theorem dX10_trimIt_51 : decode cX10_trimIt 51 = .ok (.ifCond .ne 10, 3) := by decide +kernel
theorem dX10_trimIt_54 : decode cX10_trimIt 54 = .ok (.aload_n 0, 1) := by decide +kernel
theorem dX10_trimIt_55 : decode cX10_trimIt 55 = .ok (.iconst 3, 1) := by decide +kernel
theorem dX10_trimIt_56 : decode cX10_trimIt 56 = .ok (.iconst 0, 1) := by decide +kernel
theorem dX10_trimIt_57 : decode cX10_trimIt 57 = .ok (.invokevirtual 91, 3) := by decide +kernel
theorem dX10_trimIt_60 : decode cX10_trimIt 60 = .ok (.ireturn, 1) := by decide +kernel
theorem dX10_trimIt_61 : decode cX10_trimIt 61 = .ok (.aload_n 0, 1) := by decide +kernel
theorem dX10_trimIt_62 : decode cX10_trimIt 62 = .ok (.getfield 9, 3) := by decide +kernel
theorem dX10_trimIt_65 : decode cX10_trimIt 65 = .ok (.iload 5, 2) := by decide +kernel
theorem dX10_trimIt_67 : decode cX10_trimIt 67 = .ok (.iaload, 1) := by decide +kernel
theorem dX10_trimIt_68 : decode cX10_trimIt 68 = .ok (.iconst 2, 1) := by decide +kernel
theorem dX10_trimIt_69 : decode cX10_trimIt 69 = .ok (.if_icmp .ge 18, 3) := by decide +kernel
theorem dX10_trimIt_72 : decode cX10_trimIt 72 = .ok (.aload_n 0, 1) := by decide +kernel
theorem dX10_trimIt_73 : decode cX10_trimIt 73 = .ok (.iconst 5, 1) := by decide +kernel
theorem dX10_trimIt_74 : decode cX10_trimIt 74 = .ok (.iconst 2, 1) := by decide +kernel
theorem dX10_trimIt_75 : decode cX10_trimIt 75 = .ok (.aload_n 0, 1) := by decide +kernel
theorem dX10_trimIt_76 : decode cX10_trimIt 76 = .ok (.getfield 9, 3) := by decide +kernel
theorem dX10_trimIt_79 : decode cX10_trimIt 79 = .ok (.iload 5, 2) := by decide +kernel
theorem dX10_trimIt_81 : decode cX10_trimIt 81 = .ok (.iaload, 1) := by decide +kernel
theorem dX10_trimIt_82 : decode cX10_trimIt 82 = .ok (.isub, 1) := by decide +kernel
theorem dX10_trimIt_83 : decode cX10_trimIt 83 = .ok (.invokevirtual 91, 3) := by decide +kernel
theorem dX10_trimIt_86 : decode cX10_trimIt 86 = .ok (.ireturn, 1) := by decide +kernel
theorem dX10_trimIt_87 : decode cX10_trimIt 87 = .ok (.aload_n 0, 1) := by decide +kernel
theorem dX10_trimIt_88 : decode cX10_trimIt 88 = .ok (.getfield 9, 3) := by decide +kernel
theorem dX10_trimIt_91 : decode cX10_trimIt 91 = .ok (.iload 4, 2) := by decide +kernel
theorem dX10_trimIt_93 : decode cX10_trimIt 93 = .ok (.iconst 0, 1) := by decide +kernel
theorem dX10_trimIt_94 : decode cX10_trimIt 94 = .ok (.iastore, 1) := by decide +kernel
theorem dX10_trimIt_95 : decode cX10_trimIt 95 = .ok (.aload_n 0, 1) := by decide +kernel
theorem dX10_trimIt_96 : decode cX10_trimIt 96 = .ok (.getfield 9, 3) := by decide +kernel
theorem dX10_trimIt_99 : decode cX10_trimIt 99 = .ok (.iload 5, 2) := by decide +kernel
theorem dX10_trimIt_101 : decode cX10_trimIt 101 = .ok (.dup2, 1) := by decide +kernel
theorem dX10_trimIt_102 : decode cX10_trimIt 102 = .ok (.iaload, 1) := by decide +kernel
theorem dX10_trimIt_103 : decode cX10_trimIt 103 = .ok (.iconst 2, 1) := by decide +kernel
theorem dX10_trimIt_104 : decode cX10_trimIt 104 = .ok (.isub, 1) := by decide +kernel
theorem dX10_trimIt_105 : decode cX10_trimIt 105 = .ok (.iastore, 1) := by decide +kernel
theorem dX10_trimIt_106 : decode cX10_trimIt 106 = .ok (.aload_n 0, 1) := by decide +kernel
theorem dX10_trimIt_107 : decode cX10_trimIt 107 = .ok (.getfield 9, 3) := by decide +kernel
theorem dX10_trimIt_110 : decode cX10_trimIt 110 = .ok (.iload 5, 2) := by decide +kernel
theorem dX10_trimIt_112 : decode cX10_trimIt 112 = .ok (.iconst 3, 1) := by decide +kernel
theorem dX10_trimIt_113 : decode cX10_trimIt 113 = .ok (.iadd, 1) := by decide +kernel
theorem dX10_trimIt_114 : decode cX10_trimIt 114 = .ok (.dup2, 1) := by decide +kernel
theorem dX10_trimIt_115 : decode cX10_trimIt 115 = .ok (.iaload, 1) := by decide +kernel
theorem dX10_trimIt_116 : decode cX10_trimIt 116 = .ok (.iconst 1, 1) := by decide +kernel
theorem dX10_trimIt_117 : decode cX10_trimIt 117 = .ok (.iadd, 1) := by decide +kernel
theorem dX10_trimIt_118 : decode cX10_trimIt 118 = .ok (.iastore, 1) := by decide +kernel
theorem dX10_trimIt_119 : decode cX10_trimIt 119 = .ok (.aload_n 0, 1) := by decide +kernel
theorem dX10_trimIt_120 : decode cX10_trimIt 120 = .ok (.getfield 9, 3) := by decide +kernel
theorem dX10_trimIt_123 : decode cX10_trimIt 123 = .ok (.iconst 5, 1) := by decide +kernel
theorem dX10_trimIt_124 : decode cX10_trimIt 124 = .ok (.dup2, 1) := by decide +kernel
theorem dX10_trimIt_125 : decode cX10_trimIt 125 = .ok (.iaload, 1) := by decide +kernel
theorem dX10_trimIt_126 : decode cX10_trimIt 126 = .ok (.iconst 2, 1) := by decide +kernel
theorem dX10_trimIt_127 : decode cX10_trimIt 127 = .ok (.iadd, 1) := by decide +kernel
theorem dX10_trimIt_128 : decode cX10_trimIt 128 = .ok (.iastore, 1) := by decide +kernel
theorem dX10_trimIt_129 : decode cX10_trimIt 129 = .ok (.aload_n 0, 1) := by decide +kernel
theorem dX10_trimIt_130 : decode cX10_trimIt 130 = .ok (.getfield 9, 3) := by decide +kernel
theorem dX10_trimIt_133 : decode cX10_trimIt 133 = .ok (.iload 5, 2) := by decide +kernel
theorem dX10_trimIt_135 : decode cX10_trimIt 135 = .ok (.iaload, 1) := by decide +kernel
theorem dX10_trimIt_136 : decode cX10_trimIt 136 = .ok (.ireturn, 1) := by decide +kernel
set_option maxRecDepth 20000 in
theorem ggX10_trim_X10_starts : GoodIn wsX10_trim wsX10_starts := goodIn_ca (goodIn_r _ [5, 6, 7, 8, 58, 59, 60, 61, 62, 63, 64, 65, 66, 67, 68, 69, 70, 71, 72, 73, 74, 75, 76, 77, 78] (by decide +kernel) (by decide +kernel)) (goodIn_sub (fun _ h => List.mem_cons_of_mem _ (List.mem_append_right _ h)) (by decide +kernel))
set_option maxRecDepth 20000 in
theorem gX10_trim_X10_starts : GoodIn wsX10_trim (wsV RX10 100 RX10 yX10_starts wsX10_starts) := goodIn_app (goodIn_of _ (by decide +kernel)) ggX10_trim_X10_starts
set_option maxRecDepth 20000 in
theorem ggX10_trim_X10_trimIt : GoodIn wsX10_trim wsX10_trimIt := goodIn_ca (goodIn_r _ [12, 8, 13, 14, 15, 4, 16, 17, 18, 19, 20, 21, 22, 23, 24, 25, 26, 27, 28, 29, 30, 6, 31, 32, 33, 34, 35, 36, 37, 38, 39, 40, 41, 42, 43, 44, 45, 46, 47, 48, 49, 50, 51, 58, 59, 60, 61, 62, 63, 64, 65, 66, 67, 68, 69, 70, 71, 72, 73, 74, 75, 76, 77, 78] (by decide +kernel) (by decide +kernel)) (goodIn_sub (fun _ h => List.mem_cons_of_mem _ (List.mem_append_right _ h)) (by decide +kernel))
set_option maxRecDepth 20000 in
theorem gX10_trim_X10_trimIt : GoodIn wsX10_trim (wsV RX10 123 RX10 yX10_trimIt wsX10_trimIt) := goodIn_app (goodIn_of _ (by decide +kernel)) ggX10_trim_X10_trimIt
set_option maxRecDepth 20000 in
theorem ggX10_trim_X10_changed : GoodIn wsX10_trim wsX10_changed := goodIn_ca (goodIn_r _ [55, 6, 56, 57, 7, 58, 59, 60, 61, 62, 63, 64, 65, 66, 67, 68, 69, 70, 71, 72, 73, 74, 75, 76, 77, 78] (by decide +kernel) (by decide +kernel)) (goodIn_sub (fun _ h => List.mem_cons_of_mem _ (List.mem_append_right _ h)) (by decide +kernel))
set_option maxRecDepth 20000 in
theorem gX10_trim_X10_changed : GoodIn wsX10_trim (wsV RX10 107 RX10 yX10_changed wsX10_changed) := goodIn_app (goodIn_of _ (by decide +kernel)) ggX10_trim_X10_changed
theorem dX10_trim_0 : decode cX10_trim 0 = .ok (.aload_n 0, 1) := by decide +kernel
theorem dX10_trim_1 : decode cX10_trim 1 = .ok (.invokevirtual 100, 3) := by decide +kernel
theorem dX10_trim_4 : decode cX10_trim 4 = .ok (.aload_n 0, 1) := by decide +kernel
theorem dX10_trim_5 : decode cX10_trim 5 = .ok (.aload_n 0, 1) := by decide +kernel
theorem dX10_trim_6 : decode cX10_trim 6 = .ok (.iload_n 1, 1) := by decide +kernel
theorem dX10_trim_7 : decode cX10_trim 7 = .ok (.iload_n 2, 1) := by decide +kernel
theorem dX10_trim_8 : decode cX10_trim 8 = .ok (.iload_n 3, 1) := by decide +kernel
theorem dX10_trim_9 : decode cX10_trim 9 = .ok (.invokevirtual 123, 3) := by decide +kernel
theorem dX10_trim_12 : decode cX10_trim 12 = .ok (.invokevirtual 107, 3) := by decide +kernel
theorem dX10_trim_15 : decode cX10_trim 15 = .ok (.ireturn, 1) := by decide +kernel
set_option maxRecDepth 20000 in
theorem ggX10_meets_X10_visitorAt : GoodIn wsX10_meets wsX10_visitorAt := goodIn_r _ [5] (by decide +kernel) (by decide +kernel)
set_option maxRecDepth 20000 in
theorem gX10_meets_X10_visitorAt : GoodIn wsX10_meets (va_wsS RX10 126 yX10_visitorAt wsX10_visitorAt) := goodIn_app (goodIn_of _ (by decide +kernel)) ggX10_meets_X10_visitorAt
theorem dX10_meets_0 : decode cX10_meets 0 = .ok (.iload_n 1, 1) := by decide +kernel
theorem dX10_meets_1 : decode cX10_meets 1 = .ok (.invokestatic 126, 3) := by decide +kernel
theorem dX10_meets_4 : decode cX10_meets 4 = .ok (.istore_n 2, 1) := by decide +kernel
theorem dX10_meets_5 : decode cX10_meets 5 = .ok (.aload_n 0, 1) := by decide +kernel
theorem dX10_meets_6 : decode cX10_meets 6 = .ok (.getfield 9, 3) := by decide +kernel
theorem dX10_meets_9 : decode cX10_meets 9 = .ok (.iload_n 2, 1) := by decide +kernel
theorem dX10_meets_10 : decode cX10_meets 10 = .ok (.bipush 7, 2) := by decide +kernel
theorem dX10_meets_12 : decode cX10_meets 12 = .ok (.iadd, 1) := by decide +kernel
theorem dX10_meets_13 : decode cX10_meets 13 = .ok (.iaload, 1) := by decide +kernel
theorem dX10_meets_14 : decode cX10_meets 14 = .ok (.ifCond .ne 24, 3) := by decide +kernel
theorem dX10_meets_17 : decode cX10_meets 17 = .ok (.aload_n 0, 1) := by decide +kernel
theorem dX10_meets_18 : decode cX10_meets 18 = .ok (.getfield 9, 3) := by decide +kernel
theorem dX10_meets_21 : decode cX10_meets 21 = .ok (.iload_n 2, 1) := by decide +kernel
