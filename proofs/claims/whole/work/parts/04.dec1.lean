theorem dX6_copyFrom_75 : decode cX6_copyFrom 75 = .ok (.aload_n 0, 1) := by decide +kernel
theorem dX6_copyFrom_76 : decode cX6_copyFrom 76 = .ok (.aload_n 1, 1) := by decide +kernel
theorem dX6_copyFrom_77 : decode cX6_copyFrom 77 = .ok (.getfield 49, 3) := by decide +kernel
theorem dX6_copyFrom_80 : decode cX6_copyFrom 80 = .ok (.putfield 49, 3) := by decide +kernel
theorem dX6_copyFrom_83 : decode cX6_copyFrom 83 = .ok (.aload_n 0, 1) := by decide +kernel
theorem dX6_copyFrom_84 : decode cX6_copyFrom 84 = .ok (.aload_n 1, 1) := by decide +kernel
theorem dX6_copyFrom_85 : decode cX6_copyFrom 85 = .ok (.getfield 18, 3) := by decide +kernel
theorem dX6_copyFrom_88 : decode cX6_copyFrom 88 = .ok (.putfield 18, 3) := by decide +kernel
theorem dX6_copyFrom_91 : decode cX6_copyFrom 91 = .ok (.aload_n 0, 1) := by decide +kernel
theorem dX6_copyFrom_92 : decode cX6_copyFrom 92 = .ok (.aload_n 1, 1) := by decide +kernel
theorem dX6_copyFrom_93 : decode cX6_copyFrom 93 = .ok (.getfield 52, 3) := by decide +kernel
theorem dX6_copyFrom_96 : decode cX6_copyFrom 96 = .ok (.putfield 52, 3) := by decide +kernel
theorem dX6_copyFrom_99 : decode cX6_copyFrom 99 = .ok (.aload_n 0, 1) := by decide +kernel
theorem dX6_copyFrom_100 : decode cX6_copyFrom 100 = .ok (.aload_n 1, 1) := by decide +kernel
theorem dX6_copyFrom_101 : decode cX6_copyFrom 101 = .ok (.getfield 55, 3) := by decide +kernel
theorem dX6_copyFrom_104 : decode cX6_copyFrom 104 = .ok (.putfield 55, 3) := by decide +kernel
theorem dX6_copyFrom_107 : decode cX6_copyFrom 107 = .ok (.aload_n 0, 1) := by decide +kernel
theorem dX6_copyFrom_108 : decode cX6_copyFrom 108 = .ok (.aload_n 1, 1) := by decide +kernel
theorem dX6_copyFrom_109 : decode cX6_copyFrom 109 = .ok (.getfield 58, 3) := by decide +kernel
theorem dX6_copyFrom_112 : decode cX6_copyFrom 112 = .ok (.putfield 58, 3) := by decide +kernel
theorem dX6_copyFrom_115 : decode cX6_copyFrom 115 = .ok (.return_, 1) := by decide +kernel
theorem dX6_findGardener_0 : decode cX6_findGardener 0 = .ok (.iload_n 1, 1) := by decide +kernel
theorem dX6_findGardener_1 : decode cX6_findGardener 1 = .ok (.ifCond .lt 20, 3) := by decide +kernel
theorem dX6_findGardener_4 : decode cX6_findGardener 4 = .ok (.iload_n 1, 1) := by decide +kernel
theorem dX6_findGardener_5 : decode cX6_findGardener 5 = .ok (.aload_n 0, 1) := by decide +kernel
theorem dX6_findGardener_6 : decode cX6_findGardener 6 = .ok (.getfield 46, 3) := by decide +kernel
theorem dX6_findGardener_9 : decode cX6_findGardener 9 = .ok (.if_icmp .ge 12, 3) := by decide +kernel
theorem dX6_findGardener_12 : decode cX6_findGardener 12 = .ok (.aload_n 0, 1) := by decide +kernel
theorem dX6_findGardener_13 : decode cX6_findGardener 13 = .ok (.getfield 24, 3) := by decide +kernel
theorem dX6_findGardener_16 : decode cX6_findGardener 16 = .ok (.iload_n 1, 1) := by decide +kernel
theorem dX6_findGardener_17 : decode cX6_findGardener 17 = .ok (.aaload, 1) := by decide +kernel
theorem dX6_findGardener_18 : decode cX6_findGardener 18 = .ok (.goto 4, 3) := by decide +kernel
theorem dX6_findGardener_21 : decode cX6_findGardener 21 = .ok (.aconst_null, 1) := by decide +kernel
theorem dX6_findGardener_22 : decode cX6_findGardener 22 = .ok (.areturn, 1) := by decide +kernel
theorem dX6_findVisitor_0 : decode cX6_findVisitor 0 = .ok (.iload_n 1, 1) := by decide +kernel
theorem dX6_findVisitor_1 : decode cX6_findVisitor 1 = .ok (.ifCond .lt 20, 3) := by decide +kernel
theorem dX6_findVisitor_4 : decode cX6_findVisitor 4 = .ok (.iload_n 1, 1) := by decide +kernel
theorem dX6_findVisitor_5 : decode cX6_findVisitor 5 = .ok (.aload_n 0, 1) := by decide +kernel
theorem dX6_findVisitor_6 : decode cX6_findVisitor 6 = .ok (.getfield 49, 3) := by decide +kernel
theorem dX6_findVisitor_9 : decode cX6_findVisitor 9 = .ok (.if_icmp .ge 12, 3) := by decide +kernel
theorem dX6_findVisitor_12 : decode cX6_findVisitor 12 = .ok (.aload_n 0, 1) := by decide +kernel
theorem dX6_findVisitor_13 : decode cX6_findVisitor 13 = .ok (.getfield 31, 3) := by decide +kernel
theorem dX6_findVisitor_16 : decode cX6_findVisitor 16 = .ok (.iload_n 1, 1) := by decide +kernel
theorem dX6_findVisitor_17 : decode cX6_findVisitor 17 = .ok (.aaload, 1) := by decide +kernel
theorem dX6_findVisitor_18 : decode cX6_findVisitor 18 = .ok (.goto 4, 3) := by decide +kernel
theorem dX6_findVisitor_21 : decode cX6_findVisitor 21 = .ok (.aconst_null, 1) := by decide +kernel
theorem dX6_findVisitor_22 : decode cX6_findVisitor 22 = .ok (.areturn, 1) := by decide +kernel
theorem dX6_bondsOf_0 : decode cX6_bondsOf 0 = .ok (.iconst 0, 1) := by decide +kernel
theorem dX6_bondsOf_1 : decode cX6_bondsOf 1 = .ok (.istore_n 2, 1) := by decide +kernel
theorem dX6_bondsOf_2 : decode cX6_bondsOf 2 = .ok (.iconst 0, 1) := by decide +kernel
theorem dX6_bondsOf_3 : decode cX6_bondsOf 3 = .ok (.istore_n 3, 1) := by decide +kernel
theorem dX6_bondsOf_4 : decode cX6_bondsOf 4 = .ok (.iload_n 3, 1) := by decide +kernel
theorem dX6_bondsOf_5 : decode cX6_bondsOf 5 = .ok (.aload_n 0, 1) := by decide +kernel
theorem dX6_bondsOf_6 : decode cX6_bondsOf 6 = .ok (.getfield 49, 3) := by decide +kernel
theorem dX6_bondsOf_9 : decode cX6_bondsOf 9 = .ok (.if_icmp .ge 25, 3) := by decide +kernel
theorem dX6_bondsOf_12 : decode cX6_bondsOf 12 = .ok (.aload_n 0, 1) := by decide +kernel
theorem dX6_bondsOf_13 : decode cX6_bondsOf 13 = .ok (.getfield 31, 3) := by decide +kernel
theorem dX6_bondsOf_16 : decode cX6_bondsOf 16 = .ok (.iload_n 3, 1) := by decide +kernel
theorem dX6_bondsOf_17 : decode cX6_bondsOf 17 = .ok (.aaload, 1) := by decide +kernel
theorem dX6_bondsOf_18 : decode cX6_bondsOf 18 = .ok (.getfield 61, 3) := by decide +kernel
theorem dX6_bondsOf_21 : decode cX6_bondsOf 21 = .ok (.iload_n 1, 1) := by decide +kernel
theorem dX6_bondsOf_22 : decode cX6_bondsOf 22 = .ok (.if_icmp .ne 6, 3) := by decide +kernel
theorem dX6_bondsOf_25 : decode cX6_bondsOf 25 = .ok (.iinc 2 1, 3) := by decide +kernel
theorem dX6_bondsOf_28 : decode cX6_bondsOf 28 = .ok (.iinc 3 1, 3) := by decide +kernel
theorem dX6_bondsOf_31 : decode cX6_bondsOf 31 = .ok (.goto (-27), 3) := by decide +kernel
theorem dX6_bondsOf_34 : decode cX6_bondsOf 34 = .ok (.iload_n 2, 1) := by decide +kernel
theorem dX6_bondsOf_35 : decode cX6_bondsOf 35 = .ok (.ireturn, 1) := by decide +kernel
theorem dX6_bonds_0 : decode cX6_bonds 0 = .ok (.aload_n 0, 1) := by decide +kernel
theorem dX6_bonds_1 : decode cX6_bonds 1 = .ok (.getfield 49, 3) := by decide +kernel
theorem dX6_bonds_4 : decode cX6_bonds 4 = .ok (.aload_n 0, 1) := by decide +kernel
theorem dX6_bonds_5 : decode cX6_bonds 5 = .ok (.iconst (-1), 1) := by decide +kernel
theorem dX6_bonds_6 : decode cX6_bonds 6 = .ok (.invokevirtual 64, 3) := by decide +kernel
theorem dX6_bonds_9 : decode cX6_bonds 9 = .ok (.isub, 1) := by decide +kernel
theorem dX6_bonds_10 : decode cX6_bonds 10 = .ok (.ireturn, 1) := by decide +kernel
theorem dX6_debtOf_0 : decode cX6_debtOf 0 = .ok (.iconst 0, 1) := by decide +kernel
theorem dX6_debtOf_1 : decode cX6_debtOf 1 = .ok (.istore_n 2, 1) := by decide +kernel
theorem dX6_debtOf_2 : decode cX6_debtOf 2 = .ok (.iconst 0, 1) := by decide +kernel
theorem dX6_debtOf_3 : decode cX6_debtOf 3 = .ok (.istore_n 3, 1) := by decide +kernel
theorem dX6_debtOf_4 : decode cX6_debtOf 4 = .ok (.iload_n 3, 1) := by decide +kernel
theorem dX6_debtOf_5 : decode cX6_debtOf 5 = .ok (.aload_n 0, 1) := by decide +kernel
theorem dX6_debtOf_6 : decode cX6_debtOf 6 = .ok (.getfield 49, 3) := by decide +kernel
theorem dX6_debtOf_9 : decode cX6_debtOf 9 = .ok (.if_icmp .ge 35, 3) := by decide +kernel
theorem dX6_debtOf_12 : decode cX6_debtOf 12 = .ok (.aload_n 0, 1) := by decide +kernel
theorem dX6_debtOf_13 : decode cX6_debtOf 13 = .ok (.getfield 31, 3) := by decide +kernel
theorem dX6_debtOf_16 : decode cX6_debtOf 16 = .ok (.iload_n 3, 1) := by decide +kernel
theorem dX6_debtOf_17 : decode cX6_debtOf 17 = .ok (.aaload, 1) := by decide +kernel
theorem dX6_debtOf_18 : decode cX6_debtOf 18 = .ok (.getfield 61, 3) := by decide +kernel
theorem dX6_debtOf_21 : decode cX6_debtOf 21 = .ok (.iload_n 1, 1) := by decide +kernel
theorem dX6_debtOf_22 : decode cX6_debtOf 22 = .ok (.if_icmp .ne 16, 3) := by decide +kernel
theorem dX6_debtOf_25 : decode cX6_debtOf 25 = .ok (.iload_n 2, 1) := by decide +kernel
theorem dX6_debtOf_26 : decode cX6_debtOf 26 = .ok (.aload_n 0, 1) := by decide +kernel
theorem dX6_debtOf_27 : decode cX6_debtOf 27 = .ok (.getfield 31, 3) := by decide +kernel
theorem dX6_debtOf_30 : decode cX6_debtOf 30 = .ok (.iload_n 3, 1) := by decide +kernel
theorem dX6_debtOf_31 : decode cX6_debtOf 31 = .ok (.aaload, 1) := by decide +kernel
theorem dX6_debtOf_32 : decode cX6_debtOf 32 = .ok (.iconst 0, 1) := by decide +kernel
theorem dX6_debtOf_33 : decode cX6_debtOf 33 = .ok (.invokevirtual 68, 3) := by decide +kernel
theorem dX6_debtOf_36 : decode cX6_debtOf 36 = .ok (.iadd, 1) := by decide +kernel
theorem dX6_debtOf_37 : decode cX6_debtOf 37 = .ok (.istore_n 2, 1) := by decide +kernel
theorem dX6_debtOf_38 : decode cX6_debtOf 38 = .ok (.iinc 3 1, 3) := by decide +kernel
theorem dX6_debtOf_41 : decode cX6_debtOf 41 = .ok (.goto (-37), 3) := by decide +kernel
theorem dX6_debtOf_44 : decode cX6_debtOf 44 = .ok (.iload_n 2, 1) := by decide +kernel
theorem dX6_debtOf_45 : decode cX6_debtOf 45 = .ok (.ireturn, 1) := by decide +kernel
theorem dX6_visitorsIn_0 : decode cX6_visitorsIn 0 = .ok (.iconst 0, 1) := by decide +kernel
theorem dX6_visitorsIn_1 : decode cX6_visitorsIn 1 = .ok (.istore_n 2, 1) := by decide +kernel
theorem dX6_visitorsIn_2 : decode cX6_visitorsIn 2 = .ok (.iconst 0, 1) := by decide +kernel
theorem dX6_visitorsIn_3 : decode cX6_visitorsIn 3 = .ok (.istore_n 3, 1) := by decide +kernel
theorem dX6_visitorsIn_4 : decode cX6_visitorsIn 4 = .ok (.iload_n 3, 1) := by decide +kernel
theorem dX6_visitorsIn_5 : decode cX6_visitorsIn 5 = .ok (.aload_n 0, 1) := by decide +kernel
theorem dX6_visitorsIn_6 : decode cX6_visitorsIn 6 = .ok (.getfield 49, 3) := by decide +kernel
theorem dX6_visitorsIn_9 : decode cX6_visitorsIn 9 = .ok (.if_icmp .ge 25, 3) := by decide +kernel
theorem dX6_visitorsIn_12 : decode cX6_visitorsIn 12 = .ok (.aload_n 0, 1) := by decide +kernel
theorem dX6_visitorsIn_13 : decode cX6_visitorsIn 13 = .ok (.getfield 31, 3) := by decide +kernel
theorem dX6_visitorsIn_16 : decode cX6_visitorsIn 16 = .ok (.iload_n 3, 1) := by decide +kernel
theorem dX6_visitorsIn_17 : decode cX6_visitorsIn 17 = .ok (.aaload, 1) := by decide +kernel
theorem dX6_visitorsIn_18 : decode cX6_visitorsIn 18 = .ok (.iload_n 1, 1) := by decide +kernel
theorem dX6_visitorsIn_19 : decode cX6_visitorsIn 19 = .ok (.invokevirtual 71, 3) := by decide +kernel
theorem dX6_visitorsIn_22 : decode cX6_visitorsIn 22 = .ok (.ifCond .eq 6, 3) := by decide +kernel
theorem dX6_visitorsIn_25 : decode cX6_visitorsIn 25 = .ok (.iinc 2 1, 3) := by decide +kernel
theorem dX6_visitorsIn_28 : decode cX6_visitorsIn 28 = .ok (.iinc 3 1, 3) := by decide +kernel
theorem dX6_visitorsIn_31 : decode cX6_visitorsIn 31 = .ok (.goto (-27), 3) := by decide +kernel
theorem dX6_visitorsIn_34 : decode cX6_visitorsIn 34 = .ok (.iload_n 2, 1) := by decide +kernel
theorem dX6_visitorsIn_35 : decode cX6_visitorsIn 35 = .ok (.ireturn, 1) := by decide +kernel
theorem dX6_totalOf_0 : decode cX6_totalOf 0 = .ok (.iconst 0, 1) := by decide +kernel
theorem dX6_totalOf_1 : decode cX6_totalOf 1 = .ok (.istore_n 2, 1) := by decide +kernel
theorem dX6_totalOf_2 : decode cX6_totalOf 2 = .ok (.iconst 0, 1) := by decide +kernel
theorem dX6_totalOf_3 : decode cX6_totalOf 3 = .ok (.istore_n 3, 1) := by decide +kernel
theorem dX6_totalOf_4 : decode cX6_totalOf 4 = .ok (.iload_n 3, 1) := by decide +kernel
theorem dX6_totalOf_5 : decode cX6_totalOf 5 = .ok (.aload_n 0, 1) := by decide +kernel
theorem dX6_totalOf_6 : decode cX6_totalOf 6 = .ok (.getfield 49, 3) := by decide +kernel
theorem dX6_totalOf_9 : decode cX6_totalOf 9 = .ok (.if_icmp .ge 22, 3) := by decide +kernel
theorem dX6_totalOf_12 : decode cX6_totalOf 12 = .ok (.iload_n 2, 1) := by decide +kernel
theorem dX6_totalOf_13 : decode cX6_totalOf 13 = .ok (.aload_n 0, 1) := by decide +kernel
theorem dX6_totalOf_14 : decode cX6_totalOf 14 = .ok (.getfield 31, 3) := by decide +kernel
theorem dX6_totalOf_17 : decode cX6_totalOf 17 = .ok (.iload_n 3, 1) := by decide +kernel
theorem dX6_totalOf_18 : decode cX6_totalOf 18 = .ok (.aaload, 1) := by decide +kernel
theorem dX6_totalOf_19 : decode cX6_totalOf 19 = .ok (.iload_n 1, 1) := by decide +kernel
theorem dX6_totalOf_20 : decode cX6_totalOf 20 = .ok (.invokevirtual 75, 3) := by decide +kernel
theorem dX6_totalOf_23 : decode cX6_totalOf 23 = .ok (.iadd, 1) := by decide +kernel
theorem dX6_totalOf_24 : decode cX6_totalOf 24 = .ok (.istore_n 2, 1) := by decide +kernel
theorem dX6_totalOf_25 : decode cX6_totalOf 25 = .ok (.iinc 3 1, 3) := by decide +kernel
theorem dX6_totalOf_28 : decode cX6_totalOf 28 = .ok (.goto (-24), 3) := by decide +kernel
theorem dX6_totalOf_31 : decode cX6_totalOf 31 = .ok (.iload_n 2, 1) := by decide +kernel
theorem dX6_totalOf_32 : decode cX6_totalOf 32 = .ok (.ireturn, 1) := by decide +kernel
theorem dX6_coinsOfAll_0 : decode cX6_coinsOfAll 0 = .ok (.aload_n 0, 1) := by decide +kernel
theorem dX6_coinsOfAll_1 : decode cX6_coinsOfAll 1 = .ok (.iconst 0, 1) := by decide +kernel
theorem dX6_coinsOfAll_2 : decode cX6_coinsOfAll 2 = .ok (.invokevirtual 78, 3) := by decide +kernel
theorem dX6_coinsOfAll_5 : decode cX6_coinsOfAll 5 = .ok (.istore_n 1, 1) := by decide +kernel
theorem dX6_coinsOfAll_6 : decode cX6_coinsOfAll 6 = .ok (.iconst 0, 1) := by decide +kernel
theorem dX6_coinsOfAll_7 : decode cX6_coinsOfAll 7 = .ok (.istore_n 2, 1) := by decide +kernel
theorem dX6_coinsOfAll_8 : decode cX6_coinsOfAll 8 = .ok (.iload_n 2, 1) := by decide +kernel
theorem dX6_coinsOfAll_9 : decode cX6_coinsOfAll 9 = .ok (.aload_n 0, 1) := by decide +kernel
theorem dX6_coinsOfAll_10 : decode cX6_coinsOfAll 10 = .ok (.getfield 46, 3) := by decide +kernel
theorem dX6_coinsOfAll_13 : decode cX6_coinsOfAll 13 = .ok (.if_icmp .ge 21, 3) := by decide +kernel
theorem dX6_coinsOfAll_16 : decode cX6_coinsOfAll 16 = .ok (.iload_n 1, 1) := by decide +kernel
theorem dX6_coinsOfAll_17 : decode cX6_coinsOfAll 17 = .ok (.aload_n 0, 1) := by decide +kernel
theorem dX6_coinsOfAll_18 : decode cX6_coinsOfAll 18 = .ok (.getfield 24, 3) := by decide +kernel
theorem dX6_coinsOfAll_21 : decode cX6_coinsOfAll 21 = .ok (.iload_n 2, 1) := by decide +kernel
theorem dX6_coinsOfAll_22 : decode cX6_coinsOfAll 22 = .ok (.aaload, 1) := by decide +kernel
theorem dX6_coinsOfAll_23 : decode cX6_coinsOfAll 23 = .ok (.getfield 81, 3) := by decide +kernel
theorem dX6_coinsOfAll_26 : decode cX6_coinsOfAll 26 = .ok (.iadd, 1) := by decide +kernel
theorem dX6_coinsOfAll_27 : decode cX6_coinsOfAll 27 = .ok (.istore_n 1, 1) := by decide +kernel
theorem dX6_coinsOfAll_28 : decode cX6_coinsOfAll 28 = .ok (.iinc 2 1, 3) := by decide +kernel
theorem dX6_coinsOfAll_31 : decode cX6_coinsOfAll 31 = .ok (.goto (-23), 3) := by decide +kernel
theorem dX6_coinsOfAll_34 : decode cX6_coinsOfAll 34 = .ok (.iload_n 1, 1) := by decide +kernel
theorem dX6_coinsOfAll_35 : decode cX6_coinsOfAll 35 = .ok (.ireturn, 1) := by decide +kernel
theorem dX6_visitorsAhead_0 : decode cX6_visitorsAhead 0 = .ok (.aload_n 0, 1) := by decide +kernel
theorem dX6_visitorsAhead_1 : decode cX6_visitorsAhead 1 = .ok (.iload_n 1, 1) := by decide +kernel
theorem dX6_visitorsAhead_2 : decode cX6_visitorsAhead 2 = .ok (.invokevirtual 84, 3) := by decide +kernel
theorem dX6_visitorsAhead_5 : decode cX6_visitorsAhead 5 = .ok (.astore_n 3, 1) := by decide +kernel
theorem dX6_visitorsAhead_6 : decode cX6_visitorsAhead 6 = .ok (.iconst 0, 1) := by decide +kernel
theorem dX6_visitorsAhead_7 : decode cX6_visitorsAhead 7 = .ok (.istore 4, 2) := by decide +kernel
theorem dX6_visitorsAhead_9 : decode cX6_visitorsAhead 9 = .ok (.iconst 0, 1) := by decide +kernel
theorem dX6_visitorsAhead_10 : decode cX6_visitorsAhead 10 = .ok (.istore 5, 2) := by decide +kernel
theorem dX6_visitorsAhead_12 : decode cX6_visitorsAhead 12 = .ok (.aload_n 3, 1) := by decide +kernel
theorem dX6_visitorsAhead_13 : decode cX6_visitorsAhead 13 = .ok (.ifnull 56, 3) := by decide +kernel
theorem dX6_visitorsAhead_16 : decode cX6_visitorsAhead 16 = .ok (.iload 5, 2) := by decide +kernel
theorem dX6_visitorsAhead_18 : decode cX6_visitorsAhead 18 = .ok (.aload_n 0, 1) := by decide +kernel
theorem dX6_visitorsAhead_19 : decode cX6_visitorsAhead 19 = .ok (.getfield 49, 3) := by decide +kernel
theorem dX6_visitorsAhead_22 : decode cX6_visitorsAhead 22 = .ok (.if_icmp .ge 47, 3) := by decide +kernel
theorem dX6_visitorsAhead_25 : decode cX6_visitorsAhead 25 = .ok (.aload_n 0, 1) := by decide +kernel
theorem dX6_visitorsAhead_26 : decode cX6_visitorsAhead 26 = .ok (.getfield 31, 3) := by decide +kernel
theorem dX6_visitorsAhead_29 : decode cX6_visitorsAhead 29 = .ok (.iload 5, 2) := by decide +kernel
theorem dX6_visitorsAhead_31 : decode cX6_visitorsAhead 31 = .ok (.aaload, 1) := by decide +kernel
theorem dX6_visitorsAhead_32 : decode cX6_visitorsAhead 32 = .ok (.iload_n 2, 1) := by decide +kernel
theorem dX6_visitorsAhead_33 : decode cX6_visitorsAhead 33 = .ok (.invokevirtual 75, 3) := by decide +kernel
theorem dX6_visitorsAhead_36 : decode cX6_visitorsAhead 36 = .ok (.aload_n 3, 1) := by decide +kernel
theorem dX6_visitorsAhead_37 : decode cX6_visitorsAhead 37 = .ok (.iload_n 2, 1) := by decide +kernel
theorem dX6_visitorsAhead_38 : decode cX6_visitorsAhead 38 = .ok (.invokevirtual 75, 3) := by decide +kernel
theorem dX6_visitorsAhead_41 : decode cX6_visitorsAhead 41 = .ok (.isub, 1) := by decide +kernel
theorem dX6_visitorsAhead_42 : decode cX6_visitorsAhead 42 = .ok (.istore 6, 2) := by decide +kernel
theorem dX6_visitorsAhead_44 : decode cX6_visitorsAhead 44 = .ok (.iload 6, 2) := by decide +kernel
theorem dX6_visitorsAhead_46 : decode cX6_visitorsAhead 46 = .ok (.ifCond .gt 14, 3) := by decide +kernel
theorem dX6_visitorsAhead_49 : decode cX6_visitorsAhead 49 = .ok (.iload 6, 2) := by decide +kernel
theorem dX6_visitorsAhead_51 : decode cX6_visitorsAhead 51 = .ok (.ifCond .ne 12, 3) := by decide +kernel
theorem dX6_visitorsAhead_54 : decode cX6_visitorsAhead 54 = .ok (.iload 5, 2) := by decide +kernel
theorem dX6_visitorsAhead_56 : decode cX6_visitorsAhead 56 = .ok (.iload_n 1, 1) := by decide +kernel
theorem dX6_visitorsAhead_57 : decode cX6_visitorsAhead 57 = .ok (.if_icmp .ge 6, 3) := by decide +kernel
theorem dX6_visitorsAhead_60 : decode cX6_visitorsAhead 60 = .ok (.iinc 4 1, 3) := by decide +kernel
theorem dX6_visitorsAhead_63 : decode cX6_visitorsAhead 63 = .ok (.iinc 5 1, 3) := by decide +kernel
theorem dX6_visitorsAhead_66 : decode cX6_visitorsAhead 66 = .ok (.goto (-54), 3) := by decide +kernel
theorem dX6_visitorsAhead_69 : decode cX6_visitorsAhead 69 = .ok (.iload 4, 2) := by decide +kernel
theorem dX6_visitorsAhead_71 : decode cX6_visitorsAhead 71 = .ok (.ireturn, 1) := by decide +kernel
theorem dX6_gardenersAhead_0 : decode cX6_gardenersAhead 0 = .ok (.iconst 0, 1) := by decide +kernel
theorem dX6_gardenersAhead_1 : decode cX6_gardenersAhead 1 = .ok (.istore_n 2, 1) := by decide +kernel
theorem dX6_gardenersAhead_2 : decode cX6_gardenersAhead 2 = .ok (.iconst 0, 1) := by decide +kernel
theorem dX6_gardenersAhead_3 : decode cX6_gardenersAhead 3 = .ok (.istore_n 3, 1) := by decide +kernel
theorem dX6_gardenersAhead_4 : decode cX6_gardenersAhead 4 = .ok (.iload_n 3, 1) := by decide +kernel
theorem dX6_gardenersAhead_5 : decode cX6_gardenersAhead 5 = .ok (.aload_n 0, 1) := by decide +kernel
theorem dX6_gardenersAhead_6 : decode cX6_gardenersAhead 6 = .ok (.getfield 46, 3) := by decide +kernel
theorem dX6_gardenersAhead_9 : decode cX6_gardenersAhead 9 = .ok (.if_icmp .ge 21, 3) := by decide +kernel
theorem dX6_gardenersAhead_12 : decode cX6_gardenersAhead 12 = .ok (.aload_n 0, 1) := by decide +kernel
theorem dX6_gardenersAhead_13 : decode cX6_gardenersAhead 13 = .ok (.iload_n 3, 1) := by decide +kernel
theorem dX6_gardenersAhead_14 : decode cX6_gardenersAhead 14 = .ok (.iload_n 1, 1) := by decide +kernel
theorem dX6_gardenersAhead_15 : decode cX6_gardenersAhead 15 = .ok (.invokevirtual 88, 3) := by decide +kernel
theorem dX6_gardenersAhead_18 : decode cX6_gardenersAhead 18 = .ok (.ifCond .eq 6, 3) := by decide +kernel
theorem dX6_gardenersAhead_21 : decode cX6_gardenersAhead 21 = .ok (.iinc 2 1, 3) := by decide +kernel
theorem dX6_gardenersAhead_24 : decode cX6_gardenersAhead 24 = .ok (.iinc 3 1, 3) := by decide +kernel
theorem dX6_gardenersAhead_27 : decode cX6_gardenersAhead 27 = .ok (.goto (-23), 3) := by decide +kernel
theorem dX6_gardenersAhead_30 : decode cX6_gardenersAhead 30 = .ok (.iload_n 2, 1) := by decide +kernel
theorem dX6_gardenersAhead_31 : decode cX6_gardenersAhead 31 = .ok (.ireturn, 1) := by decide +kernel
theorem dX6_isRicher_0 : decode cX6_isRicher 0 = .ok (.aload_n 0, 1) := by decide +kernel
theorem dX6_isRicher_1 : decode cX6_isRicher 1 = .ok (.iload_n 1, 1) := by decide +kernel
theorem dX6_isRicher_2 : decode cX6_isRicher 2 = .ok (.invokevirtual 92, 3) := by decide +kernel
theorem dX6_isRicher_5 : decode cX6_isRicher 5 = .ok (.astore_n 3, 1) := by decide +kernel
theorem dX6_isRicher_6 : decode cX6_isRicher 6 = .ok (.aload_n 0, 1) := by decide +kernel
theorem dX6_isRicher_7 : decode cX6_isRicher 7 = .ok (.iload_n 2, 1) := by decide +kernel
theorem dX6_isRicher_8 : decode cX6_isRicher 8 = .ok (.invokevirtual 92, 3) := by decide +kernel
theorem dX6_isRicher_11 : decode cX6_isRicher 11 = .ok (.astore 4, 2) := by decide +kernel
theorem dX6_isRicher_13 : decode cX6_isRicher 13 = .ok (.aload_n 3, 1) := by decide +kernel
theorem dX6_isRicher_14 : decode cX6_isRicher 14 = .ok (.ifnull 8, 3) := by decide +kernel
theorem dX6_isRicher_17 : decode cX6_isRicher 17 = .ok (.aload 4, 2) := by decide +kernel
theorem dX6_isRicher_19 : decode cX6_isRicher 19 = .ok (.ifnonnull 5, 3) := by decide +kernel
theorem dX6_isRicher_22 : decode cX6_isRicher 22 = .ok (.iconst 0, 1) := by decide +kernel
theorem dX6_isRicher_23 : decode cX6_isRicher 23 = .ok (.ireturn, 1) := by decide +kernel
theorem dX6_isRicher_24 : decode cX6_isRicher 24 = .ok (.aload_n 3, 1) := by decide +kernel
theorem dX6_isRicher_25 : decode cX6_isRicher 25 = .ok (.getfield 81, 3) := by decide +kernel
theorem dX6_isRicher_28 : decode cX6_isRicher 28 = .ok (.aload 4, 2) := by decide +kernel
theorem dX6_isRicher_30 : decode cX6_isRicher 30 = .ok (.getfield 81, 3) := by decide +kernel
theorem dX6_isRicher_33 : decode cX6_isRicher 33 = .ok (.if_icmp .eq 21, 3) := by decide +kernel
theorem dX6_isRicher_36 : decode cX6_isRicher 36 = .ok (.aload_n 3, 1) := by decide +kernel
theorem dX6_isRicher_37 : decode cX6_isRicher 37 = .ok (.getfield 81, 3) := by decide +kernel
theorem dX6_isRicher_40 : decode cX6_isRicher 40 = .ok (.aload 4, 2) := by decide +kernel
theorem dX6_isRicher_42 : decode cX6_isRicher 42 = .ok (.getfield 81, 3) := by decide +kernel
theorem dX6_isRicher_45 : decode cX6_isRicher 45 = .ok (.if_icmp .le 7, 3) := by decide +kernel
theorem dX6_isRicher_48 : decode cX6_isRicher 48 = .ok (.iconst 1, 1) := by decide +kernel
theorem dX6_isRicher_49 : decode cX6_isRicher 49 = .ok (.goto 4, 3) := by decide +kernel
theorem dX6_isRicher_52 : decode cX6_isRicher 52 = .ok (.iconst 0, 1) := by decide +kernel
theorem dX6_isRicher_53 : decode cX6_isRicher 53 = .ok (.ireturn, 1) := by decide +kernel
theorem dX6_isRicher_54 : decode cX6_isRicher 54 = .ok (.aload_n 0, 1) := by decide +kernel
theorem dX6_isRicher_55 : decode cX6_isRicher 55 = .ok (.iload_n 2, 1) := by decide +kernel
theorem dX6_isRicher_56 : decode cX6_isRicher 56 = .ok (.invokevirtual 96, 3) := by decide +kernel
theorem dX6_isRicher_59 : decode cX6_isRicher 59 = .ok (.aload_n 0, 1) := by decide +kernel
theorem dX6_isRicher_60 : decode cX6_isRicher 60 = .ok (.iload_n 1, 1) := by decide +kernel
theorem dX6_isRicher_61 : decode cX6_isRicher 61 = .ok (.invokevirtual 96, 3) := by decide +kernel
theorem dX6_isRicher_64 : decode cX6_isRicher 64 = .ok (.isub, 1) := by decide +kernel
theorem dX6_isRicher_65 : decode cX6_isRicher 65 = .ok (.istore 5, 2) := by decide +kernel
theorem dX6_isRicher_67 : decode cX6_isRicher 67 = .ok (.iload 5, 2) := by decide +kernel
theorem dX6_isRicher_69 : decode cX6_isRicher 69 = .ok (.ifCond .gt 13, 3) := by decide +kernel
theorem dX6_isRicher_72 : decode cX6_isRicher 72 = .ok (.iload 5, 2) := by decide +kernel
theorem dX6_isRicher_74 : decode cX6_isRicher 74 = .ok (.ifCond .ne 12, 3) := by decide +kernel
theorem dX6_isRicher_77 : decode cX6_isRicher 77 = .ok (.iload_n 1, 1) := by decide +kernel
theorem dX6_isRicher_78 : decode cX6_isRicher 78 = .ok (.iload_n 2, 1) := by decide +kernel
theorem dX6_isRicher_79 : decode cX6_isRicher 79 = .ok (.if_icmp .ge 7, 3) := by decide +kernel
theorem dX6_isRicher_82 : decode cX6_isRicher 82 = .ok (.iconst 1, 1) := by decide +kernel
theorem dX6_isRicher_83 : decode cX6_isRicher 83 = .ok (.goto 4, 3) := by decide +kernel
theorem dX6_isRicher_86 : decode cX6_isRicher 86 = .ok (.iconst 0, 1) := by decide +kernel
theorem dX6_isRicher_87 : decode cX6_isRicher 87 = .ok (.ireturn, 1) := by decide +kernel
theorem dX7_init_0 : decode cX7_init 0 = .ok (.aload_n 0, 1) := by decide +kernel
theorem dX7_init_1 : decode cX7_init 1 = .ok (.invokespecial 3, 3) := by decide +kernel
theorem dX7_init_4 : decode cX7_init 4 = .ok (.aload_n 0, 1) := by decide +kernel
theorem dX7_init_5 : decode cX7_init 5 = .ok (.iconst (-1), 1) := by decide +kernel
theorem dX7_init_6 : decode cX7_init 6 = .ok (.putfield 9, 3) := by decide +kernel
theorem dX7_init_9 : decode cX7_init 9 = .ok (.return_, 1) := by decide +kernel
theorem dX7_copyFrom_0 : decode cX7_copyFrom 0 = .ok (.aload_n 0, 1) := by decide +kernel
theorem dX7_copyFrom_1 : decode cX7_copyFrom 1 = .ok (.aload_n 1, 1) := by decide +kernel
theorem dX7_copyFrom_2 : decode cX7_copyFrom 2 = .ok (.getfield 15, 3) := by decide +kernel
theorem dX7_copyFrom_5 : decode cX7_copyFrom 5 = .ok (.putfield 15, 3) := by decide +kernel
theorem dX7_copyFrom_8 : decode cX7_copyFrom 8 = .ok (.aload_n 0, 1) := by decide +kernel
theorem dX7_copyFrom_9 : decode cX7_copyFrom 9 = .ok (.aload_n 1, 1) := by decide +kernel
theorem dX7_copyFrom_10 : decode cX7_copyFrom 10 = .ok (.getfield 18, 3) := by decide +kernel
theorem dX7_copyFrom_13 : decode cX7_copyFrom 13 = .ok (.putfield 18, 3) := by decide +kernel
theorem dX7_copyFrom_16 : decode cX7_copyFrom 16 = .ok (.aload_n 0, 1) := by decide +kernel
theorem dX7_copyFrom_17 : decode cX7_copyFrom 17 = .ok (.aload_n 1, 1) := by decide +kernel
theorem dX7_copyFrom_18 : decode cX7_copyFrom 18 = .ok (.getfield 21, 3) := by decide +kernel
theorem dX7_copyFrom_21 : decode cX7_copyFrom 21 = .ok (.putfield 21, 3) := by decide +kernel
theorem dX7_copyFrom_24 : decode cX7_copyFrom 24 = .ok (.aload_n 0, 1) := by decide +kernel
theorem dX7_copyFrom_25 : decode cX7_copyFrom 25 = .ok (.aload_n 1, 1) := by decide +kernel
theorem dX7_copyFrom_26 : decode cX7_copyFrom 26 = .ok (.getfield 24, 3) := by decide +kernel
theorem dX7_copyFrom_29 : decode cX7_copyFrom 29 = .ok (.putfield 24, 3) := by decide +kernel
theorem dX7_copyFrom_32 : decode cX7_copyFrom 32 = .ok (.aload_n 0, 1) := by decide +kernel
theorem dX7_copyFrom_33 : decode cX7_copyFrom 33 = .ok (.aload_n 1, 1) := by decide +kernel
theorem dX7_copyFrom_34 : decode cX7_copyFrom 34 = .ok (.getfield 9, 3) := by decide +kernel
theorem dX7_copyFrom_37 : decode cX7_copyFrom 37 = .ok (.putfield 9, 3) := by decide +kernel
theorem dX7_copyFrom_40 : decode cX7_copyFrom 40 = .ok (.aload_n 0, 1) := by decide +kernel
theorem dX7_copyFrom_41 : decode cX7_copyFrom 41 = .ok (.aload_n 1, 1) := by decide +kernel
theorem dX7_copyFrom_42 : decode cX7_copyFrom 42 = .ok (.getfield 27, 3) := by decide +kernel
theorem dX7_copyFrom_45 : decode cX7_copyFrom 45 = .ok (.putfield 27, 3) := by decide +kernel
theorem dX7_copyFrom_48 : decode cX7_copyFrom 48 = .ok (.aload_n 0, 1) := by decide +kernel
theorem dX7_copyFrom_49 : decode cX7_copyFrom 49 = .ok (.aload_n 1, 1) := by decide +kernel
theorem dX7_copyFrom_50 : decode cX7_copyFrom 50 = .ok (.getfield 30, 3) := by decide +kernel
theorem dX7_copyFrom_53 : decode cX7_copyFrom 53 = .ok (.putfield 30, 3) := by decide +kernel
theorem dX7_copyFrom_56 : decode cX7_copyFrom 56 = .ok (.aload_n 0, 1) := by decide +kernel
theorem dX7_copyFrom_57 : decode cX7_copyFrom 57 = .ok (.aload_n 1, 1) := by decide +kernel
theorem dX7_copyFrom_58 : decode cX7_copyFrom 58 = .ok (.getfield 34, 3) := by decide +kernel
theorem dX7_copyFrom_61 : decode cX7_copyFrom 61 = .ok (.putfield 34, 3) := by decide +kernel
theorem dX7_copyFrom_64 : decode cX7_copyFrom 64 = .ok (.return_, 1) := by decide +kernel
theorem dX7_arrive_0 : decode cX7_arrive 0 = .ok (.aload_n 0, 1) := by decide +kernel
theorem dX7_arrive_1 : decode cX7_arrive 1 = .ok (.iload_n 1, 1) := by decide +kernel
theorem dX7_arrive_2 : decode cX7_arrive 2 = .ok (.putfield 15, 3) := by decide +kernel
theorem dX7_arrive_5 : decode cX7_arrive 5 = .ok (.aload_n 0, 1) := by decide +kernel
theorem dX7_arrive_6 : decode cX7_arrive 6 = .ok (.iconst 0, 1) := by decide +kernel
theorem dX7_arrive_7 : decode cX7_arrive 7 = .ok (.putfield 18, 3) := by decide +kernel
theorem dX7_arrive_10 : decode cX7_arrive 10 = .ok (.aload_n 0, 1) := by decide +kernel
theorem dX7_arrive_11 : decode cX7_arrive 11 = .ok (.iconst 0, 1) := by decide +kernel
theorem dX7_arrive_12 : decode cX7_arrive 12 = .ok (.putfield 21, 3) := by decide +kernel
theorem dX7_arrive_15 : decode cX7_arrive 15 = .ok (.aload_n 0, 1) := by decide +kernel
theorem dX7_arrive_16 : decode cX7_arrive 16 = .ok (.iload_n 2, 1) := by decide +kernel
theorem dX7_arrive_17 : decode cX7_arrive 17 = .ok (.putfield 24, 3) := by decide +kernel
theorem dX7_arrive_20 : decode cX7_arrive 20 = .ok (.aload_n 0, 1) := by decide +kernel
theorem dX7_arrive_21 : decode cX7_arrive 21 = .ok (.iconst 0, 1) := by decide +kernel
theorem dX7_arrive_22 : decode cX7_arrive 22 = .ok (.putfield 34, 3) := by decide +kernel
theorem dX7_arrive_25 : decode cX7_arrive 25 = .ok (.aload_n 0, 1) := by decide +kernel
theorem dX7_arrive_26 : decode cX7_arrive 26 = .ok (.invokevirtual 37, 3) := by decide +kernel
theorem dX7_arrive_29 : decode cX7_arrive 29 = .ok (.return_, 1) := by decide +kernel
theorem dX7_hasBond_0 : decode cX7_hasBond 0 = .ok (.aload_n 0, 1) := by decide +kernel
theorem dX7_hasBond_1 : decode cX7_hasBond 1 = .ok (.getfield 9, 3) := by decide +kernel
theorem dX7_hasBond_4 : decode cX7_hasBond 4 = .ok (.iconst (-1), 1) := by decide +kernel
theorem dX7_hasBond_5 : decode cX7_hasBond 5 = .ok (.if_icmp .eq 7, 3) := by decide +kernel
theorem dX7_hasBond_8 : decode cX7_hasBond 8 = .ok (.iconst 1, 1) := by decide +kernel
theorem dX7_hasBond_9 : decode cX7_hasBond 9 = .ok (.goto 4, 3) := by decide +kernel
theorem dX7_hasBond_12 : decode cX7_hasBond 12 = .ok (.iconst 0, 1) := by decide +kernel
theorem dX7_hasBond_13 : decode cX7_hasBond 13 = .ok (.ireturn, 1) := by decide +kernel
theorem dX7_takeBond_0 : decode cX7_takeBond 0 = .ok (.aload_n 0, 1) := by decide +kernel
theorem dX7_takeBond_1 : decode cX7_takeBond 1 = .ok (.iload_n 1, 1) := by decide +kernel
theorem dX7_takeBond_2 : decode cX7_takeBond 2 = .ok (.putfield 9, 3) := by decide +kernel
theorem dX7_takeBond_5 : decode cX7_takeBond 5 = .ok (.aload_n 0, 1) := by decide +kernel
theorem dX7_takeBond_6 : decode cX7_takeBond 6 = .ok (.iload_n 2, 1) := by decide +kernel
theorem dX7_takeBond_7 : decode cX7_takeBond 7 = .ok (.putfield 27, 3) := by decide +kernel
theorem dX7_takeBond_10 : decode cX7_takeBond 10 = .ok (.aload_n 0, 1) := by decide +kernel
theorem dX7_takeBond_11 : decode cX7_takeBond 11 = .ok (.iconst 0, 1) := by decide +kernel
theorem dX7_takeBond_12 : decode cX7_takeBond 12 = .ok (.putfield 30, 3) := by decide +kernel
theorem dX7_takeBond_15 : decode cX7_takeBond 15 = .ok (.return_, 1) := by decide +kernel
theorem dX7_endBond_0 : decode cX7_endBond 0 = .ok (.aload_n 0, 1) := by decide +kernel
theorem dX7_endBond_1 : decode cX7_endBond 1 = .ok (.iconst (-1), 1) := by decide +kernel
theorem dX7_endBond_2 : decode cX7_endBond 2 = .ok (.putfield 9, 3) := by decide +kernel
theorem dX7_endBond_5 : decode cX7_endBond 5 = .ok (.aload_n 0, 1) := by decide +kernel
theorem dX7_endBond_6 : decode cX7_endBond 6 = .ok (.iconst 0, 1) := by decide +kernel
theorem dX7_endBond_7 : decode cX7_endBond 7 = .ok (.putfield 27, 3) := by decide +kernel
theorem dX7_endBond_10 : decode cX7_endBond 10 = .ok (.aload_n 0, 1) := by decide +kernel
theorem dX7_endBond_11 : decode cX7_endBond 11 = .ok (.iconst 0, 1) := by decide +kernel
theorem dX7_endBond_12 : decode cX7_endBond 12 = .ok (.putfield 30, 3) := by decide +kernel
theorem dX7_endBond_15 : decode cX7_endBond 15 = .ok (.return_, 1) := by decide +kernel
theorem dX7_meetMinotaur_0 : decode cX7_meetMinotaur 0 = .ok (.aload_n 0, 1) := by decide +kernel
theorem dX7_meetMinotaur_1 : decode cX7_meetMinotaur 1 = .ok (.aload_n 0, 1) := by decide +kernel
theorem dX7_meetMinotaur_2 : decode cX7_meetMinotaur 2 = .ok (.invokevirtual 40, 3) := by decide +kernel
theorem dX7_meetMinotaur_5 : decode cX7_meetMinotaur 5 = .ok (.putfield 30, 3) := by decide +kernel
theorem dX7_meetMinotaur_8 : decode cX7_meetMinotaur 8 = .ok (.return_, 1) := by decide +kernel
theorem dX7_isIn_0 : decode cX7_isIn 0 = .ok (.aload_n 0, 1) := by decide +kernel
theorem dX7_isIn_1 : decode cX7_isIn 1 = .ok (.getfield 34, 3) := by decide +kernel
theorem dX7_isIn_4 : decode cX7_isIn 4 = .ok (.ifCond .ne 15, 3) := by decide +kernel
theorem dX7_isIn_7 : decode cX7_isIn 7 = .ok (.aload_n 0, 1) := by decide +kernel
theorem dX7_isIn_8 : decode cX7_isIn 8 = .ok (.getfield 18, 3) := by decide +kernel
theorem dX7_isIn_11 : decode cX7_isIn 11 = .ok (.iload_n 1, 1) := by decide +kernel
theorem dX7_isIn_12 : decode cX7_isIn 12 = .ok (.if_icmp .ne 7, 3) := by decide +kernel
theorem dX7_isIn_15 : decode cX7_isIn 15 = .ok (.iconst 1, 1) := by decide +kernel
theorem dX7_isIn_16 : decode cX7_isIn 16 = .ok (.goto 4, 3) := by decide +kernel
theorem dX7_isIn_19 : decode cX7_isIn 19 = .ok (.iconst 0, 1) := by decide +kernel
theorem dX7_isIn_20 : decode cX7_isIn 20 = .ok (.ireturn, 1) := by decide +kernel
theorem dX7_lostAfter_0 : decode cX7_lostAfter 0 = .ok (.iconst 0, 1) := by decide +kernel
theorem dX7_lostAfter_1 : decode cX7_lostAfter 1 = .ok (.aload_n 0, 1) := by decide +kernel
theorem dX7_lostAfter_2 : decode cX7_lostAfter 2 = .ok (.getfield 21, 3) := by decide +kernel
theorem dX7_lostAfter_5 : decode cX7_lostAfter 5 = .ok (.iload_n 1, 1) := by decide +kernel
theorem dX7_lostAfter_6 : decode cX7_lostAfter 6 = .ok (.iadd, 1) := by decide +kernel
theorem dX7_lostAfter_7 : decode cX7_lostAfter 7 = .ok (.aload_n 0, 1) := by decide +kernel
theorem dX7_lostAfter_8 : decode cX7_lostAfter 8 = .ok (.getfield 24, 3) := by decide +kernel
theorem dX7_lostAfter_11 : decode cX7_lostAfter 11 = .ok (.isub, 1) := by decide +kernel
theorem dX7_lostAfter_12 : decode cX7_lostAfter 12 = .ok (.invokestatic 44, 3) := by decide +kernel
theorem dX7_lostAfter_15 : decode cX7_lostAfter 15 = .ok (.ireturn, 1) := by decide +kernel
theorem dX7_dueAfter_0 : decode cX7_dueAfter 0 = .ok (.aload_n 0, 1) := by decide +kernel
theorem dX7_dueAfter_1 : decode cX7_dueAfter 1 = .ok (.getfield 30, 3) := by decide +kernel
theorem dX7_dueAfter_4 : decode cX7_dueAfter 4 = .ok (.ifCond .eq 7, 3) := by decide +kernel
theorem dX7_dueAfter_7 : decode cX7_dueAfter 7 = .ok (.iconst 0, 1) := by decide +kernel
theorem dX7_dueAfter_8 : decode cX7_dueAfter 8 = .ok (.goto 13, 3) := by decide +kernel
theorem dX7_dueAfter_11 : decode cX7_dueAfter 11 = .ok (.aload_n 0, 1) := by decide +kernel
theorem dX7_dueAfter_12 : decode cX7_dueAfter 12 = .ok (.getfield 27, 3) := by decide +kernel
theorem dX7_dueAfter_15 : decode cX7_dueAfter 15 = .ok (.aload_n 0, 1) := by decide +kernel
theorem dX7_dueAfter_16 : decode cX7_dueAfter 16 = .ok (.iload_n 1, 1) := by decide +kernel
theorem dX7_dueAfter_17 : decode cX7_dueAfter 17 = .ok (.invokevirtual 50, 3) := by decide +kernel
theorem dX7_dueAfter_20 : decode cX7_dueAfter 20 = .ok (.imul, 1) := by decide +kernel
theorem dX7_dueAfter_21 : decode cX7_dueAfter 21 = .ok (.ireturn, 1) := by decide +kernel
theorem dX7_numberFor_0 : decode cX7_numberFor 0 = .ok (.iload_n 1, 1) := by decide +kernel
theorem dX7_numberFor_1 : decode cX7_numberFor 1 = .ok (.tableswitch 96 0 7 #[47, 52, 57, 62, 67, 73, 78, 83], 47) := by decide +kernel
theorem dX7_numberFor_48 : decode cX7_numberFor 48 = .ok (.aload_n 0, 1) := by decide +kernel
theorem dX7_numberFor_49 : decode cX7_numberFor 49 = .ok (.getfield 15, 3) := by decide +kernel
theorem dX7_numberFor_52 : decode cX7_numberFor 52 = .ok (.ireturn, 1) := by decide +kernel
theorem dX7_numberFor_53 : decode cX7_numberFor 53 = .ok (.aload_n 0, 1) := by decide +kernel
theorem dX7_numberFor_54 : decode cX7_numberFor 54 = .ok (.getfield 18, 3) := by decide +kernel
theorem dX7_numberFor_57 : decode cX7_numberFor 57 = .ok (.ireturn, 1) := by decide +kernel
theorem dX7_numberFor_58 : decode cX7_numberFor 58 = .ok (.aload_n 0, 1) := by decide +kernel
theorem dX7_numberFor_59 : decode cX7_numberFor 59 = .ok (.getfield 21, 3) := by decide +kernel
theorem dX7_numberFor_62 : decode cX7_numberFor 62 = .ok (.ireturn, 1) := by decide +kernel
theorem dX7_numberFor_63 : decode cX7_numberFor 63 = .ok (.aload_n 0, 1) := by decide +kernel
theorem dX7_numberFor_64 : decode cX7_numberFor 64 = .ok (.getfield 24, 3) := by decide +kernel
theorem dX7_numberFor_67 : decode cX7_numberFor 67 = .ok (.ireturn, 1) := by decide +kernel
theorem dX7_numberFor_68 : decode cX7_numberFor 68 = .ok (.aload_n 0, 1) := by decide +kernel
theorem dX7_numberFor_69 : decode cX7_numberFor 69 = .ok (.iconst 0, 1) := by decide +kernel
theorem dX7_numberFor_70 : decode cX7_numberFor 70 = .ok (.invokevirtual 50, 3) := by decide +kernel
theorem dX7_numberFor_73 : decode cX7_numberFor 73 = .ok (.ireturn, 1) := by decide +kernel
theorem dX7_numberFor_74 : decode cX7_numberFor 74 = .ok (.aload_n 0, 1) := by decide +kernel
theorem dX7_numberFor_75 : decode cX7_numberFor 75 = .ok (.getfield 9, 3) := by decide +kernel
theorem dX7_numberFor_78 : decode cX7_numberFor 78 = .ok (.ireturn, 1) := by decide +kernel
theorem dX7_numberFor_79 : decode cX7_numberFor 79 = .ok (.aload_n 0, 1) := by decide +kernel
theorem dX7_numberFor_80 : decode cX7_numberFor 80 = .ok (.getfield 27, 3) := by decide +kernel
theorem dX7_numberFor_83 : decode cX7_numberFor 83 = .ok (.ireturn, 1) := by decide +kernel
theorem dX7_numberFor_84 : decode cX7_numberFor 84 = .ok (.aload_n 0, 1) := by decide +kernel
theorem dX7_numberFor_85 : decode cX7_numberFor 85 = .ok (.getfield 30, 3) := by decide +kernel
theorem dX7_numberFor_88 : decode cX7_numberFor 88 = .ok (.ifCond .eq 7, 3) := by decide +kernel
theorem dX7_numberFor_91 : decode cX7_numberFor 91 = .ok (.iconst 1, 1) := by decide +kernel
theorem dX7_numberFor_92 : decode cX7_numberFor 92 = .ok (.goto 4, 3) := by decide +kernel
theorem dX7_numberFor_95 : decode cX7_numberFor 95 = .ok (.iconst 0, 1) := by decide +kernel
theorem dX7_numberFor_96 : decode cX7_numberFor 96 = .ok (.ireturn, 1) := by decide +kernel
theorem dX7_numberFor_97 : decode cX7_numberFor 97 = .ok (.aload_n 0, 1) := by decide +kernel
theorem dX7_numberFor_98 : decode cX7_numberFor 98 = .ok (.getfield 34, 3) := by decide +kernel
theorem dX7_numberFor_101 : decode cX7_numberFor 101 = .ok (.ifCond .eq 7, 3) := by decide +kernel
theorem dX7_numberFor_104 : decode cX7_numberFor 104 = .ok (.iconst 1, 1) := by decide +kernel
theorem dX7_numberFor_105 : decode cX7_numberFor 105 = .ok (.goto 4, 3) := by decide +kernel
theorem dX7_numberFor_108 : decode cX7_numberFor 108 = .ok (.iconst 0, 1) := by decide +kernel
theorem dX7_numberFor_109 : decode cX7_numberFor 109 = .ok (.ireturn, 1) := by decide +kernel
theorem dX8_init_0 : decode cX8_init 0 = .ok (.aload_n 0, 1) := by decide +kernel
theorem dX8_init_1 : decode cX8_init 1 = .ok (.invokespecial 3, 3) := by decide +kernel
theorem dX8_init_4 : decode cX8_init 4 = .ok (.aload_n 0, 1) := by decide +kernel
theorem dX8_init_5 : decode cX8_init 5 = .ok (.aload_n 1, 1) := by decide +kernel
theorem dX8_init_6 : decode cX8_init 6 = .ok (.putfield 9, 3) := by decide +kernel
theorem dX8_init_9 : decode cX8_init 9 = .ok (.aload_n 0, 1) := by decide +kernel
theorem dX8_init_10 : decode cX8_init 10 = .ok (.bipush 16, 2) := by decide +kernel
theorem dX8_init_12 : decode cX8_init 12 = .ok (.newarray .int, 2) := by decide +kernel
theorem dX8_init_14 : decode cX8_init 14 = .ok (.putfield 15, 3) := by decide +kernel
theorem dX8_init_17 : decode cX8_init 17 = .ok (.aload_n 0, 1) := by decide +kernel
theorem dX8_init_18 : decode cX8_init 18 = .ok (.bipush 16, 2) := by decide +kernel
theorem dX8_init_20 : decode cX8_init 20 = .ok (.newarray .int, 2) := by decide +kernel
theorem dX8_init_22 : decode cX8_init 22 = .ok (.putfield 19, 3) := by decide +kernel
theorem dX8_init_25 : decode cX8_init 25 = .ok (.return_, 1) := by decide +kernel
theorem dX8_hoursByDistance_0 : decode cX8_hoursByDistance 0 = .ok (.aload_n 0, 1) := by decide +kernel
theorem dX8_hoursByDistance_1 : decode cX8_hoursByDistance 1 = .ok (.iload_n 1, 1) := by decide +kernel
theorem dX8_hoursByDistance_2 : decode cX8_hoursByDistance 2 = .ok (.invokevirtual 22, 3) := by decide +kernel
theorem dX8_hoursByDistance_5 : decode cX8_hoursByDistance 5 = .ok (.aload_n 0, 1) := by decide +kernel
theorem dX8_hoursByDistance_6 : decode cX8_hoursByDistance 6 = .ok (.iload_n 2, 1) := by decide +kernel
theorem dX8_hoursByDistance_7 : decode cX8_hoursByDistance 7 = .ok (.invokevirtual 26, 3) := by decide +kernel
theorem dX8_hoursByDistance_10 : decode cX8_hoursByDistance 10 = .ok (.ireturn, 1) := by decide +kernel
theorem dX8_hoursByNeighbours_0 : decode cX8_hoursByNeighbours 0 = .ok (.aload_n 0, 1) := by decide +kernel
theorem dX8_hoursByNeighbours_1 : decode cX8_hoursByNeighbours 1 = .ok (.iload_n 1, 1) := by decide +kernel
theorem dX8_hoursByNeighbours_2 : decode cX8_hoursByNeighbours 2 = .ok (.iconst 1, 1) := by decide +kernel
theorem dX8_hoursByNeighbours_3 : decode cX8_hoursByNeighbours 3 = .ok (.sipush 1000, 3) := by decide +kernel
theorem dX8_hoursByNeighbours_6 : decode cX8_hoursByNeighbours 6 = .ok (.invokevirtual 30, 3) := by decide +kernel
theorem dX8_hoursByNeighbours_9 : decode cX8_hoursByNeighbours 9 = .ok (.aload_n 0, 1) := by decide +kernel
theorem dX8_hoursByNeighbours_10 : decode cX8_hoursByNeighbours 10 = .ok (.iload_n 2, 1) := by decide +kernel
theorem dX8_hoursByNeighbours_11 : decode cX8_hoursByNeighbours 11 = .ok (.invokevirtual 26, 3) := by decide +kernel
theorem dX8_hoursByNeighbours_14 : decode cX8_hoursByNeighbours 14 = .ok (.ireturn, 1) := by decide +kernel
theorem dX8_trimsByNeighbours_0 : decode cX8_trimsByNeighbours 0 = .ok (.aload_n 0, 1) := by decide +kernel
theorem dX8_trimsByNeighbours_1 : decode cX8_trimsByNeighbours 1 = .ok (.iload_n 1, 1) := by decide +kernel
theorem dX8_trimsByNeighbours_2 : decode cX8_trimsByNeighbours 2 = .ok (.iconst 0, 1) := by decide +kernel
theorem dX8_trimsByNeighbours_3 : decode cX8_trimsByNeighbours 3 = .ok (.iconst 1, 1) := by decide +kernel
theorem dX8_trimsByNeighbours_4 : decode cX8_trimsByNeighbours 4 = .ok (.invokevirtual 30, 3) := by decide +kernel
theorem dX8_trimsByNeighbours_7 : decode cX8_trimsByNeighbours 7 = .ok (.aload_n 0, 1) := by decide +kernel
theorem dX8_trimsByNeighbours_8 : decode cX8_trimsByNeighbours 8 = .ok (.bipush 15, 2) := by decide +kernel
theorem dX8_trimsByNeighbours_10 : decode cX8_trimsByNeighbours 10 = .ok (.invokevirtual 26, 3) := by decide +kernel
theorem dX8_trimsByNeighbours_13 : decode cX8_trimsByNeighbours 13 = .ok (.ireturn, 1) := by decide +kernel
theorem dX8_distanceOf_0 : decode cX8_distanceOf 0 = .ok (.iload_n 1, 1) := by decide +kernel
theorem dX8_distanceOf_1 : decode cX8_distanceOf 1 = .ok (.invokestatic 34, 3) := by decide +kernel
theorem dX8_distanceOf_4 : decode cX8_distanceOf 4 = .ok (.ifCond .eq 12, 3) := by decide +kernel
theorem dX8_distanceOf_7 : decode cX8_distanceOf 7 = .ok (.aload_n 0, 1) := by decide +kernel
theorem dX8_distanceOf_8 : decode cX8_distanceOf 8 = .ok (.getfield 15, 3) := by decide +kernel
theorem dX8_distanceOf_11 : decode cX8_distanceOf 11 = .ok (.iload_n 1, 1) := by decide +kernel
theorem dX8_distanceOf_12 : decode cX8_distanceOf 12 = .ok (.iaload, 1) := by decide +kernel
theorem dX8_distanceOf_13 : decode cX8_distanceOf 13 = .ok (.goto 6, 3) := by decide +kernel
theorem dX8_distanceOf_16 : decode cX8_distanceOf 16 = .ok (.sipush 1000, 3) := by decide +kernel
theorem dX8_distanceOf_19 : decode cX8_distanceOf 19 = .ok (.ireturn, 1) := by decide +kernel
theorem dX8_startFrom_0 : decode cX8_startFrom 0 = .ok (.aload_n 0, 1) := by decide +kernel
theorem dX8_startFrom_1 : decode cX8_startFrom 1 = .ok (.getfield 15, 3) := by decide +kernel
theorem dX8_startFrom_4 : decode cX8_startFrom 4 = .ok (.sipush 1000, 3) := by decide +kernel
theorem dX8_startFrom_7 : decode cX8_startFrom 7 = .ok (.invokestatic 40, 3) := by decide +kernel
theorem dX8_startFrom_10 : decode cX8_startFrom 10 = .ok (.iload_n 1, 1) := by decide +kernel
theorem dX8_startFrom_11 : decode cX8_startFrom 11 = .ok (.invokestatic 34, 3) := by decide +kernel
theorem dX8_startFrom_14 : decode cX8_startFrom 14 = .ok (.ifCond .eq 10, 3) := by decide +kernel
theorem dX8_startFrom_17 : decode cX8_startFrom 17 = .ok (.aload_n 0, 1) := by decide +kernel
theorem dX8_startFrom_18 : decode cX8_startFrom 18 = .ok (.getfield 15, 3) := by decide +kernel
theorem dX8_startFrom_21 : decode cX8_startFrom 21 = .ok (.iload_n 1, 1) := by decide +kernel
theorem dX8_startFrom_22 : decode cX8_startFrom 22 = .ok (.iconst 0, 1) := by decide +kernel
theorem dX8_startFrom_23 : decode cX8_startFrom 23 = .ok (.iastore, 1) := by decide +kernel
theorem dX8_startFrom_24 : decode cX8_startFrom 24 = .ok (.return_, 1) := by decide +kernel
theorem dX8_measureFrom_0 : decode cX8_measureFrom 0 = .ok (.aload_n 0, 1) := by decide +kernel
theorem dX8_measureFrom_1 : decode cX8_measureFrom 1 = .ok (.iload_n 1, 1) := by decide +kernel
theorem dX8_measureFrom_2 : decode cX8_measureFrom 2 = .ok (.invokevirtual 46, 3) := by decide +kernel
theorem dX8_measureFrom_5 : decode cX8_measureFrom 5 = .ok (.aload_n 0, 1) := by decide +kernel
theorem dX8_measureFrom_6 : decode cX8_measureFrom 6 = .ok (.getfield 19, 3) := by decide +kernel
theorem dX8_measureFrom_9 : decode cX8_measureFrom 9 = .ok (.iconst 0, 1) := by decide +kernel
theorem dX8_measureFrom_10 : decode cX8_measureFrom 10 = .ok (.iload_n 1, 1) := by decide +kernel
theorem dX8_measureFrom_11 : decode cX8_measureFrom 11 = .ok (.iastore, 1) := by decide +kernel
theorem dX8_measureFrom_12 : decode cX8_measureFrom 12 = .ok (.iconst 1, 1) := by decide +kernel
theorem dX8_measureFrom_13 : decode cX8_measureFrom 13 = .ok (.istore_n 2, 1) := by decide +kernel
theorem dX8_measureFrom_14 : decode cX8_measureFrom 14 = .ok (.iconst 0, 1) := by decide +kernel
theorem dX8_measureFrom_15 : decode cX8_measureFrom 15 = .ok (.istore_n 3, 1) := by decide +kernel
theorem dX8_measureFrom_16 : decode cX8_measureFrom 16 = .ok (.iload_n 3, 1) := by decide +kernel
theorem dX8_measureFrom_17 : decode cX8_measureFrom 17 = .ok (.iload_n 2, 1) := by decide +kernel
theorem dX8_measureFrom_18 : decode cX8_measureFrom 18 = .ok (.if_icmp .ge 125, 3) := by decide +kernel
theorem dX8_measureFrom_21 : decode cX8_measureFrom 21 = .ok (.iload_n 3, 1) := by decide +kernel
theorem dX8_measureFrom_22 : decode cX8_measureFrom 22 = .ok (.bipush 16, 2) := by decide +kernel
theorem dX8_measureFrom_24 : decode cX8_measureFrom 24 = .ok (.if_icmp .ge 119, 3) := by decide +kernel
theorem dX8_measureFrom_27 : decode cX8_measureFrom 27 = .ok (.aload_n 0, 1) := by decide +kernel
theorem dX8_measureFrom_28 : decode cX8_measureFrom 28 = .ok (.getfield 19, 3) := by decide +kernel
theorem dX8_measureFrom_31 : decode cX8_measureFrom 31 = .ok (.iload_n 3, 1) := by decide +kernel
theorem dX8_measureFrom_32 : decode cX8_measureFrom 32 = .ok (.iaload, 1) := by decide +kernel
theorem dX8_measureFrom_33 : decode cX8_measureFrom 33 = .ok (.istore 4, 2) := by decide +kernel
theorem dX8_measureFrom_35 : decode cX8_measureFrom 35 = .ok (.iconst 0, 1) := by decide +kernel
theorem dX8_measureFrom_36 : decode cX8_measureFrom 36 = .ok (.istore 5, 2) := by decide +kernel
theorem dX8_measureFrom_38 : decode cX8_measureFrom 38 = .ok (.iload 5, 2) := by decide +kernel
theorem dX8_measureFrom_40 : decode cX8_measureFrom 40 = .ok (.bipush 24, 2) := by decide +kernel
theorem dX8_measureFrom_42 : decode cX8_measureFrom 42 = .ok (.if_icmp .ge 95, 3) := by decide +kernel
theorem dX8_measureFrom_45 : decode cX8_measureFrom 45 = .ok (.iload 5, 2) := by decide +kernel
theorem dX8_measureFrom_47 : decode cX8_measureFrom 47 = .ok (.iload 4, 2) := by decide +kernel
theorem dX8_measureFrom_49 : decode cX8_measureFrom 49 = .ok (.invokestatic 49, 3) := by decide +kernel
theorem dX8_measureFrom_52 : decode cX8_measureFrom 52 = .ok (.istore 6, 2) := by decide +kernel
theorem dX8_measureFrom_54 : decode cX8_measureFrom 54 = .ok (.iload 6, 2) := by decide +kernel
theorem dX8_measureFrom_56 : decode cX8_measureFrom 56 = .ok (.invokestatic 34, 3) := by decide +kernel
theorem dX8_measureFrom_59 : decode cX8_measureFrom 59 = .ok (.ifCond .eq 32, 3) := by decide +kernel
theorem dX8_measureFrom_62 : decode cX8_measureFrom 62 = .ok (.aload_n 0, 1) := by decide +kernel
theorem dX8_measureFrom_63 : decode cX8_measureFrom 63 = .ok (.getfield 9, 3) := by decide +kernel
theorem dX8_measureFrom_66 : decode cX8_measureFrom 66 = .ok (.iload 5, 2) := by decide +kernel
theorem dX8_measureFrom_68 : decode cX8_measureFrom 68 = .ok (.invokevirtual 53, 3) := by decide +kernel
theorem dX8_measureFrom_71 : decode cX8_measureFrom 71 = .ok (.ifCond .eq 20, 3) := by decide +kernel
theorem dX8_measureFrom_74 : decode cX8_measureFrom 74 = .ok (.aload_n 0, 1) := by decide +kernel
theorem dX8_measureFrom_75 : decode cX8_measureFrom 75 = .ok (.getfield 15, 3) := by decide +kernel
theorem dX8_measureFrom_78 : decode cX8_measureFrom 78 = .ok (.iload 6, 2) := by decide +kernel
theorem dX8_measureFrom_80 : decode cX8_measureFrom 80 = .ok (.iaload, 1) := by decide +kernel
theorem dX8_measureFrom_81 : decode cX8_measureFrom 81 = .ok (.sipush 1000, 3) := by decide +kernel
theorem dX8_measureFrom_84 : decode cX8_measureFrom 84 = .ok (.if_icmp .ne 7, 3) := by decide +kernel
theorem dX8_measureFrom_87 : decode cX8_measureFrom 87 = .ok (.iconst 1, 1) := by decide +kernel
theorem dX8_measureFrom_88 : decode cX8_measureFrom 88 = .ok (.goto 4, 3) := by decide +kernel
theorem dX8_measureFrom_91 : decode cX8_measureFrom 91 = .ok (.iconst 0, 1) := by decide +kernel
theorem dX8_measureFrom_92 : decode cX8_measureFrom 92 = .ok (.istore 7, 2) := by decide +kernel
theorem dX8_measureFrom_94 : decode cX8_measureFrom 94 = .ok (.iload 7, 2) := by decide +kernel
theorem dX8_measureFrom_96 : decode cX8_measureFrom 96 = .ok (.ifCond .eq 35, 3) := by decide +kernel
theorem dX8_measureFrom_99 : decode cX8_measureFrom 99 = .ok (.iload_n 2, 1) := by decide +kernel
theorem dX8_measureFrom_100 : decode cX8_measureFrom 100 = .ok (.bipush 16, 2) := by decide +kernel
theorem dX8_measureFrom_102 : decode cX8_measureFrom 102 = .ok (.if_icmp .ge 29, 3) := by decide +kernel
theorem dX8_measureFrom_105 : decode cX8_measureFrom 105 = .ok (.aload_n 0, 1) := by decide +kernel
theorem dX8_measureFrom_106 : decode cX8_measureFrom 106 = .ok (.getfield 15, 3) := by decide +kernel
theorem dX8_measureFrom_109 : decode cX8_measureFrom 109 = .ok (.iload 6, 2) := by decide +kernel
theorem dX8_measureFrom_111 : decode cX8_measureFrom 111 = .ok (.aload_n 0, 1) := by decide +kernel
theorem dX8_measureFrom_112 : decode cX8_measureFrom 112 = .ok (.iload 4, 2) := by decide +kernel
theorem dX8_measureFrom_114 : decode cX8_measureFrom 114 = .ok (.invokevirtual 26, 3) := by decide +kernel
theorem dX8_measureFrom_117 : decode cX8_measureFrom 117 = .ok (.iconst 1, 1) := by decide +kernel
theorem dX8_measureFrom_118 : decode cX8_measureFrom 118 = .ok (.iadd, 1) := by decide +kernel
theorem dX8_measureFrom_119 : decode cX8_measureFrom 119 = .ok (.iastore, 1) := by decide +kernel
theorem dX8_measureFrom_120 : decode cX8_measureFrom 120 = .ok (.aload_n 0, 1) := by decide +kernel
theorem dX8_measureFrom_121 : decode cX8_measureFrom 121 = .ok (.getfield 19, 3) := by decide +kernel
theorem dX8_measureFrom_124 : decode cX8_measureFrom 124 = .ok (.iload_n 2, 1) := by decide +kernel
theorem dX8_measureFrom_125 : decode cX8_measureFrom 125 = .ok (.iload 6, 2) := by decide +kernel
theorem dX8_measureFrom_127 : decode cX8_measureFrom 127 = .ok (.iastore, 1) := by decide +kernel
theorem dX8_measureFrom_128 : decode cX8_measureFrom 128 = .ok (.iinc 2 1, 3) := by decide +kernel
theorem dX8_measureFrom_131 : decode cX8_measureFrom 131 = .ok (.iinc 5 1, 3) := by decide +kernel
theorem dX8_measureFrom_134 : decode cX8_measureFrom 134 = .ok (.goto (-96), 3) := by decide +kernel
theorem dX8_measureFrom_137 : decode cX8_measureFrom 137 = .ok (.iinc 3 1, 3) := by decide +kernel
theorem dX8_measureFrom_140 : decode cX8_measureFrom 140 = .ok (.goto (-124), 3) := by decide +kernel
theorem dX8_measureFrom_143 : decode cX8_measureFrom 143 = .ok (.return_, 1) := by decide +kernel
theorem dX8_relaxFrom_0 : decode cX8_relaxFrom 0 = .ok (.aload_n 0, 1) := by decide +kernel
theorem dX8_relaxFrom_1 : decode cX8_relaxFrom 1 = .ok (.iload_n 1, 1) := by decide +kernel
theorem dX8_relaxFrom_2 : decode cX8_relaxFrom 2 = .ok (.invokevirtual 46, 3) := by decide +kernel
theorem dX8_relaxFrom_5 : decode cX8_relaxFrom 5 = .ok (.iconst 1, 1) := by decide +kernel
theorem dX8_relaxFrom_6 : decode cX8_relaxFrom 6 = .ok (.istore 4, 2) := by decide +kernel
theorem dX8_relaxFrom_8 : decode cX8_relaxFrom 8 = .ok (.iconst 0, 1) := by decide +kernel
theorem dX8_relaxFrom_9 : decode cX8_relaxFrom 9 = .ok (.istore 5, 2) := by decide +kernel
theorem dX8_relaxFrom_11 : decode cX8_relaxFrom 11 = .ok (.iload 5, 2) := by decide +kernel
theorem dX8_relaxFrom_13 : decode cX8_relaxFrom 13 = .ok (.bipush 16, 2) := by decide +kernel
theorem dX8_relaxFrom_15 : decode cX8_relaxFrom 15 = .ok (.if_icmp .ge 114, 3) := by decide +kernel
theorem dX8_relaxFrom_18 : decode cX8_relaxFrom 18 = .ok (.iload 4, 2) := by decide +kernel
theorem dX8_relaxFrom_20 : decode cX8_relaxFrom 20 = .ok (.ifCond .eq 109, 3) := by decide +kernel
theorem dX8_relaxFrom_23 : decode cX8_relaxFrom 23 = .ok (.iconst 0, 1) := by decide +kernel
theorem dX8_relaxFrom_24 : decode cX8_relaxFrom 24 = .ok (.istore 4, 2) := by decide +kernel
theorem dX8_relaxFrom_26 : decode cX8_relaxFrom 26 = .ok (.iconst 0, 1) := by decide +kernel
theorem dX8_relaxFrom_27 : decode cX8_relaxFrom 27 = .ok (.istore 6, 2) := by decide +kernel
theorem dX8_relaxFrom_29 : decode cX8_relaxFrom 29 = .ok (.iload 6, 2) := by decide +kernel
theorem dX8_relaxFrom_31 : decode cX8_relaxFrom 31 = .ok (.bipush 24, 2) := by decide +kernel
theorem dX8_relaxFrom_33 : decode cX8_relaxFrom 33 = .ok (.if_icmp .ge 90, 3) := by decide +kernel
theorem dX8_relaxFrom_36 : decode cX8_relaxFrom 36 = .ok (.aload_n 0, 1) := by decide +kernel
theorem dX8_relaxFrom_37 : decode cX8_relaxFrom 37 = .ok (.getfield 9, 3) := by decide +kernel
theorem dX8_relaxFrom_40 : decode cX8_relaxFrom 40 = .ok (.iload 6, 2) := by decide +kernel
theorem dX8_relaxFrom_42 : decode cX8_relaxFrom 42 = .ok (.invokevirtual 53, 3) := by decide +kernel
theorem dX8_relaxFrom_45 : decode cX8_relaxFrom 45 = .ok (.ifCond .eq 7, 3) := by decide +kernel
theorem dX8_relaxFrom_48 : decode cX8_relaxFrom 48 = .ok (.iload_n 2, 1) := by decide +kernel
theorem dX8_relaxFrom_49 : decode cX8_relaxFrom 49 = .ok (.goto 4, 3) := by decide +kernel
theorem dX8_relaxFrom_52 : decode cX8_relaxFrom 52 = .ok (.iload_n 3, 1) := by decide +kernel
theorem dX8_relaxFrom_53 : decode cX8_relaxFrom 53 = .ok (.istore 7, 2) := by decide +kernel
theorem dX8_relaxFrom_55 : decode cX8_relaxFrom 55 = .ok (.aload_n 0, 1) := by decide +kernel
theorem dX8_relaxFrom_56 : decode cX8_relaxFrom 56 = .ok (.getstatic 56, 3) := by decide +kernel
theorem dX8_relaxFrom_59 : decode cX8_relaxFrom 59 = .ok (.iload 6, 2) := by decide +kernel
theorem dX8_relaxFrom_61 : decode cX8_relaxFrom 61 = .ok (.iaload, 1) := by decide +kernel
theorem dX8_relaxFrom_62 : decode cX8_relaxFrom 62 = .ok (.getstatic 59, 3) := by decide +kernel
theorem dX8_relaxFrom_65 : decode cX8_relaxFrom 65 = .ok (.iload 6, 2) := by decide +kernel
theorem dX8_relaxFrom_67 : decode cX8_relaxFrom 67 = .ok (.iaload, 1) := by decide +kernel
theorem dX8_relaxFrom_68 : decode cX8_relaxFrom 68 = .ok (.iload 7, 2) := by decide +kernel
theorem dX8_relaxFrom_70 : decode cX8_relaxFrom 70 = .ok (.invokevirtual 62, 3) := by decide +kernel
theorem dX8_relaxFrom_73 : decode cX8_relaxFrom 73 = .ok (.istore 8, 2) := by decide +kernel
theorem dX8_relaxFrom_75 : decode cX8_relaxFrom 75 = .ok (.aload_n 0, 1) := by decide +kernel
theorem dX8_relaxFrom_76 : decode cX8_relaxFrom 76 = .ok (.getstatic 59, 3) := by decide +kernel
theorem dX8_relaxFrom_79 : decode cX8_relaxFrom 79 = .ok (.iload 6, 2) := by decide +kernel
theorem dX8_relaxFrom_81 : decode cX8_relaxFrom 81 = .ok (.iaload, 1) := by decide +kernel
theorem dX8_relaxFrom_82 : decode cX8_relaxFrom 82 = .ok (.getstatic 56, 3) := by decide +kernel
theorem dX8_relaxFrom_85 : decode cX8_relaxFrom 85 = .ok (.iload 6, 2) := by decide +kernel
theorem dX8_relaxFrom_87 : decode cX8_relaxFrom 87 = .ok (.iaload, 1) := by decide +kernel
theorem dX8_relaxFrom_88 : decode cX8_relaxFrom 88 = .ok (.iload 7, 2) := by decide +kernel
theorem dX8_relaxFrom_90 : decode cX8_relaxFrom 90 = .ok (.invokevirtual 62, 3) := by decide +kernel
theorem dX8_relaxFrom_93 : decode cX8_relaxFrom 93 = .ok (.istore 9, 2) := by decide +kernel
theorem dX8_relaxFrom_95 : decode cX8_relaxFrom 95 = .ok (.iload 4, 2) := by decide +kernel
theorem dX8_relaxFrom_97 : decode cX8_relaxFrom 97 = .ok (.ifCond .ne 13, 3) := by decide +kernel
theorem dX8_relaxFrom_100 : decode cX8_relaxFrom 100 = .ok (.iload 8, 2) := by decide +kernel
theorem dX8_relaxFrom_102 : decode cX8_relaxFrom 102 = .ok (.ifCond .ne 8, 3) := by decide +kernel
theorem dX8_relaxFrom_105 : decode cX8_relaxFrom 105 = .ok (.iload 9, 2) := by decide +kernel
theorem dX8_relaxFrom_107 : decode cX8_relaxFrom 107 = .ok (.ifCond .eq 7, 3) := by decide +kernel
theorem dX8_relaxFrom_110 : decode cX8_relaxFrom 110 = .ok (.iconst 1, 1) := by decide +kernel
theorem dX8_relaxFrom_111 : decode cX8_relaxFrom 111 = .ok (.goto 4, 3) := by decide +kernel
theorem dX8_relaxFrom_114 : decode cX8_relaxFrom 114 = .ok (.iconst 0, 1) := by decide +kernel
theorem dX8_relaxFrom_115 : decode cX8_relaxFrom 115 = .ok (.istore 4, 2) := by decide +kernel
theorem dX8_relaxFrom_117 : decode cX8_relaxFrom 117 = .ok (.iinc 6 1, 3) := by decide +kernel
theorem dX8_relaxFrom_120 : decode cX8_relaxFrom 120 = .ok (.goto (-91), 3) := by decide +kernel
theorem dX8_relaxFrom_123 : decode cX8_relaxFrom 123 = .ok (.iinc 5 1, 3) := by decide +kernel
theorem dX8_relaxFrom_126 : decode cX8_relaxFrom 126 = .ok (.goto (-115), 3) := by decide +kernel
theorem dX8_relaxFrom_129 : decode cX8_relaxFrom 129 = .ok (.return_, 1) := by decide +kernel
theorem dX8_lower_0 : decode cX8_lower 0 = .ok (.aload_n 0, 1) := by decide +kernel
theorem dX8_lower_1 : decode cX8_lower 1 = .ok (.iload_n 2, 1) := by decide +kernel
theorem dX8_lower_2 : decode cX8_lower 2 = .ok (.invokevirtual 26, 3) := by decide +kernel
theorem dX8_lower_5 : decode cX8_lower 5 = .ok (.iload_n 3, 1) := by decide +kernel
theorem dX8_lower_6 : decode cX8_lower 6 = .ok (.iadd, 1) := by decide +kernel
theorem dX8_lower_7 : decode cX8_lower 7 = .ok (.istore 4, 2) := by decide +kernel
theorem dX8_lower_9 : decode cX8_lower 9 = .ok (.iload_n 1, 1) := by decide +kernel
theorem dX8_lower_10 : decode cX8_lower 10 = .ok (.invokestatic 34, 3) := by decide +kernel
theorem dX8_lower_13 : decode cX8_lower 13 = .ok (.ifCond .eq 14, 3) := by decide +kernel
theorem dX8_lower_16 : decode cX8_lower 16 = .ok (.iload 4, 2) := by decide +kernel
theorem dX8_lower_18 : decode cX8_lower 18 = .ok (.aload_n 0, 1) := by decide +kernel
theorem dX8_lower_19 : decode cX8_lower 19 = .ok (.getfield 15, 3) := by decide +kernel
theorem dX8_lower_22 : decode cX8_lower 22 = .ok (.iload_n 1, 1) := by decide +kernel
theorem dX8_lower_23 : decode cX8_lower 23 = .ok (.iaload, 1) := by decide +kernel
theorem dX8_lower_24 : decode cX8_lower 24 = .ok (.if_icmp .lt 5, 3) := by decide +kernel
theorem dX8_lower_27 : decode cX8_lower 27 = .ok (.iconst 0, 1) := by decide +kernel
theorem dX8_lower_28 : decode cX8_lower 28 = .ok (.ireturn, 1) := by decide +kernel
theorem dX8_lower_29 : decode cX8_lower 29 = .ok (.aload_n 0, 1) := by decide +kernel
theorem dX8_lower_30 : decode cX8_lower 30 = .ok (.getfield 15, 3) := by decide +kernel
theorem dX8_lower_33 : decode cX8_lower 33 = .ok (.iload_n 1, 1) := by decide +kernel
theorem dX8_lower_34 : decode cX8_lower 34 = .ok (.iload 4, 2) := by decide +kernel
theorem dX8_lower_36 : decode cX8_lower 36 = .ok (.iastore, 1) := by decide +kernel
theorem dX8_lower_37 : decode cX8_lower 37 = .ok (.iconst 1, 1) := by decide +kernel
theorem dX8_lower_38 : decode cX8_lower 38 = .ok (.ireturn, 1) := by decide +kernel
theorem dX8_stepToExit_0 : decode cX8_stepToExit 0 = .ok (.aload_n 0, 1) := by decide +kernel
theorem dX8_stepToExit_1 : decode cX8_stepToExit 1 = .ok (.bipush 15, 2) := by decide +kernel
theorem dX8_stepToExit_3 : decode cX8_stepToExit 3 = .ok (.invokevirtual 22, 3) := by decide +kernel
theorem dX8_stepToExit_6 : decode cX8_stepToExit 6 = .ok (.aload_n 0, 1) := by decide +kernel
theorem dX8_stepToExit_7 : decode cX8_stepToExit 7 = .ok (.iload_n 1, 1) := by decide +kernel
theorem dX8_stepToExit_8 : decode cX8_stepToExit 8 = .ok (.invokevirtual 26, 3) := by decide +kernel
theorem dX8_stepToExit_11 : decode cX8_stepToExit 11 = .ok (.istore_n 2, 1) := by decide +kernel
theorem dX8_stepToExit_12 : decode cX8_stepToExit 12 = .ok (.iconst (-1), 1) := by decide +kernel
theorem dX8_stepToExit_13 : decode cX8_stepToExit 13 = .ok (.istore_n 3, 1) := by decide +kernel
theorem dX8_stepToExit_14 : decode cX8_stepToExit 14 = .ok (.iload_n 2, 1) := by decide +kernel
theorem dX8_stepToExit_15 : decode cX8_stepToExit 15 = .ok (.sipush 1000, 3) := by decide +kernel
theorem dX8_stepToExit_18 : decode cX8_stepToExit 18 = .ok (.if_icmp .ne 5, 3) := by decide +kernel
theorem dX8_stepToExit_21 : decode cX8_stepToExit 21 = .ok (.iload_n 3, 1) := by decide +kernel
theorem dX8_stepToExit_22 : decode cX8_stepToExit 22 = .ok (.ireturn, 1) := by decide +kernel
theorem dX8_stepToExit_23 : decode cX8_stepToExit 23 = .ok (.iconst 0, 1) := by decide +kernel
theorem dX8_stepToExit_24 : decode cX8_stepToExit 24 = .ok (.istore 4, 2) := by decide +kernel
theorem dX8_stepToExit_26 : decode cX8_stepToExit 26 = .ok (.iload 4, 2) := by decide +kernel
theorem dX8_stepToExit_28 : decode cX8_stepToExit 28 = .ok (.bipush 24, 2) := by decide +kernel
theorem dX8_stepToExit_30 : decode cX8_stepToExit 30 = .ok (.if_icmp .ge 73, 3) := by decide +kernel
theorem dX8_stepToExit_33 : decode cX8_stepToExit 33 = .ok (.iload 4, 2) := by decide +kernel
theorem dX8_stepToExit_35 : decode cX8_stepToExit 35 = .ok (.iload_n 1, 1) := by decide +kernel
theorem dX8_stepToExit_36 : decode cX8_stepToExit 36 = .ok (.invokestatic 49, 3) := by decide +kernel
theorem dX8_stepToExit_39 : decode cX8_stepToExit 39 = .ok (.istore 5, 2) := by decide +kernel
theorem dX8_stepToExit_41 : decode cX8_stepToExit 41 = .ok (.iload 5, 2) := by decide +kernel
theorem dX8_stepToExit_43 : decode cX8_stepToExit 43 = .ok (.iconst (-1), 1) := by decide +kernel
theorem dX8_stepToExit_44 : decode cX8_stepToExit 44 = .ok (.if_icmp .eq 31, 3) := by decide +kernel
theorem dX8_stepToExit_47 : decode cX8_stepToExit 47 = .ok (.aload_n 0, 1) := by decide +kernel
theorem dX8_stepToExit_48 : decode cX8_stepToExit 48 = .ok (.getfield 9, 3) := by decide +kernel
theorem dX8_stepToExit_51 : decode cX8_stepToExit 51 = .ok (.iload 4, 2) := by decide +kernel
theorem dX8_stepToExit_53 : decode cX8_stepToExit 53 = .ok (.invokevirtual 53, 3) := by decide +kernel
theorem dX8_stepToExit_56 : decode cX8_stepToExit 56 = .ok (.ifCond .eq 19, 3) := by decide +kernel
theorem dX8_stepToExit_59 : decode cX8_stepToExit 59 = .ok (.aload_n 0, 1) := by decide +kernel
theorem dX8_stepToExit_60 : decode cX8_stepToExit 60 = .ok (.iload 5, 2) := by decide +kernel
theorem dX8_stepToExit_62 : decode cX8_stepToExit 62 = .ok (.invokevirtual 26, 3) := by decide +kernel
theorem dX8_stepToExit_65 : decode cX8_stepToExit 65 = .ok (.iload_n 2, 1) := by decide +kernel
theorem dX8_stepToExit_66 : decode cX8_stepToExit 66 = .ok (.iconst 1, 1) := by decide +kernel
theorem dX8_stepToExit_67 : decode cX8_stepToExit 67 = .ok (.isub, 1) := by decide +kernel
theorem dX8_stepToExit_68 : decode cX8_stepToExit 68 = .ok (.if_icmp .ne 7, 3) := by decide +kernel
theorem dX8_stepToExit_71 : decode cX8_stepToExit 71 = .ok (.iconst 1, 1) := by decide +kernel
theorem dX8_stepToExit_72 : decode cX8_stepToExit 72 = .ok (.goto 4, 3) := by decide +kernel
theorem dX8_stepToExit_75 : decode cX8_stepToExit 75 = .ok (.iconst 0, 1) := by decide +kernel
theorem dX8_stepToExit_76 : decode cX8_stepToExit 76 = .ok (.istore 6, 2) := by decide +kernel
theorem dX8_stepToExit_78 : decode cX8_stepToExit 78 = .ok (.iload 6, 2) := by decide +kernel
theorem dX8_stepToExit_80 : decode cX8_stepToExit 80 = .ok (.ifCond .eq 17, 3) := by decide +kernel
theorem dX8_stepToExit_83 : decode cX8_stepToExit 83 = .ok (.iload_n 3, 1) := by decide +kernel
theorem dX8_stepToExit_84 : decode cX8_stepToExit 84 = .ok (.iconst (-1), 1) := by decide +kernel
theorem dX8_stepToExit_85 : decode cX8_stepToExit 85 = .ok (.if_icmp .eq 9, 3) := by decide +kernel
theorem dX8_stepToExit_88 : decode cX8_stepToExit 88 = .ok (.iload 5, 2) := by decide +kernel
theorem dX8_stepToExit_90 : decode cX8_stepToExit 90 = .ok (.iload_n 3, 1) := by decide +kernel
theorem dX8_stepToExit_91 : decode cX8_stepToExit 91 = .ok (.if_icmp .ge 6, 3) := by decide +kernel
theorem dX8_stepToExit_94 : decode cX8_stepToExit 94 = .ok (.iload 5, 2) := by decide +kernel
theorem dX8_stepToExit_96 : decode cX8_stepToExit 96 = .ok (.istore_n 3, 1) := by decide +kernel
theorem dX8_stepToExit_97 : decode cX8_stepToExit 97 = .ok (.iinc 4 1, 3) := by decide +kernel
theorem dX8_stepToExit_100 : decode cX8_stepToExit 100 = .ok (.goto (-74), 3) := by decide +kernel
theorem dX8_stepToExit_103 : decode cX8_stepToExit 103 = .ok (.iload_n 3, 1) := by decide +kernel
theorem dX8_stepToExit_104 : decode cX8_stepToExit 104 = .ok (.ireturn, 1) := by decide +kernel
theorem dX8_cellsReached_0 : decode cX8_cellsReached 0 = .ok (.aload_n 0, 1) := by decide +kernel
theorem dX8_cellsReached_1 : decode cX8_cellsReached 1 = .ok (.iconst 1, 1) := by decide +kernel
theorem dX8_cellsReached_2 : decode cX8_cellsReached 2 = .ok (.iload_n 1, 1) := by decide +kernel
theorem dX8_cellsReached_3 : decode cX8_cellsReached 3 = .ok (.ishl, 1) := by decide +kernel
theorem dX8_cellsReached_4 : decode cX8_cellsReached 4 = .ok (.iconst 5, 1) := by decide +kernel
theorem dX8_cellsReached_5 : decode cX8_cellsReached 5 = .ok (.iconst (-1), 1) := by decide +kernel
theorem dX8_cellsReached_6 : decode cX8_cellsReached 6 = .ok (.invokevirtual 66, 3) := by decide +kernel
theorem dX8_cellsReached_9 : decode cX8_cellsReached 9 = .ok (.ireturn, 1) := by decide +kernel
theorem dX8_leadsThrough_0 : decode cX8_leadsThrough 0 = .ok (.aload_n 0, 1) := by decide +kernel
theorem dX8_leadsThrough_1 : decode cX8_leadsThrough 1 = .ok (.iconst 1, 1) := by decide +kernel
theorem dX8_leadsThrough_2 : decode cX8_leadsThrough 2 = .ok (.iload_n 1, 1) := by decide +kernel
theorem dX8_leadsThrough_3 : decode cX8_leadsThrough 3 = .ok (.iload_n 2, 1) := by decide +kernel
theorem dX8_leadsThrough_4 : decode cX8_leadsThrough 4 = .ok (.invokevirtual 66, 3) := by decide +kernel
theorem dX8_leadsThrough_7 : decode cX8_leadsThrough 7 = .ok (.invokestatic 70, 3) := by decide +kernel
theorem dX8_leadsThrough_10 : decode cX8_leadsThrough 10 = .ok (.ireturn, 1) := by decide +kernel
theorem dX8_trimsByNumber_0 : decode cX8_trimsByNumber 0 = .ok (.aload_n 0, 1) := by decide +kernel
theorem dX8_trimsByNumber_1 : decode cX8_trimsByNumber 1 = .ok (.iload_n 1, 1) := by decide +kernel
theorem dX8_trimsByNumber_2 : decode cX8_trimsByNumber 2 = .ok (.invokevirtual 73, 3) := by decide +kernel
theorem dX8_trimsByNumber_5 : decode cX8_trimsByNumber 5 = .ok (.istore_n 2, 1) := by decide +kernel
theorem dX8_trimsByNumber_6 : decode cX8_trimsByNumber 6 = .ok (.iconst 0, 1) := by decide +kernel
theorem dX8_trimsByNumber_7 : decode cX8_trimsByNumber 7 = .ok (.istore_n 3, 1) := by decide +kernel
theorem dX8_trimsByNumber_8 : decode cX8_trimsByNumber 8 = .ok (.iload_n 3, 1) := by decide +kernel
theorem dX8_trimsByNumber_9 : decode cX8_trimsByNumber 9 = .ok (.bipush 24, 2) := by decide +kernel
theorem dX8_trimsByNumber_11 : decode cX8_trimsByNumber 11 = .ok (.if_icmp .ge 27, 3) := by decide +kernel
theorem dX8_trimsByNumber_14 : decode cX8_trimsByNumber 14 = .ok (.iload_n 2, 1) := by decide +kernel
theorem dX8_trimsByNumber_15 : decode cX8_trimsByNumber 15 = .ok (.invokestatic 70, 3) := by decide +kernel
theorem dX8_trimsByNumber_18 : decode cX8_trimsByNumber 18 = .ok (.ifCond .ne 20, 3) := by decide +kernel
theorem dX8_trimsByNumber_21 : decode cX8_trimsByNumber 21 = .ok (.aload_n 0, 1) := by decide +kernel
theorem dX8_trimsByNumber_22 : decode cX8_trimsByNumber 22 = .ok (.iload_n 2, 1) := by decide +kernel
theorem dX8_trimsByNumber_23 : decode cX8_trimsByNumber 23 = .ok (.invokestatic 76, 3) := by decide +kernel
theorem dX8_trimsByNumber_26 : decode cX8_trimsByNumber 26 = .ok (.iconst 5, 1) := by decide +kernel
theorem dX8_trimsByNumber_27 : decode cX8_trimsByNumber 27 = .ok (.iconst (-1), 1) := by decide +kernel
theorem dX8_trimsByNumber_28 : decode cX8_trimsByNumber 28 = .ok (.invokevirtual 66, 3) := by decide +kernel
theorem dX8_trimsByNumber_31 : decode cX8_trimsByNumber 31 = .ok (.istore_n 2, 1) := by decide +kernel
theorem dX8_trimsByNumber_32 : decode cX8_trimsByNumber 32 = .ok (.iinc 3 1, 3) := by decide +kernel
theorem dX8_trimsByNumber_35 : decode cX8_trimsByNumber 35 = .ok (.goto (-27), 3) := by decide +kernel
theorem dX8_trimsByNumber_38 : decode cX8_trimsByNumber 38 = .ok (.iload_n 3, 1) := by decide +kernel
theorem dX8_trimsByNumber_39 : decode cX8_trimsByNumber 39 = .ok (.ireturn, 1) := by decide +kernel
theorem dX8_holdsExit_0 : decode cX8_holdsExit 0 = .ok (.iload_n 0, 1) := by decide +kernel
theorem dX8_holdsExit_1 : decode cX8_holdsExit 1 = .ok (.ldc 79, 2) := by decide +kernel
theorem dX8_holdsExit_3 : decode cX8_holdsExit 3 = .ok (.iand, 1) := by decide +kernel
theorem dX8_holdsExit_4 : decode cX8_holdsExit 4 = .ok (.ifCond .eq 7, 3) := by decide +kernel
theorem dX8_holdsExit_7 : decode cX8_holdsExit 7 = .ok (.iconst 1, 1) := by decide +kernel
theorem dX8_holdsExit_8 : decode cX8_holdsExit 8 = .ok (.goto 4, 3) := by decide +kernel
theorem dX8_holdsExit_11 : decode cX8_holdsExit 11 = .ok (.iconst 0, 1) := by decide +kernel
theorem dX8_holdsExit_12 : decode cX8_holdsExit 12 = .ok (.ireturn, 1) := by decide +kernel
theorem dX8_flood_0 : decode cX8_flood 0 = .ok (.iload_n 1, 1) := by decide +kernel
theorem dX8_flood_1 : decode cX8_flood 1 = .ok (.istore 4, 2) := by decide +kernel
theorem dX8_flood_3 : decode cX8_flood 3 = .ok (.iconst 0, 1) := by decide +kernel
theorem dX8_flood_4 : decode cX8_flood 4 = .ok (.istore 5, 2) := by decide +kernel
theorem dX8_flood_6 : decode cX8_flood 6 = .ok (.iconst 0, 1) := by decide +kernel
theorem dX8_flood_7 : decode cX8_flood 7 = .ok (.istore 6, 2) := by decide +kernel
theorem dX8_flood_9 : decode cX8_flood 9 = .ok (.iload 6, 2) := by decide +kernel
theorem dX8_flood_11 : decode cX8_flood 11 = .ok (.bipush 16, 2) := by decide +kernel
theorem dX8_flood_13 : decode cX8_flood 13 = .ok (.if_icmp .ge 67, 3) := by decide +kernel
theorem dX8_flood_16 : decode cX8_flood 16 = .ok (.iload 4, 2) := by decide +kernel
theorem dX8_flood_18 : decode cX8_flood 18 = .ok (.iload 5, 2) := by decide +kernel
theorem dX8_flood_20 : decode cX8_flood 20 = .ok (.if_icmp .eq 60, 3) := by decide +kernel
theorem dX8_flood_23 : decode cX8_flood 23 = .ok (.iload 4, 2) := by decide +kernel
theorem dX8_flood_25 : decode cX8_flood 25 = .ok (.istore 5, 2) := by decide +kernel
theorem dX8_flood_27 : decode cX8_flood 27 = .ok (.iconst 0, 1) := by decide +kernel
theorem dX8_flood_28 : decode cX8_flood 28 = .ok (.istore 7, 2) := by decide +kernel
theorem dX8_flood_30 : decode cX8_flood 30 = .ok (.iload 7, 2) := by decide +kernel
theorem dX8_flood_32 : decode cX8_flood 32 = .ok (.bipush 24, 2) := by decide +kernel
theorem dX8_flood_34 : decode cX8_flood 34 = .ok (.if_icmp .ge 40, 3) := by decide +kernel
theorem dX8_flood_37 : decode cX8_flood 37 = .ok (.iload 7, 2) := by decide +kernel
theorem dX8_flood_39 : decode cX8_flood 39 = .ok (.iload_n 3, 1) := by decide +kernel
theorem dX8_flood_40 : decode cX8_flood 40 = .ok (.if_icmp .eq 28, 3) := by decide +kernel
theorem dX8_flood_43 : decode cX8_flood 43 = .ok (.aload_n 0, 1) := by decide +kernel
theorem dX8_flood_44 : decode cX8_flood 44 = .ok (.getfield 9, 3) := by decide +kernel
theorem dX8_flood_47 : decode cX8_flood 47 = .ok (.iload 7, 2) := by decide +kernel
theorem dX8_flood_49 : decode cX8_flood 49 = .ok (.invokevirtual 80, 3) := by decide +kernel
theorem dX8_flood_52 : decode cX8_flood 52 = .ok (.iload_n 2, 1) := by decide +kernel
theorem dX8_flood_53 : decode cX8_flood 53 = .ok (.if_icmp .ge 15, 3) := by decide +kernel
theorem dX8_flood_56 : decode cX8_flood 56 = .ok (.iload 4, 2) := by decide +kernel
theorem dX8_flood_58 : decode cX8_flood 58 = .ok (.iload 7, 2) := by decide +kernel
theorem dX8_flood_60 : decode cX8_flood 60 = .ok (.iload 4, 2) := by decide +kernel
theorem dX8_flood_62 : decode cX8_flood 62 = .ok (.invokestatic 83, 3) := by decide +kernel
theorem dX8_flood_65 : decode cX8_flood 65 = .ok (.ior, 1) := by decide +kernel
theorem dX8_flood_66 : decode cX8_flood 66 = .ok (.istore 4, 2) := by decide +kernel
theorem dX8_flood_68 : decode cX8_flood 68 = .ok (.iinc 7 1, 3) := by decide +kernel
theorem dX8_flood_71 : decode cX8_flood 71 = .ok (.goto (-41), 3) := by decide +kernel
theorem dX8_flood_74 : decode cX8_flood 74 = .ok (.iinc 6 1, 3) := by decide +kernel
theorem dX8_flood_77 : decode cX8_flood 77 = .ok (.goto (-68), 3) := by decide +kernel
theorem dX8_flood_80 : decode cX8_flood 80 = .ok (.iload 4, 2) := by decide +kernel
theorem dX8_flood_82 : decode cX8_flood 82 = .ok (.ireturn, 1) := by decide +kernel
theorem dX8_widened_0 : decode cX8_widened 0 = .ok (.iload_n 0, 1) := by decide +kernel
theorem dX8_widened_1 : decode cX8_widened 1 = .ok (.istore_n 1, 1) := by decide +kernel
theorem dX8_widened_2 : decode cX8_widened 2 = .ok (.iconst 0, 1) := by decide +kernel
theorem dX8_widened_3 : decode cX8_widened 3 = .ok (.istore_n 2, 1) := by decide +kernel
theorem dX8_widened_4 : decode cX8_widened 4 = .ok (.iload_n 2, 1) := by decide +kernel
theorem dX8_widened_5 : decode cX8_widened 5 = .ok (.bipush 24, 2) := by decide +kernel
theorem dX8_widened_7 : decode cX8_widened 7 = .ok (.if_icmp .ge 17, 3) := by decide +kernel
theorem dX8_widened_10 : decode cX8_widened 10 = .ok (.iload_n 1, 1) := by decide +kernel
theorem dX8_widened_11 : decode cX8_widened 11 = .ok (.iload_n 2, 1) := by decide +kernel
theorem dX8_widened_12 : decode cX8_widened 12 = .ok (.iload_n 0, 1) := by decide +kernel
theorem dX8_widened_13 : decode cX8_widened 13 = .ok (.invokestatic 83, 3) := by decide +kernel
theorem dX8_widened_16 : decode cX8_widened 16 = .ok (.ior, 1) := by decide +kernel
theorem dX8_widened_17 : decode cX8_widened 17 = .ok (.istore_n 1, 1) := by decide +kernel
theorem dX8_widened_18 : decode cX8_widened 18 = .ok (.iinc 2 1, 3) := by decide +kernel
theorem dX8_widened_21 : decode cX8_widened 21 = .ok (.goto (-17), 3) := by decide +kernel
theorem dX8_widened_24 : decode cX8_widened 24 = .ok (.iload_n 1, 1) := by decide +kernel
theorem dX8_widened_25 : decode cX8_widened 25 = .ok (.ireturn, 1) := by decide +kernel
theorem dX8_joinedBy_0 : decode cX8_joinedBy 0 = .ok (.iconst 1, 1) := by decide +kernel
theorem dX8_joinedBy_1 : decode cX8_joinedBy 1 = .ok (.getstatic 59, 3) := by decide +kernel
theorem dX8_joinedBy_4 : decode cX8_joinedBy 4 = .ok (.iload_n 0, 1) := by decide +kernel
theorem dX8_joinedBy_5 : decode cX8_joinedBy 5 = .ok (.iaload, 1) := by decide +kernel
theorem dX8_joinedBy_6 : decode cX8_joinedBy 6 = .ok (.ishl, 1) := by decide +kernel
theorem dX8_joinedBy_7 : decode cX8_joinedBy 7 = .ok (.iconst 1, 1) := by decide +kernel
theorem dX8_joinedBy_8 : decode cX8_joinedBy 8 = .ok (.getstatic 56, 3) := by decide +kernel
theorem dX8_joinedBy_11 : decode cX8_joinedBy 11 = .ok (.iload_n 0, 1) := by decide +kernel
theorem dX8_joinedBy_12 : decode cX8_joinedBy 12 = .ok (.iaload, 1) := by decide +kernel
theorem dX8_joinedBy_13 : decode cX8_joinedBy 13 = .ok (.ishl, 1) := by decide +kernel
theorem dX8_joinedBy_14 : decode cX8_joinedBy 14 = .ok (.ior, 1) := by decide +kernel
theorem dX8_joinedBy_15 : decode cX8_joinedBy 15 = .ok (.istore_n 2, 1) := by decide +kernel
theorem dX8_joinedBy_16 : decode cX8_joinedBy 16 = .ok (.iload_n 1, 1) := by decide +kernel
theorem dX8_joinedBy_17 : decode cX8_joinedBy 17 = .ok (.iload_n 2, 1) := by decide +kernel
theorem dX8_joinedBy_18 : decode cX8_joinedBy 18 = .ok (.iand, 1) := by decide +kernel
theorem dX8_joinedBy_19 : decode cX8_joinedBy 19 = .ok (.ifCond .eq 7, 3) := by decide +kernel
theorem dX8_joinedBy_22 : decode cX8_joinedBy 22 = .ok (.iload_n 2, 1) := by decide +kernel
theorem dX8_joinedBy_23 : decode cX8_joinedBy 23 = .ok (.goto 4, 3) := by decide +kernel
theorem dX8_joinedBy_26 : decode cX8_joinedBy 26 = .ok (.iconst 0, 1) := by decide +kernel
theorem dX8_joinedBy_27 : decode cX8_joinedBy 27 = .ok (.ireturn, 1) := by decide +kernel
theorem dX9_init_0 : decode cX9_init 0 = .ok (.aload_n 0, 1) := by decide +kernel
theorem dX9_init_1 : decode cX9_init 1 = .ok (.invokespecial 1, 3) := by decide +kernel
theorem dX9_init_4 : decode cX9_init 4 = .ok (.aload_n 0, 1) := by decide +kernel
theorem dX9_init_5 : decode cX9_init 5 = .ok (.new 7, 3) := by decide +kernel
theorem dX9_init_8 : decode cX9_init 8 = .ok (.dup, 1) := by decide +kernel
theorem dX9_init_9 : decode cX9_init 9 = .ok (.invokespecial 9, 3) := by decide +kernel
theorem dX9_init_12 : decode cX9_init 12 = .ok (.putfield 10, 3) := by decide +kernel
theorem dX9_init_15 : decode cX9_init 15 = .ok (.aload_n 0, 1) := by decide +kernel
theorem dX9_init_16 : decode cX9_init 16 = .ok (.new 7, 3) := by decide +kernel
theorem dX9_init_19 : decode cX9_init 19 = .ok (.dup, 1) := by decide +kernel
theorem dX9_init_20 : decode cX9_init 20 = .ok (.invokespecial 9, 3) := by decide +kernel
theorem dX9_init_23 : decode cX9_init 23 = .ok (.putfield 16, 3) := by decide +kernel
theorem dX9_init_26 : decode cX9_init 26 = .ok (.aload_n 0, 1) := by decide +kernel
theorem dX9_init_27 : decode cX9_init 27 = .ok (.new 7, 3) := by decide +kernel
theorem dX9_init_30 : decode cX9_init 30 = .ok (.dup, 1) := by decide +kernel
theorem dX9_init_31 : decode cX9_init 31 = .ok (.invokespecial 9, 3) := by decide +kernel
theorem dX9_init_34 : decode cX9_init 34 = .ok (.putfield 19, 3) := by decide +kernel
theorem dX9_init_37 : decode cX9_init 37 = .ok (.aload_n 0, 1) := by decide +kernel
theorem dX9_init_38 : decode cX9_init 38 = .ok (.iconst 0, 1) := by decide +kernel
theorem dX9_init_39 : decode cX9_init 39 = .ok (.putfield 22, 3) := by decide +kernel
theorem dX9_init_42 : decode cX9_init 42 = .ok (.aload_n 0, 1) := by decide +kernel
theorem dX9_init_43 : decode cX9_init 43 = .ok (.new 26, 3) := by decide +kernel
theorem dX9_init_46 : decode cX9_init 46 = .ok (.dup, 1) := by decide +kernel
theorem dX9_init_47 : decode cX9_init 47 = .ok (.invokespecial 28, 3) := by decide +kernel
theorem dX9_init_50 : decode cX9_init 50 = .ok (.putfield 29, 3) := by decide +kernel
theorem dX9_init_53 : decode cX9_init 53 = .ok (.aload_n 0, 1) := by decide +kernel
theorem dX9_init_54 : decode cX9_init 54 = .ok (.new 33, 3) := by decide +kernel
theorem dX9_init_57 : decode cX9_init 57 = .ok (.dup, 1) := by decide +kernel
theorem dX9_init_58 : decode cX9_init 58 = .ok (.invokespecial 35, 3) := by decide +kernel
theorem dX9_init_61 : decode cX9_init 61 = .ok (.putfield 36, 3) := by decide +kernel
theorem dX9_init_64 : decode cX9_init 64 = .ok (.aload_n 0, 1) := by decide +kernel
theorem dX9_init_65 : decode cX9_init 65 = .ok (.new 40, 3) := by decide +kernel
theorem dX9_init_68 : decode cX9_init 68 = .ok (.dup, 1) := by decide +kernel
theorem dX9_init_69 : decode cX9_init 69 = .ok (.aload_n 0, 1) := by decide +kernel
theorem dX9_init_70 : decode cX9_init 70 = .ok (.getfield 10, 3) := by decide +kernel
theorem dX9_init_73 : decode cX9_init 73 = .ok (.getfield 42, 3) := by decide +kernel
theorem dX9_init_76 : decode cX9_init 76 = .ok (.invokespecial 46, 3) := by decide +kernel
theorem dX9_init_79 : decode cX9_init 79 = .ok (.putfield 49, 3) := by decide +kernel
theorem dX9_init_82 : decode cX9_init 82 = .ok (.aload_n 0, 1) := by decide +kernel
theorem dX9_init_83 : decode cX9_init 83 = .ok (.new 53, 3) := by decide +kernel
theorem dX9_init_86 : decode cX9_init 86 = .ok (.dup, 1) := by decide +kernel
theorem dX9_init_87 : decode cX9_init 87 = .ok (.aload_n 0, 1) := by decide +kernel
theorem dX9_init_88 : decode cX9_init 88 = .ok (.getfield 10, 3) := by decide +kernel
theorem dX9_init_91 : decode cX9_init 91 = .ok (.aload_n 0, 1) := by decide +kernel
theorem dX9_init_92 : decode cX9_init 92 = .ok (.getfield 49, 3) := by decide +kernel
theorem dX9_init_95 : decode cX9_init 95 = .ok (.aload_n 0, 1) := by decide +kernel
theorem dX9_init_96 : decode cX9_init 96 = .ok (.getfield 36, 3) := by decide +kernel
theorem dX9_init_99 : decode cX9_init 99 = .ok (.invokespecial 55, 3) := by decide +kernel
theorem dX9_init_102 : decode cX9_init 102 = .ok (.putfield 58, 3) := by decide +kernel
theorem dX9_init_105 : decode cX9_init 105 = .ok (.aload_n 0, 1) := by decide +kernel
theorem dX9_init_106 : decode cX9_init 106 = .ok (.new 62, 3) := by decide +kernel
theorem dX9_init_109 : decode cX9_init 109 = .ok (.dup, 1) := by decide +kernel
theorem dX9_init_110 : decode cX9_init 110 = .ok (.invokespecial 64, 3) := by decide +kernel
theorem dX9_init_113 : decode cX9_init 113 = .ok (.putfield 65, 3) := by decide +kernel
theorem dX9_init_116 : decode cX9_init 116 = .ok (.aload_n 0, 1) := by decide +kernel
theorem dX9_init_117 : decode cX9_init 117 = .ok (.new 69, 3) := by decide +kernel
theorem dX9_init_120 : decode cX9_init 120 = .ok (.dup, 1) := by decide +kernel
theorem dX9_init_121 : decode cX9_init 121 = .ok (.invokespecial 71, 3) := by decide +kernel
theorem dX9_init_124 : decode cX9_init 124 = .ok (.putfield 72, 3) := by decide +kernel
theorem dX9_init_127 : decode cX9_init 127 = .ok (.return_, 1) := by decide +kernel
theorem dX9_hedge_0 : decode cX9_hedge 0 = .ok (.aload_n 0, 1) := by decide +kernel
theorem dX9_hedge_1 : decode cX9_hedge 1 = .ok (.getfield 16, 3) := by decide +kernel
theorem dX9_hedge_4 : decode cX9_hedge 4 = .ok (.aload_n 0, 1) := by decide +kernel
theorem dX9_hedge_5 : decode cX9_hedge 5 = .ok (.getfield 10, 3) := by decide +kernel
theorem dX9_hedge_8 : decode cX9_hedge 8 = .ok (.invokevirtual 76, 3) := by decide +kernel
theorem dX9_hedge_11 : decode cX9_hedge 11 = .ok (.aload_n 0, 1) := by decide +kernel
theorem dX9_hedge_12 : decode cX9_hedge 12 = .ok (.aload_n 0, 1) := by decide +kernel
theorem dX9_hedge_13 : decode cX9_hedge 13 = .ok (.getfield 58, 3) := by decide +kernel
theorem dX9_hedge_16 : decode cX9_hedge 16 = .ok (.iload_n 1, 1) := by decide +kernel
theorem dX9_hedge_17 : decode cX9_hedge 17 = .ok (.iload_n 2, 1) := by decide +kernel
theorem dX9_hedge_18 : decode cX9_hedge 18 = .ok (.iload_n 3, 1) := by decide +kernel
theorem dX9_hedge_19 : decode cX9_hedge 19 = .ok (.invokevirtual 80, 3) := by decide +kernel
theorem dX9_hedge_22 : decode cX9_hedge 22 = .ok (.invokevirtual 84, 3) := by decide +kernel
theorem dX9_hedge_25 : decode cX9_hedge 25 = .ok (.ireturn, 1) := by decide +kernel
theorem dX9_summer_0 : decode cX9_summer 0 = .ok (.aload_n 0, 1) := by decide +kernel
theorem dX9_summer_1 : decode cX9_summer 1 = .ok (.getfield 16, 3) := by decide +kernel
theorem dX9_summer_4 : decode cX9_summer 4 = .ok (.aload_n 0, 1) := by decide +kernel
theorem dX9_summer_5 : decode cX9_summer 5 = .ok (.getfield 10, 3) := by decide +kernel
theorem dX9_summer_8 : decode cX9_summer 8 = .ok (.invokevirtual 76, 3) := by decide +kernel
theorem dX9_summer_11 : decode cX9_summer 11 = .ok (.aload_n 0, 1) := by decide +kernel
theorem dX9_summer_12 : decode cX9_summer 12 = .ok (.aload_n 0, 1) := by decide +kernel
theorem dX9_summer_13 : decode cX9_summer 13 = .ok (.getfield 58, 3) := by decide +kernel
theorem dX9_summer_16 : decode cX9_summer 16 = .ok (.invokevirtual 88, 3) := by decide +kernel
theorem dX9_summer_19 : decode cX9_summer 19 = .ok (.invokevirtual 84, 3) := by decide +kernel
theorem dX9_summer_22 : decode cX9_summer 22 = .ok (.ireturn, 1) := by decide +kernel
theorem dX9_trim_0 : decode cX9_trim 0 = .ok (.aload_n 0, 1) := by decide +kernel
theorem dX9_trim_1 : decode cX9_trim 1 = .ok (.getfield 16, 3) := by decide +kernel
theorem dX9_trim_4 : decode cX9_trim 4 = .ok (.aload_n 0, 1) := by decide +kernel
theorem dX9_trim_5 : decode cX9_trim 5 = .ok (.getfield 10, 3) := by decide +kernel
theorem dX9_trim_8 : decode cX9_trim 8 = .ok (.invokevirtual 76, 3) := by decide +kernel
theorem dX9_trim_11 : decode cX9_trim 11 = .ok (.aload_n 0, 1) := by decide +kernel
theorem dX9_trim_12 : decode cX9_trim 12 = .ok (.aload_n 0, 1) := by decide +kernel
theorem dX9_trim_13 : decode cX9_trim 13 = .ok (.getfield 58, 3) := by decide +kernel
theorem dX9_trim_16 : decode cX9_trim 16 = .ok (.iload_n 1, 1) := by decide +kernel
theorem dX9_trim_17 : decode cX9_trim 17 = .ok (.iload_n 2, 1) := by decide +kernel
theorem dX9_trim_18 : decode cX9_trim 18 = .ok (.iload_n 3, 1) := by decide +kernel
theorem dX9_trim_19 : decode cX9_trim 19 = .ok (.invokevirtual 92, 3) := by decide +kernel
theorem dX9_trim_22 : decode cX9_trim 22 = .ok (.invokevirtual 84, 3) := by decide +kernel
theorem dX9_trim_25 : decode cX9_trim 25 = .ok (.ireturn, 1) := by decide +kernel
theorem dX9_minotaur_0 : decode cX9_minotaur 0 = .ok (.aload_n 0, 1) := by decide +kernel
theorem dX9_minotaur_1 : decode cX9_minotaur 1 = .ok (.getfield 16, 3) := by decide +kernel
theorem dX9_minotaur_4 : decode cX9_minotaur 4 = .ok (.aload_n 0, 1) := by decide +kernel
theorem dX9_minotaur_5 : decode cX9_minotaur 5 = .ok (.getfield 10, 3) := by decide +kernel
theorem dX9_minotaur_8 : decode cX9_minotaur 8 = .ok (.invokevirtual 76, 3) := by decide +kernel
theorem dX9_minotaur_11 : decode cX9_minotaur 11 = .ok (.aload_n 0, 1) := by decide +kernel
theorem dX9_minotaur_12 : decode cX9_minotaur 12 = .ok (.aload_n 0, 1) := by decide +kernel
theorem dX9_minotaur_13 : decode cX9_minotaur 13 = .ok (.getfield 58, 3) := by decide +kernel
theorem dX9_minotaur_16 : decode cX9_minotaur 16 = .ok (.iload_n 1, 1) := by decide +kernel
theorem dX9_minotaur_17 : decode cX9_minotaur 17 = .ok (.invokevirtual 95, 3) := by decide +kernel
theorem dX9_minotaur_20 : decode cX9_minotaur 20 = .ok (.invokevirtual 84, 3) := by decide +kernel
theorem dX9_minotaur_23 : decode cX9_minotaur 23 = .ok (.ireturn, 1) := by decide +kernel
theorem dX9_gardener_0 : decode cX9_gardener 0 = .ok (.aload_n 0, 1) := by decide +kernel
theorem dX9_gardener_1 : decode cX9_gardener 1 = .ok (.getfield 16, 3) := by decide +kernel
theorem dX9_gardener_4 : decode cX9_gardener 4 = .ok (.aload_n 0, 1) := by decide +kernel
theorem dX9_gardener_5 : decode cX9_gardener 5 = .ok (.getfield 10, 3) := by decide +kernel
theorem dX9_gardener_8 : decode cX9_gardener 8 = .ok (.invokevirtual 76, 3) := by decide +kernel
theorem dX9_gardener_11 : decode cX9_gardener 11 = .ok (.aload_n 0, 1) := by decide +kernel
theorem dX9_gardener_12 : decode cX9_gardener 12 = .ok (.aload_n 0, 1) := by decide +kernel
theorem dX9_gardener_13 : decode cX9_gardener 13 = .ok (.getfield 58, 3) := by decide +kernel
theorem dX9_gardener_16 : decode cX9_gardener 16 = .ok (.iload_n 1, 1) := by decide +kernel
theorem dX9_gardener_17 : decode cX9_gardener 17 = .ok (.invokevirtual 98, 3) := by decide +kernel
theorem dX9_gardener_20 : decode cX9_gardener 20 = .ok (.invokevirtual 84, 3) := by decide +kernel
theorem dX9_gardener_23 : decode cX9_gardener 23 = .ok (.ireturn, 1) := by decide +kernel
theorem dX9_visitor_0 : decode cX9_visitor 0 = .ok (.aload_n 0, 1) := by decide +kernel
theorem dX9_visitor_1 : decode cX9_visitor 1 = .ok (.getfield 16, 3) := by decide +kernel
theorem dX9_visitor_4 : decode cX9_visitor 4 = .ok (.aload_n 0, 1) := by decide +kernel
theorem dX9_visitor_5 : decode cX9_visitor 5 = .ok (.getfield 10, 3) := by decide +kernel
theorem dX9_visitor_8 : decode cX9_visitor 8 = .ok (.invokevirtual 76, 3) := by decide +kernel
theorem dX9_visitor_11 : decode cX9_visitor 11 = .ok (.aload_n 0, 1) := by decide +kernel
theorem dX9_visitor_12 : decode cX9_visitor 12 = .ok (.aload_n 0, 1) := by decide +kernel
theorem dX9_visitor_13 : decode cX9_visitor 13 = .ok (.getfield 58, 3) := by decide +kernel
theorem dX9_visitor_16 : decode cX9_visitor 16 = .ok (.iload_n 1, 1) := by decide +kernel
theorem dX9_visitor_17 : decode cX9_visitor 17 = .ok (.invokevirtual 101, 3) := by decide +kernel
theorem dX9_visitor_20 : decode cX9_visitor 20 = .ok (.invokevirtual 84, 3) := by decide +kernel
theorem dX9_visitor_23 : decode cX9_visitor 23 = .ok (.ireturn, 1) := by decide +kernel
theorem dX9_bond_0 : decode cX9_bond 0 = .ok (.aload_n 0, 1) := by decide +kernel
theorem dX9_bond_1 : decode cX9_bond 1 = .ok (.getfield 16, 3) := by decide +kernel
theorem dX9_bond_4 : decode cX9_bond 4 = .ok (.aload_n 0, 1) := by decide +kernel
theorem dX9_bond_5 : decode cX9_bond 5 = .ok (.getfield 10, 3) := by decide +kernel
theorem dX9_bond_8 : decode cX9_bond 8 = .ok (.invokevirtual 76, 3) := by decide +kernel
theorem dX9_bond_11 : decode cX9_bond 11 = .ok (.aload_n 0, 1) := by decide +kernel
theorem dX9_bond_12 : decode cX9_bond 12 = .ok (.aload_n 0, 1) := by decide +kernel
theorem dX9_bond_13 : decode cX9_bond 13 = .ok (.getfield 58, 3) := by decide +kernel
theorem dX9_bond_16 : decode cX9_bond 16 = .ok (.iload_n 1, 1) := by decide +kernel
theorem dX9_bond_17 : decode cX9_bond 17 = .ok (.iload_n 2, 1) := by decide +kernel
theorem dX9_bond_18 : decode cX9_bond 18 = .ok (.iload_n 3, 1) := by decide +kernel
theorem dX9_bond_19 : decode cX9_bond 19 = .ok (.invokevirtual 104, 3) := by decide +kernel
theorem dX9_bond_22 : decode cX9_bond 22 = .ok (.invokevirtual 84, 3) := by decide +kernel
theorem dX9_bond_25 : decode cX9_bond 25 = .ok (.ireturn, 1) := by decide +kernel
theorem dX9_walk_0 : decode cX9_walk 0 = .ok (.aload_n 0, 1) := by decide +kernel
theorem dX9_walk_1 : decode cX9_walk 1 = .ok (.getfield 16, 3) := by decide +kernel
theorem dX9_walk_4 : decode cX9_walk 4 = .ok (.aload_n 0, 1) := by decide +kernel
theorem dX9_walk_5 : decode cX9_walk 5 = .ok (.getfield 10, 3) := by decide +kernel
theorem dX9_walk_8 : decode cX9_walk 8 = .ok (.invokevirtual 76, 3) := by decide +kernel
theorem dX9_walk_11 : decode cX9_walk 11 = .ok (.aload_n 0, 1) := by decide +kernel
theorem dX9_walk_12 : decode cX9_walk 12 = .ok (.aload_n 0, 1) := by decide +kernel
theorem dX9_walk_13 : decode cX9_walk 13 = .ok (.getfield 58, 3) := by decide +kernel
theorem dX9_walk_16 : decode cX9_walk 16 = .ok (.iload_n 1, 1) := by decide +kernel
theorem dX9_walk_17 : decode cX9_walk 17 = .ok (.iload_n 2, 1) := by decide +kernel
theorem dX9_walk_18 : decode cX9_walk 18 = .ok (.invokevirtual 107, 3) := by decide +kernel
theorem dX9_walk_21 : decode cX9_walk 21 = .ok (.invokevirtual 84, 3) := by decide +kernel
theorem dX9_walk_24 : decode cX9_walk 24 = .ok (.ireturn, 1) := by decide +kernel
theorem dX9_rest_0 : decode cX9_rest 0 = .ok (.aload_n 0, 1) := by decide +kernel
theorem dX9_rest_1 : decode cX9_rest 1 = .ok (.getfield 16, 3) := by decide +kernel
theorem dX9_rest_4 : decode cX9_rest 4 = .ok (.aload_n 0, 1) := by decide +kernel
theorem dX9_rest_5 : decode cX9_rest 5 = .ok (.getfield 10, 3) := by decide +kernel
theorem dX9_rest_8 : decode cX9_rest 8 = .ok (.invokevirtual 76, 3) := by decide +kernel
theorem dX9_rest_11 : decode cX9_rest 11 = .ok (.aload_n 0, 1) := by decide +kernel
theorem dX9_rest_12 : decode cX9_rest 12 = .ok (.aload_n 0, 1) := by decide +kernel
theorem dX9_rest_13 : decode cX9_rest 13 = .ok (.getfield 58, 3) := by decide +kernel
theorem dX9_rest_16 : decode cX9_rest 16 = .ok (.iload_n 1, 1) := by decide +kernel
theorem dX9_rest_17 : decode cX9_rest 17 = .ok (.iload_n 2, 1) := by decide +kernel
theorem dX9_rest_18 : decode cX9_rest 18 = .ok (.invokevirtual 111, 3) := by decide +kernel
theorem dX9_rest_21 : decode cX9_rest 21 = .ok (.invokevirtual 84, 3) := by decide +kernel
theorem dX9_rest_24 : decode cX9_rest 24 = .ok (.ireturn, 1) := by decide +kernel
theorem dX9_settled_0 : decode cX9_settled 0 = .ok (.iload_n 1, 1) := by decide +kernel
theorem dX9_settled_1 : decode cX9_settled 1 = .ok (.iconst (-1), 1) := by decide +kernel
theorem dX9_settled_2 : decode cX9_settled 2 = .ok (.if_icmp .ne 13, 3) := by decide +kernel
theorem dX9_settled_5 : decode cX9_settled 5 = .ok (.new 114, 3) := by decide +kernel
theorem dX9_settled_8 : decode cX9_settled 8 = .ok (.dup, 1) := by decide +kernel
theorem dX9_settled_9 : decode cX9_settled 9 = .ok (.ldc 116, 2) := by decide +kernel
theorem dX9_settled_11 : decode cX9_settled 11 = .ok (.invokespecial 118, 3) := by decide +kernel
theorem dX9_settled_14 : decode cX9_settled 14 = .ok (.athrow, 1) := by decide +kernel
theorem dX9_settled_15 : decode cX9_settled 15 = .ok (.aload_n 0, 1) := by decide +kernel
theorem dX9_settled_16 : decode cX9_settled 16 = .ok (.getfield 29, 3) := by decide +kernel
theorem dX9_settled_19 : decode cX9_settled 19 = .ok (.aload_n 0, 1) := by decide +kernel
theorem dX9_settled_20 : decode cX9_settled 20 = .ok (.getfield 16, 3) := by decide +kernel
theorem dX9_settled_23 : decode cX9_settled 23 = .ok (.invokevirtual 121, 3) := by decide +kernel
theorem dX9_settled_26 : decode cX9_settled 26 = .ok (.iload_n 1, 1) := by decide +kernel
theorem dX9_settled_27 : decode cX9_settled 27 = .ok (.ireturn, 1) := by decide +kernel
theorem dX9_leaves_0 : decode cX9_leaves 0 = .ok (.aload_n 0, 1) := by decide +kernel
theorem dX9_leaves_1 : decode cX9_leaves 1 = .ok (.getfield 10, 3) := by decide +kernel
theorem dX9_leaves_4 : decode cX9_leaves 4 = .ok (.getfield 42, 3) := by decide +kernel
theorem dX9_leaves_7 : decode cX9_leaves 7 = .ok (.iload_n 1, 1) := by decide +kernel
theorem dX9_leaves_8 : decode cX9_leaves 8 = .ok (.iload_n 2, 1) := by decide +kernel
theorem dX9_leaves_9 : decode cX9_leaves 9 = .ok (.invokestatic 124, 3) := by decide +kernel
theorem dX9_leaves_12 : decode cX9_leaves 12 = .ok (.invokevirtual 127, 3) := by decide +kernel
theorem dX9_leaves_15 : decode cX9_leaves 15 = .ok (.ireturn, 1) := by decide +kernel
theorem dX9_isGap_0 : decode cX9_isGap 0 = .ok (.iload_n 1, 1) := by decide +kernel
theorem dX9_isGap_1 : decode cX9_isGap 1 = .ok (.iload_n 2, 1) := by decide +kernel
theorem dX9_isGap_2 : decode cX9_isGap 2 = .ok (.invokestatic 132, 3) := by decide +kernel
theorem dX9_isGap_5 : decode cX9_isGap 5 = .ok (.aload_n 0, 1) := by decide +kernel
theorem dX9_isGap_6 : decode cX9_isGap 6 = .ok (.getfield 10, 3) := by decide +kernel
theorem dX9_isGap_9 : decode cX9_isGap 9 = .ok (.getfield 42, 3) := by decide +kernel
theorem dX9_isGap_12 : decode cX9_isGap 12 = .ok (.iload_n 1, 1) := by decide +kernel
theorem dX9_isGap_13 : decode cX9_isGap 13 = .ok (.iload_n 2, 1) := by decide +kernel
theorem dX9_isGap_14 : decode cX9_isGap 14 = .ok (.invokestatic 136, 3) := by decide +kernel
theorem dX9_isGap_17 : decode cX9_isGap 17 = .ok (.invokevirtual 139, 3) := by decide +kernel
theorem dX9_isGap_20 : decode cX9_isGap 20 = .ok (.ireturn, 1) := by decide +kernel
theorem dX9_hours_0 : decode cX9_hours 0 = .ok (.iload_n 1, 1) := by decide +kernel
theorem dX9_hours_1 : decode cX9_hours 1 = .ok (.iload_n 2, 1) := by decide +kernel
theorem dX9_hours_2 : decode cX9_hours 2 = .ok (.invokestatic 132, 3) := by decide +kernel
theorem dX9_hours_5 : decode cX9_hours 5 = .ok (.aload_n 0, 1) := by decide +kernel
theorem dX9_hours_6 : decode cX9_hours 6 = .ok (.getfield 49, 3) := by decide +kernel
theorem dX9_hours_9 : decode cX9_hours 9 = .ok (.iload_n 1, 1) := by decide +kernel
theorem dX9_hours_10 : decode cX9_hours 10 = .ok (.iload_n 2, 1) := by decide +kernel
theorem dX9_hours_11 : decode cX9_hours 11 = .ok (.invokevirtual 143, 3) := by decide +kernel
theorem dX9_hours_14 : decode cX9_hours 14 = .ok (.invokestatic 146, 3) := by decide +kernel
theorem dX9_hours_17 : decode cX9_hours 17 = .ok (.ireturn, 1) := by decide +kernel
theorem dX9_hoursAgain_0 : decode cX9_hoursAgain 0 = .ok (.iload_n 1, 1) := by decide +kernel
theorem dX9_hoursAgain_1 : decode cX9_hoursAgain 1 = .ok (.iload_n 2, 1) := by decide +kernel
theorem dX9_hoursAgain_2 : decode cX9_hoursAgain 2 = .ok (.invokestatic 132, 3) := by decide +kernel
theorem dX9_hoursAgain_5 : decode cX9_hoursAgain 5 = .ok (.aload_n 0, 1) := by decide +kernel
theorem dX9_hoursAgain_6 : decode cX9_hoursAgain 6 = .ok (.getfield 49, 3) := by decide +kernel
theorem dX9_hoursAgain_9 : decode cX9_hoursAgain 9 = .ok (.iload_n 1, 1) := by decide +kernel
theorem dX9_hoursAgain_10 : decode cX9_hoursAgain 10 = .ok (.iload_n 2, 1) := by decide +kernel
theorem dX9_hoursAgain_11 : decode cX9_hoursAgain 11 = .ok (.invokevirtual 149, 3) := by decide +kernel
theorem dX9_hoursAgain_14 : decode cX9_hoursAgain 14 = .ok (.invokestatic 146, 3) := by decide +kernel
theorem dX9_hoursAgain_17 : decode cX9_hoursAgain 17 = .ok (.ireturn, 1) := by decide +kernel
theorem dX9_next_0 : decode cX9_next 0 = .ok (.iload_n 1, 1) := by decide +kernel
theorem dX9_next_1 : decode cX9_next 1 = .ok (.iload_n 1, 1) := by decide +kernel
theorem dX9_next_2 : decode cX9_next 2 = .ok (.invokestatic 132, 3) := by decide +kernel
theorem dX9_next_5 : decode cX9_next 5 = .ok (.aload_n 0, 1) := by decide +kernel
theorem dX9_next_6 : decode cX9_next 6 = .ok (.getfield 49, 3) := by decide +kernel
theorem dX9_next_9 : decode cX9_next 9 = .ok (.iload_n 1, 1) := by decide +kernel
theorem dX9_next_10 : decode cX9_next 10 = .ok (.invokevirtual 152, 3) := by decide +kernel
theorem dX9_next_13 : decode cX9_next 13 = .ok (.istore_n 2, 1) := by decide +kernel
theorem dX9_next_14 : decode cX9_next 14 = .ok (.iload_n 2, 1) := by decide +kernel
theorem dX9_next_15 : decode cX9_next 15 = .ok (.iconst (-1), 1) := by decide +kernel
theorem dX9_next_16 : decode cX9_next 16 = .ok (.if_icmp .ne 13, 3) := by decide +kernel
theorem dX9_next_19 : decode cX9_next 19 = .ok (.new 155, 3) := by decide +kernel
theorem dX9_next_22 : decode cX9_next 22 = .ok (.dup, 1) := by decide +kernel
theorem dX9_next_23 : decode cX9_next 23 = .ok (.ldc 157, 2) := by decide +kernel
theorem dX9_next_25 : decode cX9_next 25 = .ok (.invokespecial 159, 3) := by decide +kernel
theorem dX9_next_28 : decode cX9_next 28 = .ok (.athrow, 1) := by decide +kernel
theorem dX9_next_29 : decode cX9_next 29 = .ok (.iload_n 2, 1) := by decide +kernel
theorem dX9_next_30 : decode cX9_next 30 = .ok (.ireturn, 1) := by decide +kernel
theorem dX9_reached_0 : decode cX9_reached 0 = .ok (.iload_n 1, 1) := by decide +kernel
theorem dX9_reached_1 : decode cX9_reached 1 = .ok (.iload_n 1, 1) := by decide +kernel
theorem dX9_reached_2 : decode cX9_reached 2 = .ok (.invokestatic 132, 3) := by decide +kernel
theorem dX9_reached_5 : decode cX9_reached 5 = .ok (.aload_n 0, 1) := by decide +kernel
theorem dX9_reached_6 : decode cX9_reached 6 = .ok (.getfield 49, 3) := by decide +kernel
theorem dX9_reached_9 : decode cX9_reached 9 = .ok (.iload_n 1, 1) := by decide +kernel
theorem dX9_reached_10 : decode cX9_reached 10 = .ok (.invokevirtual 160, 3) := by decide +kernel
theorem dX9_reached_13 : decode cX9_reached 13 = .ok (.ireturn, 1) := by decide +kernel
theorem dX9_trims_0 : decode cX9_trims 0 = .ok (.iload_n 1, 1) := by decide +kernel
theorem dX9_trims_1 : decode cX9_trims 1 = .ok (.iload_n 1, 1) := by decide +kernel
theorem dX9_trims_2 : decode cX9_trims 2 = .ok (.invokestatic 132, 3) := by decide +kernel
theorem dX9_trims_5 : decode cX9_trims 5 = .ok (.aload_n 0, 1) := by decide +kernel
theorem dX9_trims_6 : decode cX9_trims 6 = .ok (.getfield 49, 3) := by decide +kernel
theorem dX9_trims_9 : decode cX9_trims 9 = .ok (.iload_n 1, 1) := by decide +kernel
theorem dX9_trims_10 : decode cX9_trims 10 = .ok (.invokevirtual 163, 3) := by decide +kernel
theorem dX9_trims_13 : decode cX9_trims 13 = .ok (.ireturn, 1) := by decide +kernel
theorem dX9_trimsAgain_0 : decode cX9_trimsAgain 0 = .ok (.iload_n 1, 1) := by decide +kernel
theorem dX9_trimsAgain_1 : decode cX9_trimsAgain 1 = .ok (.iload_n 1, 1) := by decide +kernel
theorem dX9_trimsAgain_2 : decode cX9_trimsAgain 2 = .ok (.invokestatic 132, 3) := by decide +kernel
theorem dX9_trimsAgain_5 : decode cX9_trimsAgain 5 = .ok (.aload_n 0, 1) := by decide +kernel
theorem dX9_trimsAgain_6 : decode cX9_trimsAgain 6 = .ok (.getfield 49, 3) := by decide +kernel
theorem dX9_trimsAgain_9 : decode cX9_trimsAgain 9 = .ok (.iload_n 1, 1) := by decide +kernel
theorem dX9_trimsAgain_10 : decode cX9_trimsAgain 10 = .ok (.invokevirtual 166, 3) := by decide +kernel
theorem dX9_trimsAgain_13 : decode cX9_trimsAgain 13 = .ok (.ireturn, 1) := by decide +kernel
theorem dX9_isNeeded_0 : decode cX9_isNeeded 0 = .ok (.iload_n 1, 1) := by decide +kernel
theorem dX9_isNeeded_1 : decode cX9_isNeeded 1 = .ok (.iload_n 2, 1) := by decide +kernel
theorem dX9_isNeeded_2 : decode cX9_isNeeded 2 = .ok (.invokestatic 124, 3) := by decide +kernel
theorem dX9_isNeeded_5 : decode cX9_isNeeded 5 = .ok (.istore_n 3, 1) := by decide +kernel
theorem dX9_isNeeded_6 : decode cX9_isNeeded 6 = .ok (.aload_n 0, 1) := by decide +kernel
theorem dX9_isNeeded_7 : decode cX9_isNeeded 7 = .ok (.getfield 49, 3) := by decide +kernel
theorem dX9_isNeeded_10 : decode cX9_isNeeded 10 = .ok (.iconst 5, 1) := by decide +kernel
theorem dX9_isNeeded_11 : decode cX9_isNeeded 11 = .ok (.iconst (-1), 1) := by decide +kernel
theorem dX9_isNeeded_12 : decode cX9_isNeeded 12 = .ok (.invokevirtual 169, 3) := by decide +kernel
theorem dX9_isNeeded_15 : decode cX9_isNeeded 15 = .ok (.ifCond .eq 19, 3) := by decide +kernel
theorem dX9_isNeeded_18 : decode cX9_isNeeded 18 = .ok (.aload_n 0, 1) := by decide +kernel
theorem dX9_isNeeded_19 : decode cX9_isNeeded 19 = .ok (.getfield 49, 3) := by decide +kernel
theorem dX9_isNeeded_22 : decode cX9_isNeeded 22 = .ok (.iconst 5, 1) := by decide +kernel
theorem dX9_isNeeded_23 : decode cX9_isNeeded 23 = .ok (.iload_n 3, 1) := by decide +kernel
theorem dX9_isNeeded_24 : decode cX9_isNeeded 24 = .ok (.invokevirtual 169, 3) := by decide +kernel
theorem dX9_isNeeded_27 : decode cX9_isNeeded 27 = .ok (.ifCond .ne 7, 3) := by decide +kernel
theorem dX9_isNeeded_30 : decode cX9_isNeeded 30 = .ok (.iconst 1, 1) := by decide +kernel
theorem dX9_isNeeded_31 : decode cX9_isNeeded 31 = .ok (.goto 4, 3) := by decide +kernel
theorem dX9_isNeeded_34 : decode cX9_isNeeded 34 = .ok (.iconst 0, 1) := by decide +kernel
theorem dX9_isNeeded_35 : decode cX9_isNeeded 35 = .ok (.ireturn, 1) := by decide +kernel
theorem dX9_closesIn_0 : decode cX9_closesIn 0 = .ok (.aload_n 0, 1) := by decide +kernel
theorem dX9_closesIn_1 : decode cX9_closesIn 1 = .ok (.getfield 10, 3) := by decide +kernel
theorem dX9_closesIn_4 : decode cX9_closesIn 4 = .ok (.getfield 42, 3) := by decide +kernel
theorem dX9_closesIn_7 : decode cX9_closesIn 7 = .ok (.iload_n 1, 1) := by decide +kernel
theorem dX9_closesIn_8 : decode cX9_closesIn 8 = .ok (.iload_n 2, 1) := by decide +kernel
theorem dX9_closesIn_9 : decode cX9_closesIn 9 = .ok (.invokestatic 124, 3) := by decide +kernel
theorem dX9_closesIn_12 : decode cX9_closesIn 12 = .ok (.invokevirtual 127, 3) := by decide +kernel
theorem dX9_closesIn_15 : decode cX9_closesIn 15 = .ok (.istore_n 3, 1) := by decide +kernel
theorem dX9_closesIn_16 : decode cX9_closesIn 16 = .ok (.iconst 0, 1) := by decide +kernel
theorem dX9_closesIn_17 : decode cX9_closesIn 17 = .ok (.iconst 5, 1) := by decide +kernel
theorem dX9_closesIn_18 : decode cX9_closesIn 18 = .ok (.iload_n 3, 1) := by decide +kernel
theorem dX9_closesIn_19 : decode cX9_closesIn 19 = .ok (.isub, 1) := by decide +kernel
theorem dX9_closesIn_20 : decode cX9_closesIn 20 = .ok (.invokestatic 173, 3) := by decide +kernel
theorem dX9_closesIn_23 : decode cX9_closesIn 23 = .ok (.ireturn, 1) := by decide +kernel
theorem dX9_summersLeft_0 : decode cX9_summersLeft 0 = .ok (.iconst 0, 1) := by decide +kernel
theorem dX9_summersLeft_1 : decode cX9_summersLeft 1 = .ok (.istore_n 1, 1) := by decide +kernel
theorem dX9_summersLeft_2 : decode cX9_summersLeft 2 = .ok (.iload_n 1, 1) := by decide +kernel
theorem dX9_summersLeft_3 : decode cX9_summersLeft 3 = .ok (.iconst 5, 1) := by decide +kernel
theorem dX9_summersLeft_4 : decode cX9_summersLeft 4 = .ok (.if_icmp .ge 25, 3) := by decide +kernel
theorem dX9_summersLeft_7 : decode cX9_summersLeft 7 = .ok (.aload_n 0, 1) := by decide +kernel
theorem dX9_summersLeft_8 : decode cX9_summersLeft 8 = .ok (.getfield 49, 3) := by decide +kernel
theorem dX9_summersLeft_11 : decode cX9_summersLeft 11 = .ok (.iconst 5, 1) := by decide +kernel
theorem dX9_summersLeft_12 : decode cX9_summersLeft 12 = .ok (.iload_n 1, 1) := by decide +kernel
theorem dX9_summersLeft_13 : decode cX9_summersLeft 13 = .ok (.isub, 1) := by decide +kernel
theorem dX9_summersLeft_14 : decode cX9_summersLeft 14 = .ok (.iconst (-1), 1) := by decide +kernel
theorem dX9_summersLeft_15 : decode cX9_summersLeft 15 = .ok (.invokevirtual 169, 3) := by decide +kernel
theorem dX9_summersLeft_18 : decode cX9_summersLeft 18 = .ok (.ifCond .ne 5, 3) := by decide +kernel
theorem dX9_summersLeft_21 : decode cX9_summersLeft 21 = .ok (.iload_n 1, 1) := by decide +kernel
theorem dX9_summersLeft_22 : decode cX9_summersLeft 22 = .ok (.ireturn, 1) := by decide +kernel
theorem dX9_summersLeft_23 : decode cX9_summersLeft 23 = .ok (.iinc 1 1, 3) := by decide +kernel
theorem dX9_summersLeft_26 : decode cX9_summersLeft 26 = .ok (.goto (-24), 3) := by decide +kernel
theorem dX9_summersLeft_29 : decode cX9_summersLeft 29 = .ok (.iconst 5, 1) := by decide +kernel
theorem dX9_summersLeft_30 : decode cX9_summersLeft 30 = .ok (.ireturn, 1) := by decide +kernel
theorem dX9_demandCells_0 : decode cX9_demandCells 0 = .ok (.iload_n 0, 1) := by decide +kernel
theorem dX9_demandCells_1 : decode cX9_demandCells 1 = .ok (.invokestatic 178, 3) := by decide +kernel
theorem dX9_demandCells_4 : decode cX9_demandCells 4 = .ok (.ifCond .eq 10, 3) := by decide +kernel
theorem dX9_demandCells_7 : decode cX9_demandCells 7 = .ok (.iload_n 1, 1) := by decide +kernel
theorem dX9_demandCells_8 : decode cX9_demandCells 8 = .ok (.invokestatic 178, 3) := by decide +kernel
theorem dX9_demandCells_11 : decode cX9_demandCells 11 = .ok (.ifCond .ne 13, 3) := by decide +kernel
theorem dX9_demandCells_14 : decode cX9_demandCells 14 = .ok (.new 181, 3) := by decide +kernel
theorem dX9_demandCells_17 : decode cX9_demandCells 17 = .ok (.dup, 1) := by decide +kernel
theorem dX9_demandCells_18 : decode cX9_demandCells 18 = .ok (.ldc 183, 2) := by decide +kernel
theorem dX9_demandCells_20 : decode cX9_demandCells 20 = .ok (.invokespecial 185, 3) := by decide +kernel
theorem dX9_demandCells_23 : decode cX9_demandCells 23 = .ok (.athrow, 1) := by decide +kernel
theorem dX9_demandCells_24 : decode cX9_demandCells 24 = .ok (.return_, 1) := by decide +kernel
theorem dX9_hedgeAsked_0 : decode cX9_hedgeAsked 0 = .ok (.iload_n 0, 1) := by decide +kernel
theorem dX9_hedgeAsked_1 : decode cX9_hedgeAsked 1 = .ok (.iload_n 1, 1) := by decide +kernel
theorem dX9_hedgeAsked_2 : decode cX9_hedgeAsked 2 = .ok (.invokestatic 132, 3) := by decide +kernel
theorem dX9_hedgeAsked_5 : decode cX9_hedgeAsked 5 = .ok (.iload_n 0, 1) := by decide +kernel
theorem dX9_hedgeAsked_6 : decode cX9_hedgeAsked 6 = .ok (.iload_n 1, 1) := by decide +kernel
theorem dX9_hedgeAsked_7 : decode cX9_hedgeAsked 7 = .ok (.invokestatic 136, 3) := by decide +kernel
theorem dX9_hedgeAsked_10 : decode cX9_hedgeAsked 10 = .ok (.istore_n 2, 1) := by decide +kernel
theorem dX9_hedgeAsked_11 : decode cX9_hedgeAsked 11 = .ok (.iload_n 2, 1) := by decide +kernel
theorem dX9_hedgeAsked_12 : decode cX9_hedgeAsked 12 = .ok (.iconst (-1), 1) := by decide +kernel
theorem dX9_hedgeAsked_13 : decode cX9_hedgeAsked 13 = .ok (.if_icmp .ne 13, 3) := by decide +kernel
theorem dX9_hedgeAsked_16 : decode cX9_hedgeAsked 16 = .ok (.new 155, 3) := by decide +kernel
theorem dX9_hedgeAsked_19 : decode cX9_hedgeAsked 19 = .ok (.dup, 1) := by decide +kernel
theorem dX9_hedgeAsked_20 : decode cX9_hedgeAsked 20 = .ok (.ldc 186, 2) := by decide +kernel
theorem dX9_hedgeAsked_22 : decode cX9_hedgeAsked 22 = .ok (.invokespecial 159, 3) := by decide +kernel
theorem dX9_hedgeAsked_25 : decode cX9_hedgeAsked 25 = .ok (.athrow, 1) := by decide +kernel
theorem dX9_hedgeAsked_26 : decode cX9_hedgeAsked 26 = .ok (.iload_n 2, 1) := by decide +kernel
theorem dX9_hedgeAsked_27 : decode cX9_hedgeAsked 27 = .ok (.ireturn, 1) := by decide +kernel
theorem dX9_demandWay_0 : decode cX9_demandWay 0 = .ok (.iload_n 0, 1) := by decide +kernel
theorem dX9_demandWay_1 : decode cX9_demandWay 1 = .ok (.sipush 1000, 3) := by decide +kernel
theorem dX9_demandWay_4 : decode cX9_demandWay 4 = .ok (.if_icmp .lt 13, 3) := by decide +kernel
theorem dX9_demandWay_7 : decode cX9_demandWay 7 = .ok (.new 155, 3) := by decide +kernel
theorem dX9_demandWay_10 : decode cX9_demandWay 10 = .ok (.dup, 1) := by decide +kernel
theorem dX9_demandWay_11 : decode cX9_demandWay 11 = .ok (.ldc 188, 2) := by decide +kernel
theorem dX9_demandWay_13 : decode cX9_demandWay 13 = .ok (.invokespecial 159, 3) := by decide +kernel
theorem dX9_demandWay_16 : decode cX9_demandWay 16 = .ok (.athrow, 1) := by decide +kernel
theorem dX9_demandWay_17 : decode cX9_demandWay 17 = .ok (.iload_n 0, 1) := by decide +kernel
theorem dX9_demandWay_18 : decode cX9_demandWay 18 = .ok (.ireturn, 1) := by decide +kernel
theorem dX9_gardenerOf_0 : decode cX9_gardenerOf 0 = .ok (.aload_n 0, 1) := by decide +kernel
theorem dX9_gardenerOf_1 : decode cX9_gardenerOf 1 = .ok (.iload_n 1, 1) := by decide +kernel
theorem dX9_gardenerOf_2 : decode cX9_gardenerOf 2 = .ok (.invokevirtual 190, 3) := by decide +kernel
theorem dX9_gardenerOf_5 : decode cX9_gardenerOf 5 = .ok (.astore_n 3, 1) := by decide +kernel
theorem dX9_gardenerOf_6 : decode cX9_gardenerOf 6 = .ok (.iload_n 2, 1) := by decide +kernel
theorem dX9_gardenerOf_7 : decode cX9_gardenerOf 7 = .ok (.tableswitch 62 0 4 #[33, 38, 47, 52, 57], 33) := by decide +kernel
theorem dX9_gardenerOf_40 : decode cX9_gardenerOf 40 = .ok (.aload_n 3, 1) := by decide +kernel
theorem dX9_gardenerOf_41 : decode cX9_gardenerOf 41 = .ok (.getfield 194, 3) := by decide +kernel
theorem dX9_gardenerOf_44 : decode cX9_gardenerOf 44 = .ok (.ireturn, 1) := by decide +kernel
theorem dX9_gardenerOf_45 : decode cX9_gardenerOf 45 = .ok (.aload_n 0, 1) := by decide +kernel
theorem dX9_gardenerOf_46 : decode cX9_gardenerOf 46 = .ok (.getfield 10, 3) := by decide +kernel
theorem dX9_gardenerOf_49 : decode cX9_gardenerOf 49 = .ok (.iload_n 1, 1) := by decide +kernel
theorem dX9_gardenerOf_50 : decode cX9_gardenerOf 50 = .ok (.invokevirtual 200, 3) := by decide +kernel
theorem dX9_gardenerOf_53 : decode cX9_gardenerOf 53 = .ok (.ireturn, 1) := by decide +kernel
theorem dX9_gardenerOf_54 : decode cX9_gardenerOf 54 = .ok (.aload_n 3, 1) := by decide +kernel
theorem dX9_gardenerOf_55 : decode cX9_gardenerOf 55 = .ok (.getfield 203, 3) := by decide +kernel
theorem dX9_gardenerOf_58 : decode cX9_gardenerOf 58 = .ok (.ireturn, 1) := by decide +kernel
theorem dX9_gardenerOf_59 : decode cX9_gardenerOf 59 = .ok (.aload_n 3, 1) := by decide +kernel
theorem dX9_gardenerOf_60 : decode cX9_gardenerOf 60 = .ok (.getfield 206, 3) := by decide +kernel
theorem dX9_gardenerOf_63 : decode cX9_gardenerOf 63 = .ok (.ireturn, 1) := by decide +kernel
theorem dX9_gardenerOf_64 : decode cX9_gardenerOf 64 = .ok (.aload_n 3, 1) := by decide +kernel
theorem dX9_gardenerOf_65 : decode cX9_gardenerOf 65 = .ok (.getfield 209, 3) := by decide +kernel
theorem dX9_gardenerOf_68 : decode cX9_gardenerOf 68 = .ok (.ireturn, 1) := by decide +kernel
theorem dX9_gardenerOf_69 : decode cX9_gardenerOf 69 = .ok (.new 212, 3) := by decide +kernel
theorem dX9_gardenerOf_72 : decode cX9_gardenerOf 72 = .ok (.dup, 1) := by decide +kernel
theorem dX9_gardenerOf_73 : decode cX9_gardenerOf 73 = .ok (.ldc 214, 2) := by decide +kernel
theorem dX9_gardenerOf_75 : decode cX9_gardenerOf 75 = .ok (.invokespecial 216, 3) := by decide +kernel
theorem dX9_gardenerOf_78 : decode cX9_gardenerOf 78 = .ok (.athrow, 1) := by decide +kernel
theorem dX9_visitorOf_0 : decode cX9_visitorOf 0 = .ok (.aload_n 0, 1) := by decide +kernel
theorem dX9_visitorOf_1 : decode cX9_visitorOf 1 = .ok (.iload_n 1, 1) := by decide +kernel
theorem dX9_visitorOf_2 : decode cX9_visitorOf 2 = .ok (.invokevirtual 217, 3) := by decide +kernel
theorem dX9_visitorOf_5 : decode cX9_visitorOf 5 = .ok (.astore_n 3, 1) := by decide +kernel
theorem dX9_visitorOf_6 : decode cX9_visitorOf 6 = .ok (.iload_n 2, 1) := by decide +kernel
theorem dX9_visitorOf_7 : decode cX9_visitorOf 7 = .ok (.ifCond .lt 9, 3) := by decide +kernel
theorem dX9_visitorOf_10 : decode cX9_visitorOf 10 = .ok (.iload_n 2, 1) := by decide +kernel
theorem dX9_visitorOf_11 : decode cX9_visitorOf 11 = .ok (.bipush 8, 2) := by decide +kernel
theorem dX9_visitorOf_13 : decode cX9_visitorOf 13 = .ok (.if_icmp .le 13, 3) := by decide +kernel
theorem dX9_visitorOf_16 : decode cX9_visitorOf 16 = .ok (.new 212, 3) := by decide +kernel
theorem dX9_visitorOf_19 : decode cX9_visitorOf 19 = .ok (.dup, 1) := by decide +kernel
theorem dX9_visitorOf_20 : decode cX9_visitorOf 20 = .ok (.ldc 221, 2) := by decide +kernel
theorem dX9_visitorOf_22 : decode cX9_visitorOf 22 = .ok (.invokespecial 216, 3) := by decide +kernel
theorem dX9_visitorOf_25 : decode cX9_visitorOf 25 = .ok (.athrow, 1) := by decide +kernel
theorem dX9_visitorOf_26 : decode cX9_visitorOf 26 = .ok (.aload_n 3, 1) := by decide +kernel
theorem dX9_visitorOf_27 : decode cX9_visitorOf 27 = .ok (.iload_n 2, 1) := by decide +kernel
theorem dX9_visitorOf_28 : decode cX9_visitorOf 28 = .ok (.invokevirtual 223, 3) := by decide +kernel
theorem dX9_visitorOf_31 : decode cX9_visitorOf 31 = .ok (.ireturn, 1) := by decide +kernel
theorem dX9_wouldPay_0 : decode cX9_wouldPay 0 = .ok (.aload_n 0, 1) := by decide +kernel
theorem dX9_wouldPay_1 : decode cX9_wouldPay 1 = .ok (.iload_n 1, 1) := by decide +kernel
theorem dX9_wouldPay_2 : decode cX9_wouldPay 2 = .ok (.invokevirtual 217, 3) := by decide +kernel
theorem dX9_wouldPay_5 : decode cX9_wouldPay 5 = .ok (.astore_n 2, 1) := by decide +kernel
theorem dX9_wouldPay_6 : decode cX9_wouldPay 6 = .ok (.aload_n 0, 1) := by decide +kernel
theorem dX9_wouldPay_7 : decode cX9_wouldPay 7 = .ok (.getfield 10, 3) := by decide +kernel
theorem dX9_wouldPay_10 : decode cX9_wouldPay 10 = .ok (.aload_n 2, 1) := by decide +kernel
theorem dX9_wouldPay_11 : decode cX9_wouldPay 11 = .ok (.getfield 228, 3) := by decide +kernel
theorem dX9_wouldPay_14 : decode cX9_wouldPay 14 = .ok (.invokevirtual 231, 3) := by decide +kernel
theorem dX9_wouldPay_17 : decode cX9_wouldPay 17 = .ok (.astore_n 3, 1) := by decide +kernel
theorem dX9_wouldPay_18 : decode cX9_wouldPay 18 = .ok (.aload_n 2, 1) := by decide +kernel
theorem dX9_wouldPay_19 : decode cX9_wouldPay 19 = .ok (.getfield 234, 3) := by decide +kernel
theorem dX9_wouldPay_22 : decode cX9_wouldPay 22 = .ok (.ifCond .ne 7, 3) := by decide +kernel
theorem dX9_wouldPay_25 : decode cX9_wouldPay 25 = .ok (.aload_n 3, 1) := by decide +kernel
theorem dX9_wouldPay_26 : decode cX9_wouldPay 26 = .ok (.ifnonnull 13, 3) := by decide +kernel
theorem dX9_wouldPay_29 : decode cX9_wouldPay 29 = .ok (.new 155, 3) := by decide +kernel
theorem dX9_wouldPay_32 : decode cX9_wouldPay 32 = .ok (.dup, 1) := by decide +kernel
theorem dX9_wouldPay_33 : decode cX9_wouldPay 33 = .ok (.ldc 237, 2) := by decide +kernel
theorem dX9_wouldPay_35 : decode cX9_wouldPay 35 = .ok (.invokespecial 159, 3) := by decide +kernel
theorem dX9_wouldPay_38 : decode cX9_wouldPay 38 = .ok (.athrow, 1) := by decide +kernel
theorem dX9_wouldPay_39 : decode cX9_wouldPay 39 = .ok (.aload_n 0, 1) := by decide +kernel
theorem dX9_wouldPay_40 : decode cX9_wouldPay 40 = .ok (.getfield 49, 3) := by decide +kernel
theorem dX9_wouldPay_43 : decode cX9_wouldPay 43 = .ok (.aload_n 2, 1) := by decide +kernel
theorem dX9_wouldPay_44 : decode cX9_wouldPay 44 = .ok (.getfield 239, 3) := by decide +kernel
theorem dX9_wouldPay_47 : decode cX9_wouldPay 47 = .ok (.bipush 15, 2) := by decide +kernel
theorem dX9_wouldPay_49 : decode cX9_wouldPay 49 = .ok (.invokevirtual 143, 3) := by decide +kernel
theorem dX9_wouldPay_52 : decode cX9_wouldPay 52 = .ok (.invokestatic 146, 3) := by decide +kernel
theorem dX9_wouldPay_55 : decode cX9_wouldPay 55 = .ok (.istore 4, 2) := by decide +kernel
theorem dX9_wouldPay_57 : decode cX9_wouldPay 57 = .ok (.aload_n 2, 1) := by decide +kernel
theorem dX9_wouldPay_58 : decode cX9_wouldPay 58 = .ok (.iload 4, 2) := by decide +kernel
theorem dX9_wouldPay_60 : decode cX9_wouldPay 60 = .ok (.invokevirtual 242, 3) := by decide +kernel
theorem dX9_wouldPay_63 : decode cX9_wouldPay 63 = .ok (.aload_n 3, 1) := by decide +kernel
theorem dX9_wouldPay_64 : decode cX9_wouldPay 64 = .ok (.getfield 194, 3) := by decide +kernel
theorem dX9_wouldPay_67 : decode cX9_wouldPay 67 = .ok (.invokestatic 245, 3) := by decide +kernel
theorem dX9_wouldPay_70 : decode cX9_wouldPay 70 = .ok (.ireturn, 1) := by decide +kernel
theorem dX9_owed_0 : decode cX9_owed 0 = .ok (.aload_n 0, 1) := by decide +kernel
theorem dX9_owed_1 : decode cX9_owed 1 = .ok (.iload_n 1, 1) := by decide +kernel
theorem dX9_owed_2 : decode cX9_owed 2 = .ok (.invokevirtual 190, 3) := by decide +kernel
theorem dX9_owed_5 : decode cX9_owed 5 = .ok (.pop, 1) := by decide +kernel
theorem dX9_owed_6 : decode cX9_owed 6 = .ok (.aload_n 0, 1) := by decide +kernel
theorem dX9_owed_7 : decode cX9_owed 7 = .ok (.getfield 10, 3) := by decide +kernel
theorem dX9_owed_10 : decode cX9_owed 10 = .ok (.iload_n 1, 1) := by decide +kernel
theorem dX9_owed_11 : decode cX9_owed 11 = .ok (.invokevirtual 248, 3) := by decide +kernel
theorem dX9_owed_14 : decode cX9_owed 14 = .ok (.ireturn, 1) := by decide +kernel
theorem dX9_gardenerAsked_0 : decode cX9_gardenerAsked 0 = .ok (.aload_n 0, 1) := by decide +kernel
theorem dX9_gardenerAsked_1 : decode cX9_gardenerAsked 1 = .ok (.getfield 10, 3) := by decide +kernel
theorem dX9_gardenerAsked_4 : decode cX9_gardenerAsked 4 = .ok (.iload_n 1, 1) := by decide +kernel
theorem dX9_gardenerAsked_5 : decode cX9_gardenerAsked 5 = .ok (.invokevirtual 231, 3) := by decide +kernel
theorem dX9_gardenerAsked_8 : decode cX9_gardenerAsked 8 = .ok (.astore_n 2, 1) := by decide +kernel
theorem dX9_gardenerAsked_9 : decode cX9_gardenerAsked 9 = .ok (.aload_n 2, 1) := by decide +kernel
theorem dX9_gardenerAsked_10 : decode cX9_gardenerAsked 10 = .ok (.ifnonnull 13, 3) := by decide +kernel
theorem dX9_gardenerAsked_13 : decode cX9_gardenerAsked 13 = .ok (.new 181, 3) := by decide +kernel
theorem dX9_gardenerAsked_16 : decode cX9_gardenerAsked 16 = .ok (.dup, 1) := by decide +kernel
theorem dX9_gardenerAsked_17 : decode cX9_gardenerAsked 17 = .ok (.ldc 251, 2) := by decide +kernel
theorem dX9_gardenerAsked_19 : decode cX9_gardenerAsked 19 = .ok (.invokespecial 185, 3) := by decide +kernel
theorem dX9_gardenerAsked_22 : decode cX9_gardenerAsked 22 = .ok (.athrow, 1) := by decide +kernel
theorem dX9_gardenerAsked_23 : decode cX9_gardenerAsked 23 = .ok (.aload_n 2, 1) := by decide +kernel
theorem dX9_gardenerAsked_24 : decode cX9_gardenerAsked 24 = .ok (.areturn, 1) := by decide +kernel
theorem dX9_visitorAsked_0 : decode cX9_visitorAsked 0 = .ok (.aload_n 0, 1) := by decide +kernel
theorem dX9_visitorAsked_1 : decode cX9_visitorAsked 1 = .ok (.getfield 10, 3) := by decide +kernel
theorem dX9_visitorAsked_4 : decode cX9_visitorAsked 4 = .ok (.iload_n 1, 1) := by decide +kernel
theorem dX9_visitorAsked_5 : decode cX9_visitorAsked 5 = .ok (.invokevirtual 253, 3) := by decide +kernel
theorem dX9_visitorAsked_8 : decode cX9_visitorAsked 8 = .ok (.astore_n 2, 1) := by decide +kernel
theorem dX9_visitorAsked_9 : decode cX9_visitorAsked 9 = .ok (.aload_n 2, 1) := by decide +kernel
theorem dX9_visitorAsked_10 : decode cX9_visitorAsked 10 = .ok (.ifnonnull 14, 3) := by decide +kernel
theorem dX9_visitorAsked_13 : decode cX9_visitorAsked 13 = .ok (.new 181, 3) := by decide +kernel
theorem dX9_visitorAsked_16 : decode cX9_visitorAsked 16 = .ok (.dup, 1) := by decide +kernel
theorem dX9_visitorAsked_17 : decode cX9_visitorAsked 17 = .ok (.ldc_w 256, 3) := by decide +kernel
theorem dX9_visitorAsked_20 : decode cX9_visitorAsked 20 = .ok (.invokespecial 185, 3) := by decide +kernel
theorem dX9_visitorAsked_23 : decode cX9_visitorAsked 23 = .ok (.athrow, 1) := by decide +kernel
theorem dX9_visitorAsked_24 : decode cX9_visitorAsked 24 = .ok (.aload_n 2, 1) := by decide +kernel
theorem dX9_visitorAsked_25 : decode cX9_visitorAsked 25 = .ok (.areturn, 1) := by decide +kernel
theorem dX9_ranked_0 : decode cX9_ranked 0 = .ok (.iload_n 1, 1) := by decide +kernel
theorem dX9_ranked_1 : decode cX9_ranked 1 = .ok (.tableswitch 60 0 3 #[31, 38, 45, 52], 31) := by decide +kernel
theorem dX9_ranked_32 : decode cX9_ranked 32 = .ok (.aload_n 0, 1) := by decide +kernel
theorem dX9_ranked_33 : decode cX9_ranked 33 = .ok (.iconst 0, 1) := by decide +kernel
theorem dX9_ranked_34 : decode cX9_ranked 34 = .ok (.iload_n 2, 1) := by decide +kernel
theorem dX9_ranked_35 : decode cX9_ranked 35 = .ok (.invokevirtual 258, 3) := by decide +kernel
theorem dX9_ranked_38 : decode cX9_ranked 38 = .ok (.ireturn, 1) := by decide +kernel
theorem dX9_ranked_39 : decode cX9_ranked 39 = .ok (.aload_n 0, 1) := by decide +kernel
theorem dX9_ranked_40 : decode cX9_ranked 40 = .ok (.iconst 2, 1) := by decide +kernel
theorem dX9_ranked_41 : decode cX9_ranked 41 = .ok (.iload_n 2, 1) := by decide +kernel
theorem dX9_ranked_42 : decode cX9_ranked 42 = .ok (.invokevirtual 258, 3) := by decide +kernel
theorem dX9_ranked_45 : decode cX9_ranked 45 = .ok (.ireturn, 1) := by decide +kernel
theorem dX9_ranked_46 : decode cX9_ranked 46 = .ok (.aload_n 0, 1) := by decide +kernel
theorem dX9_ranked_47 : decode cX9_ranked 47 = .ok (.iconst 4, 1) := by decide +kernel
theorem dX9_ranked_48 : decode cX9_ranked 48 = .ok (.iload_n 2, 1) := by decide +kernel
theorem dX9_ranked_49 : decode cX9_ranked 49 = .ok (.invokevirtual 258, 3) := by decide +kernel
theorem dX9_ranked_52 : decode cX9_ranked 52 = .ok (.ireturn, 1) := by decide +kernel
theorem dX9_ranked_53 : decode cX9_ranked 53 = .ok (.aload_n 0, 1) := by decide +kernel
theorem dX9_ranked_54 : decode cX9_ranked 54 = .ok (.bipush 6, 2) := by decide +kernel
theorem dX9_ranked_56 : decode cX9_ranked 56 = .ok (.iload_n 2, 1) := by decide +kernel
theorem dX9_ranked_57 : decode cX9_ranked 57 = .ok (.invokevirtual 258, 3) := by decide +kernel
theorem dX9_ranked_60 : decode cX9_ranked 60 = .ok (.ireturn, 1) := by decide +kernel
theorem dX9_ranked_61 : decode cX9_ranked 61 = .ok (.new 212, 3) := by decide +kernel
theorem dX9_ranked_64 : decode cX9_ranked 64 = .ok (.dup, 1) := by decide +kernel
theorem dX9_ranked_65 : decode cX9_ranked 65 = .ok (.ldc_w 261, 3) := by decide +kernel
theorem dX9_ranked_68 : decode cX9_ranked 68 = .ok (.invokespecial 216, 3) := by decide +kernel
theorem dX9_ranked_71 : decode cX9_ranked 71 = .ok (.athrow, 1) := by decide +kernel
theorem dX9_visitorPlaced_0 : decode cX9_visitorPlaced 0 = .ok (.iconst 0, 1) := by decide +kernel
theorem dX9_visitorPlaced_1 : decode cX9_visitorPlaced 1 = .ok (.istore_n 3, 1) := by decide +kernel
theorem dX9_visitorPlaced_2 : decode cX9_visitorPlaced 2 = .ok (.iload_n 3, 1) := by decide +kernel
theorem dX9_visitorPlaced_3 : decode cX9_visitorPlaced 3 = .ok (.aload_n 0, 1) := by decide +kernel
theorem dX9_visitorPlaced_4 : decode cX9_visitorPlaced 4 = .ok (.getfield 10, 3) := by decide +kernel
theorem dX9_visitorPlaced_7 : decode cX9_visitorPlaced 7 = .ok (.getfield 263, 3) := by decide +kernel
theorem dX9_visitorPlaced_10 : decode cX9_visitorPlaced 10 = .ok (.if_icmp .ge 24, 3) := by decide +kernel
theorem dX9_visitorPlaced_13 : decode cX9_visitorPlaced 13 = .ok (.aload_n 0, 1) := by decide +kernel
theorem dX9_visitorPlaced_14 : decode cX9_visitorPlaced 14 = .ok (.getfield 10, 3) := by decide +kernel
theorem dX9_visitorPlaced_17 : decode cX9_visitorPlaced 17 = .ok (.iload_n 3, 1) := by decide +kernel
theorem dX9_visitorPlaced_18 : decode cX9_visitorPlaced 18 = .ok (.iload_n 1, 1) := by decide +kernel
theorem dX9_visitorPlaced_19 : decode cX9_visitorPlaced 19 = .ok (.invokevirtual 266, 3) := by decide +kernel
theorem dX9_visitorPlaced_22 : decode cX9_visitorPlaced 22 = .ok (.iload_n 2, 1) := by decide +kernel
theorem dX9_visitorPlaced_23 : decode cX9_visitorPlaced 23 = .ok (.if_icmp .ne 5, 3) := by decide +kernel
theorem dX9_visitorPlaced_26 : decode cX9_visitorPlaced 26 = .ok (.iload_n 3, 1) := by decide +kernel
theorem dX9_visitorPlaced_27 : decode cX9_visitorPlaced 27 = .ok (.ireturn, 1) := by decide +kernel
theorem dX9_visitorPlaced_28 : decode cX9_visitorPlaced 28 = .ok (.iinc 3 1, 3) := by decide +kernel
theorem dX9_visitorPlaced_31 : decode cX9_visitorPlaced 31 = .ok (.goto (-29), 3) := by decide +kernel
theorem dX9_visitorPlaced_34 : decode cX9_visitorPlaced 34 = .ok (.new 155, 3) := by decide +kernel
theorem dX9_visitorPlaced_37 : decode cX9_visitorPlaced 37 = .ok (.dup, 1) := by decide +kernel
theorem dX9_visitorPlaced_38 : decode cX9_visitorPlaced 38 = .ok (.ldc_w 269, 3) := by decide +kernel
theorem dX9_visitorPlaced_41 : decode cX9_visitorPlaced 41 = .ok (.invokespecial 159, 3) := by decide +kernel
theorem dX9_visitorPlaced_44 : decode cX9_visitorPlaced 44 = .ok (.athrow, 1) := by decide +kernel
theorem dX9_richest_0 : decode cX9_richest 0 = .ok (.iconst 0, 1) := by decide +kernel
theorem dX9_richest_1 : decode cX9_richest 1 = .ok (.istore_n 2, 1) := by decide +kernel
theorem dX9_richest_2 : decode cX9_richest 2 = .ok (.iload_n 2, 1) := by decide +kernel
theorem dX9_richest_3 : decode cX9_richest 3 = .ok (.aload_n 0, 1) := by decide +kernel
theorem dX9_richest_4 : decode cX9_richest 4 = .ok (.getfield 10, 3) := by decide +kernel
theorem dX9_richest_7 : decode cX9_richest 7 = .ok (.getfield 271, 3) := by decide +kernel
theorem dX9_richest_10 : decode cX9_richest 10 = .ok (.if_icmp .ge 23, 3) := by decide +kernel
theorem dX9_richest_13 : decode cX9_richest 13 = .ok (.aload_n 0, 1) := by decide +kernel
theorem dX9_richest_14 : decode cX9_richest 14 = .ok (.getfield 10, 3) := by decide +kernel
theorem dX9_richest_17 : decode cX9_richest 17 = .ok (.iload_n 2, 1) := by decide +kernel
theorem dX9_richest_18 : decode cX9_richest 18 = .ok (.invokevirtual 274, 3) := by decide +kernel
theorem dX9_richest_21 : decode cX9_richest 21 = .ok (.iload_n 1, 1) := by decide +kernel
theorem dX9_richest_22 : decode cX9_richest 22 = .ok (.if_icmp .ne 5, 3) := by decide +kernel
theorem dX9_richest_25 : decode cX9_richest 25 = .ok (.iload_n 2, 1) := by decide +kernel
theorem dX9_richest_26 : decode cX9_richest 26 = .ok (.ireturn, 1) := by decide +kernel
theorem dX9_richest_27 : decode cX9_richest 27 = .ok (.iinc 2 1, 3) := by decide +kernel
theorem dX9_richest_30 : decode cX9_richest 30 = .ok (.goto (-28), 3) := by decide +kernel
theorem dX9_richest_33 : decode cX9_richest 33 = .ok (.new 155, 3) := by decide +kernel
theorem dX9_richest_36 : decode cX9_richest 36 = .ok (.dup, 1) := by decide +kernel
theorem dX9_richest_37 : decode cX9_richest 37 = .ok (.ldc_w 269, 3) := by decide +kernel
theorem dX9_richest_40 : decode cX9_richest 40 = .ok (.invokespecial 159, 3) := by decide +kernel
theorem dX9_richest_43 : decode cX9_richest 43 = .ok (.athrow, 1) := by decide +kernel
theorem dX9_append_0 : decode cX9_append 0 = .ok (.aload_n 0, 1) := by decide +kernel
theorem dX9_append_1 : decode cX9_append 1 = .ok (.getfield 65, 3) := by decide +kernel
theorem dX9_append_4 : decode cX9_append 4 = .ok (.getfield 277, 3) := by decide +kernel
theorem dX9_append_7 : decode cX9_append 7 = .ok (.bipush 60, 2) := by decide +kernel
theorem dX9_append_9 : decode cX9_append 9 = .ok (.if_icmp .lt 14, 3) := by decide +kernel
theorem dX9_append_12 : decode cX9_append 12 = .ok (.new 280, 3) := by decide +kernel
theorem dX9_append_15 : decode cX9_append 15 = .ok (.dup, 1) := by decide +kernel
theorem dX9_append_16 : decode cX9_append 16 = .ok (.ldc_w 282, 3) := by decide +kernel
theorem dX9_append_19 : decode cX9_append 19 = .ok (.invokespecial 284, 3) := by decide +kernel
theorem dX9_append_22 : decode cX9_append 22 = .ok (.athrow, 1) := by decide +kernel
theorem dX9_append_23 : decode cX9_append 23 = .ok (.aload_n 0, 1) := by decide +kernel
theorem dX9_append_24 : decode cX9_append 24 = .ok (.getfield 65, 3) := by decide +kernel
theorem dX9_append_27 : decode cX9_append 27 = .ok (.iload_n 1, 1) := by decide +kernel
theorem dX9_append_28 : decode cX9_append 28 = .ok (.invokevirtual 285, 3) := by decide +kernel
theorem dX9_append_31 : decode cX9_append 31 = .ok (.aload_n 0, 1) := by decide +kernel
theorem dX9_append_32 : decode cX9_append 32 = .ok (.getfield 65, 3) := by decide +kernel
theorem dX9_append_35 : decode cX9_append 35 = .ok (.getfield 277, 3) := by decide +kernel
theorem dX9_append_38 : decode cX9_append 38 = .ok (.ireturn, 1) := by decide +kernel
theorem dX9_commands_0 : decode cX9_commands 0 = .ok (.aload_n 0, 1) := by decide +kernel
theorem dX9_commands_1 : decode cX9_commands 1 = .ok (.getfield 65, 3) := by decide +kernel
theorem dX9_commands_4 : decode cX9_commands 4 = .ok (.invokevirtual 289, 3) := by decide +kernel
theorem dX9_commands_7 : decode cX9_commands 7 = .ok (.ifCond .ne 14, 3) := by decide +kernel
theorem dX9_commands_10 : decode cX9_commands 10 = .ok (.new 212, 3) := by decide +kernel
theorem dX9_commands_13 : decode cX9_commands 13 = .ok (.dup, 1) := by decide +kernel
theorem dX9_commands_14 : decode cX9_commands 14 = .ok (.ldc_w 293, 3) := by decide +kernel
theorem dX9_commands_17 : decode cX9_commands 17 = .ok (.invokespecial 216, 3) := by decide +kernel
theorem dX9_commands_20 : decode cX9_commands 20 = .ok (.athrow, 1) := by decide +kernel
theorem dX9_commands_21 : decode cX9_commands 21 = .ok (.aload_n 0, 1) := by decide +kernel
theorem dX9_commands_22 : decode cX9_commands 22 = .ok (.getfield 16, 3) := by decide +kernel
theorem dX9_commands_25 : decode cX9_commands 25 = .ok (.aload_n 0, 1) := by decide +kernel
theorem dX9_commands_26 : decode cX9_commands 26 = .ok (.getfield 10, 3) := by decide +kernel
theorem dX9_commands_29 : decode cX9_commands 29 = .ok (.invokevirtual 76, 3) := by decide +kernel
theorem dX9_commands_32 : decode cX9_commands 32 = .ok (.iconst 0, 1) := by decide +kernel
theorem dX9_commands_33 : decode cX9_commands 33 = .ok (.istore_n 1, 1) := by decide +kernel
theorem dX9_commands_34 : decode cX9_commands 34 = .ok (.iload_n 1, 1) := by decide +kernel
theorem dX9_commands_35 : decode cX9_commands 35 = .ok (.aload_n 0, 1) := by decide +kernel
theorem dX9_commands_36 : decode cX9_commands 36 = .ok (.getfield 65, 3) := by decide +kernel
theorem dX9_commands_39 : decode cX9_commands 39 = .ok (.getfield 295, 3) := by decide +kernel
theorem dX9_commands_42 : decode cX9_commands 42 = .ok (.if_icmp .ge 55, 3) := by decide +kernel
theorem dX9_commands_45 : decode cX9_commands 45 = .ok (.aload_n 0, 1) := by decide +kernel
theorem dX9_commands_46 : decode cX9_commands 46 = .ok (.getfield 58, 3) := by decide +kernel
theorem dX9_commands_49 : decode cX9_commands 49 = .ok (.aload_n 0, 1) := by decide +kernel
theorem dX9_commands_50 : decode cX9_commands 50 = .ok (.getfield 65, 3) := by decide +kernel
theorem dX9_commands_53 : decode cX9_commands 53 = .ok (.iload_n 1, 1) := by decide +kernel
theorem dX9_commands_54 : decode cX9_commands 54 = .ok (.invokevirtual 298, 3) := by decide +kernel
theorem dX9_commands_57 : decode cX9_commands 57 = .ok (.iconst (-1), 1) := by decide +kernel
theorem dX9_commands_58 : decode cX9_commands 58 = .ok (.if_icmp .ne 33, 3) := by decide +kernel
theorem dX9_commands_61 : decode cX9_commands 61 = .ok (.aload_n 0, 1) := by decide +kernel
theorem dX9_commands_62 : decode cX9_commands 62 = .ok (.getfield 36, 3) := by decide +kernel
theorem dX9_commands_65 : decode cX9_commands 65 = .ok (.iload_n 1, 1) := by decide +kernel
theorem dX9_commands_66 : decode cX9_commands 66 = .ok (.putfield 302, 3) := by decide +kernel
theorem dX9_commands_69 : decode cX9_commands 69 = .ok (.aload_n 0, 1) := by decide +kernel
theorem dX9_commands_70 : decode cX9_commands 70 = .ok (.getfield 10, 3) := by decide +kernel
theorem dX9_commands_73 : decode cX9_commands 73 = .ok (.aload_n 0, 1) := by decide +kernel
theorem dX9_commands_74 : decode cX9_commands 74 = .ok (.getfield 16, 3) := by decide +kernel
theorem dX9_commands_77 : decode cX9_commands 77 = .ok (.invokevirtual 76, 3) := by decide +kernel
theorem dX9_commands_80 : decode cX9_commands 80 = .ok (.new 114, 3) := by decide +kernel
theorem dX9_commands_83 : decode cX9_commands 83 = .ok (.dup, 1) := by decide +kernel
theorem dX9_commands_84 : decode cX9_commands 84 = .ok (.ldc_w 305, 3) := by decide +kernel
theorem dX9_commands_87 : decode cX9_commands 87 = .ok (.invokespecial 118, 3) := by decide +kernel
theorem dX9_commands_90 : decode cX9_commands 90 = .ok (.athrow, 1) := by decide +kernel
theorem dX9_commands_91 : decode cX9_commands 91 = .ok (.iinc 1 1, 3) := by decide +kernel
theorem dX9_commands_94 : decode cX9_commands 94 = .ok (.goto (-60), 3) := by decide +kernel
theorem dX9_commands_97 : decode cX9_commands 97 = .ok (.aload_n 0, 1) := by decide +kernel
theorem dX9_commands_98 : decode cX9_commands 98 = .ok (.aload_n 0, 1) := by decide +kernel
theorem dX9_commands_99 : decode cX9_commands 99 = .ok (.getfield 65, 3) := by decide +kernel
theorem dX9_commands_102 : decode cX9_commands 102 = .ok (.getfield 295, 3) := by decide +kernel
theorem dX9_commands_105 : decode cX9_commands 105 = .ok (.invokevirtual 84, 3) := by decide +kernel
theorem dX9_commands_108 : decode cX9_commands 108 = .ok (.ireturn, 1) := by decide +kernel
theorem dX9_faultPosition_0 : decode cX9_faultPosition 0 = .ok (.aload_n 0, 1) := by decide +kernel
theorem dX9_faultPosition_1 : decode cX9_faultPosition 1 = .ok (.getfield 65, 3) := by decide +kernel
theorem dX9_faultPosition_4 : decode cX9_faultPosition 4 = .ok (.getfield 307, 3) := by decide +kernel
theorem dX9_faultPosition_7 : decode cX9_faultPosition 7 = .ok (.ireturn, 1) := by decide +kernel
theorem dX9_reason_0 : decode cX9_reason 0 = .ok (.iload_n 1, 1) := by decide +kernel
theorem dX9_reason_1 : decode cX9_reason 1 = .ok (.ifCond .lt 8, 3) := by decide +kernel
theorem dX9_reason_4 : decode cX9_reason 4 = .ok (.iload_n 1, 1) := by decide +kernel
theorem dX9_reason_5 : decode cX9_reason 5 = .ok (.iconst 2, 1) := by decide +kernel
theorem dX9_reason_6 : decode cX9_reason 6 = .ok (.if_icmp .le 14, 3) := by decide +kernel
theorem dX9_reason_9 : decode cX9_reason 9 = .ok (.new 212, 3) := by decide +kernel
theorem dX9_reason_12 : decode cX9_reason 12 = .ok (.dup, 1) := by decide +kernel
theorem dX9_reason_13 : decode cX9_reason 13 = .ok (.ldc_w 310, 3) := by decide +kernel
theorem dX9_reason_16 : decode cX9_reason 16 = .ok (.invokespecial 216, 3) := by decide +kernel
theorem dX9_reason_19 : decode cX9_reason 19 = .ok (.athrow, 1) := by decide +kernel
theorem dX9_reason_20 : decode cX9_reason 20 = .ok (.aload_n 0, 1) := by decide +kernel
theorem dX9_reason_21 : decode cX9_reason 21 = .ok (.getfield 36, 3) := by decide +kernel
theorem dX9_reason_24 : decode cX9_reason 24 = .ok (.getfield 312, 3) := by decide +kernel
theorem dX9_reason_27 : decode cX9_reason 27 = .ok (.ifCond .ne 14, 3) := by decide +kernel
theorem dX9_reason_30 : decode cX9_reason 30 = .ok (.new 155, 3) := by decide +kernel
theorem dX9_reason_33 : decode cX9_reason 33 = .ok (.dup, 1) := by decide +kernel
theorem dX9_reason_34 : decode cX9_reason 34 = .ok (.ldc_w 315, 3) := by decide +kernel
theorem dX9_reason_37 : decode cX9_reason 37 = .ok (.invokespecial 159, 3) := by decide +kernel
theorem dX9_reason_40 : decode cX9_reason 40 = .ok (.athrow, 1) := by decide +kernel
theorem dX9_reason_41 : decode cX9_reason 41 = .ok (.iload_n 1, 1) := by decide +kernel
theorem dX9_reason_42 : decode cX9_reason 42 = .ok (.ifCond .ne 11, 3) := by decide +kernel
theorem dX9_reason_45 : decode cX9_reason 45 = .ok (.aload_n 0, 1) := by decide +kernel
theorem dX9_reason_46 : decode cX9_reason 46 = .ok (.getfield 36, 3) := by decide +kernel
theorem dX9_reason_49 : decode cX9_reason 49 = .ok (.getfield 312, 3) := by decide +kernel
theorem dX9_reason_52 : decode cX9_reason 52 = .ok (.ireturn, 1) := by decide +kernel
theorem dX9_reason_53 : decode cX9_reason 53 = .ok (.iload_n 1, 1) := by decide +kernel
theorem dX9_reason_54 : decode cX9_reason 54 = .ok (.iconst 1, 1) := by decide +kernel
theorem dX9_reason_55 : decode cX9_reason 55 = .ok (.if_icmp .ne 13, 3) := by decide +kernel
theorem dX9_reason_58 : decode cX9_reason 58 = .ok (.aload_n 0, 1) := by decide +kernel
theorem dX9_reason_59 : decode cX9_reason 59 = .ok (.getfield 36, 3) := by decide +kernel
theorem dX9_reason_62 : decode cX9_reason 62 = .ok (.getfield 317, 3) := by decide +kernel
theorem dX9_reason_65 : decode cX9_reason 65 = .ok (.goto 10, 3) := by decide +kernel
theorem dX9_reason_68 : decode cX9_reason 68 = .ok (.aload_n 0, 1) := by decide +kernel
theorem dX9_reason_69 : decode cX9_reason 69 = .ok (.getfield 36, 3) := by decide +kernel
theorem dX9_reason_72 : decode cX9_reason 72 = .ok (.getfield 302, 3) := by decide +kernel
theorem dX9_reason_75 : decode cX9_reason 75 = .ok (.ireturn, 1) := by decide +kernel
theorem dX9_line_0 : decode cX9_line 0 = .ok (.aload_n 0, 1) := by decide +kernel
theorem dX9_line_1 : decode cX9_line 1 = .ok (.iload_n 1, 1) := by decide +kernel
theorem dX9_line_2 : decode cX9_line 2 = .ok (.invokevirtual 217, 3) := by decide +kernel
theorem dX9_line_5 : decode cX9_line 5 = .ok (.astore_n 2, 1) := by decide +kernel
theorem dX9_line_6 : decode cX9_line 6 = .ok (.aload_n 0, 1) := by decide +kernel
theorem dX9_line_7 : decode cX9_line 7 = .ok (.getfield 72, 3) := by decide +kernel
theorem dX9_line_10 : decode cX9_line 10 = .ok (.iconst 0, 1) := by decide +kernel
theorem dX9_line_11 : decode cX9_line 11 = .ok (.invokevirtual 320, 3) := by decide +kernel
theorem dX9_line_14 : decode cX9_line 14 = .ok (.aload_n 2, 1) := by decide +kernel
