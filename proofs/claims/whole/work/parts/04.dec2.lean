theorem dX10_hours_3 : decode cX10_hours 3 = .ok (.invokevirtual 174, 3) := by decide +kernel
theorem dX10_hours_6 : decode cX10_hours 6 = .ok (.ifCond .ne 5, 3) := by decide +kernel
theorem dX10_hours_9 : decode cX10_hours 9 = .ok (.iconst (-1), 1) := by decide +kernel
theorem dX10_hours_10 : decode cX10_hours 10 = .ok (.ireturn, 1) := by decide +kernel
theorem dX10_hours_11 : decode cX10_hours 11 = .ok (.aload_n 0, 1) := by decide +kernel
theorem dX10_hours_12 : decode cX10_hours 12 = .ok (.iload_n 1, 1) := by decide +kernel
theorem dX10_hours_13 : decode cX10_hours 13 = .ok (.iload_n 2, 1) := by decide +kernel
theorem dX10_hours_14 : decode cX10_hours 14 = .ok (.invokevirtual 142, 3) := by decide +kernel
theorem dX10_hours_17 : decode cX10_hours 17 = .ok (.istore_n 3, 1) := by decide +kernel
theorem dX10_hours_18 : decode cX10_hours 18 = .ok (.iload_n 3, 1) := by decide +kernel
theorem dX10_hours_19 : decode cX10_hours 19 = .ok (.iconst (-1), 1) := by decide +kernel
theorem dX10_hours_20 : decode cX10_hours 20 = .ok (.if_icmp .ne 11, 3) := by decide +kernel
theorem dX10_hours_23 : decode cX10_hours 23 = .ok (.aload_n 0, 1) := by decide +kernel
theorem dX10_hours_24 : decode cX10_hours 24 = .ok (.iconst 2, 1) := by decide +kernel
theorem dX10_hours_25 : decode cX10_hours 25 = .ok (.invokevirtual 50, 3) := by decide +kernel
theorem dX10_hours_28 : decode cX10_hours 28 = .ok (.goto 4, 3) := by decide +kernel
theorem dX10_hours_31 : decode cX10_hours 31 = .ok (.iload_n 3, 1) := by decide +kernel
theorem dX10_hours_32 : decode cX10_hours 32 = .ok (.ireturn, 1) := by decide +kernel
theorem dX10_hoursAgain_0 : decode cX10_hoursAgain 0 = .ok (.aload_n 0, 1) := by decide +kernel
theorem dX10_hoursAgain_1 : decode cX10_hoursAgain 1 = .ok (.iload_n 1, 1) := by decide +kernel
theorem dX10_hoursAgain_2 : decode cX10_hoursAgain 2 = .ok (.iload_n 2, 1) := by decide +kernel
theorem dX10_hoursAgain_3 : decode cX10_hoursAgain 3 = .ok (.invokevirtual 177, 3) := by decide +kernel
theorem dX10_hoursAgain_6 : decode cX10_hoursAgain 6 = .ok (.ireturn, 1) := by decide +kernel
theorem dX10_next_0 : decode cX10_next 0 = .ok (.aload_n 0, 1) := by decide +kernel
theorem dX10_next_1 : decode cX10_next 1 = .ok (.iload_n 1, 1) := by decide +kernel
theorem dX10_next_2 : decode cX10_next 2 = .ok (.iload_n 1, 1) := by decide +kernel
theorem dX10_next_3 : decode cX10_next 3 = .ok (.invokevirtual 174, 3) := by decide +kernel
theorem dX10_next_6 : decode cX10_next 6 = .ok (.ifCond .ne 5, 3) := by decide +kernel
theorem dX10_next_9 : decode cX10_next 9 = .ok (.iconst (-1), 1) := by decide +kernel
theorem dX10_next_10 : decode cX10_next 10 = .ok (.ireturn, 1) := by decide +kernel
theorem dX10_next_11 : decode cX10_next 11 = .ok (.aload_n 0, 1) := by decide +kernel
theorem dX10_next_12 : decode cX10_next 12 = .ok (.bipush 15, 2) := by decide +kernel
theorem dX10_next_14 : decode cX10_next 14 = .ok (.iconst 0, 1) := by decide +kernel
theorem dX10_next_15 : decode cX10_next 15 = .ok (.invokevirtual 84, 3) := by decide +kernel
theorem dX10_next_18 : decode cX10_next 18 = .ok (.iload_n 1, 1) := by decide +kernel
theorem dX10_next_19 : decode cX10_next 19 = .ok (.bipush 15, 2) := by decide +kernel
theorem dX10_next_21 : decode cX10_next 21 = .ok (.if_icmp .eq 14, 3) := by decide +kernel
theorem dX10_next_24 : decode cX10_next 24 = .ok (.aload_n 0, 1) := by decide +kernel
theorem dX10_next_25 : decode cX10_next 25 = .ok (.getfield 29, 3) := by decide +kernel
theorem dX10_next_28 : decode cX10_next 28 = .ok (.iload_n 1, 1) := by decide +kernel
theorem dX10_next_29 : decode cX10_next 29 = .ok (.iaload, 1) := by decide +kernel
theorem dX10_next_30 : decode cX10_next 30 = .ok (.bipush 99, 2) := by decide +kernel
theorem dX10_next_32 : decode cX10_next 32 = .ok (.if_icmp .lt 9, 3) := by decide +kernel
theorem dX10_next_35 : decode cX10_next 35 = .ok (.aload_n 0, 1) := by decide +kernel
theorem dX10_next_36 : decode cX10_next 36 = .ok (.iconst 2, 1) := by decide +kernel
theorem dX10_next_37 : decode cX10_next 37 = .ok (.invokevirtual 50, 3) := by decide +kernel
theorem dX10_next_40 : decode cX10_next 40 = .ok (.ireturn, 1) := by decide +kernel
theorem dX10_next_41 : decode cX10_next 41 = .ok (.iconst 0, 1) := by decide +kernel
theorem dX10_next_42 : decode cX10_next 42 = .ok (.istore_n 2, 1) := by decide +kernel
theorem dX10_next_43 : decode cX10_next 43 = .ok (.iload_n 1, 1) := by decide +kernel
theorem dX10_next_44 : decode cX10_next 44 = .ok (.iload_n 2, 1) := by decide +kernel
theorem dX10_next_45 : decode cX10_next 45 = .ok (.invokestatic 77, 3) := by decide +kernel
theorem dX10_next_48 : decode cX10_next 48 = .ok (.iconst (-1), 1) := by decide +kernel
theorem dX10_next_49 : decode cX10_next 49 = .ok (.if_icmp .eq 32, 3) := by decide +kernel
theorem dX10_next_52 : decode cX10_next 52 = .ok (.aload_n 0, 1) := by decide +kernel
theorem dX10_next_53 : decode cX10_next 53 = .ok (.iload_n 1, 1) := by decide +kernel
theorem dX10_next_54 : decode cX10_next 54 = .ok (.iload_n 2, 1) := by decide +kernel
theorem dX10_next_55 : decode cX10_next 55 = .ok (.invokestatic 77, 3) := by decide +kernel
theorem dX10_next_58 : decode cX10_next 58 = .ok (.invokevirtual 80, 3) := by decide +kernel
theorem dX10_next_61 : decode cX10_next 61 = .ok (.ifCond .eq 20, 3) := by decide +kernel
theorem dX10_next_64 : decode cX10_next 64 = .ok (.aload_n 0, 1) := by decide +kernel
theorem dX10_next_65 : decode cX10_next 65 = .ok (.getfield 29, 3) := by decide +kernel
theorem dX10_next_68 : decode cX10_next 68 = .ok (.iload_n 2, 1) := by decide +kernel
theorem dX10_next_69 : decode cX10_next 69 = .ok (.iaload, 1) := by decide +kernel
theorem dX10_next_70 : decode cX10_next 70 = .ok (.aload_n 0, 1) := by decide +kernel
theorem dX10_next_71 : decode cX10_next 71 = .ok (.getfield 29, 3) := by decide +kernel
theorem dX10_next_74 : decode cX10_next 74 = .ok (.iload_n 1, 1) := by decide +kernel
theorem dX10_next_75 : decode cX10_next 75 = .ok (.iaload, 1) := by decide +kernel
theorem dX10_next_76 : decode cX10_next 76 = .ok (.iconst 1, 1) := by decide +kernel
theorem dX10_next_77 : decode cX10_next 77 = .ok (.isub, 1) := by decide +kernel
theorem dX10_next_78 : decode cX10_next 78 = .ok (.if_icmp .eq 9, 3) := by decide +kernel
theorem dX10_next_81 : decode cX10_next 81 = .ok (.iinc 2 1, 3) := by decide +kernel
theorem dX10_next_84 : decode cX10_next 84 = .ok (.goto (-41), 3) := by decide +kernel
theorem dX10_next_87 : decode cX10_next 87 = .ok (.iload_n 2, 1) := by decide +kernel
theorem dX10_next_88 : decode cX10_next 88 = .ok (.ireturn, 1) := by decide +kernel
theorem dX10_reached_0 : decode cX10_reached 0 = .ok (.aload_n 0, 1) := by decide +kernel
theorem dX10_reached_1 : decode cX10_reached 1 = .ok (.iload_n 1, 1) := by decide +kernel
theorem dX10_reached_2 : decode cX10_reached 2 = .ok (.iload_n 1, 1) := by decide +kernel
theorem dX10_reached_3 : decode cX10_reached 3 = .ok (.invokevirtual 174, 3) := by decide +kernel
theorem dX10_reached_6 : decode cX10_reached 6 = .ok (.ifCond .eq 11, 3) := by decide +kernel
theorem dX10_reached_9 : decode cX10_reached 9 = .ok (.aload_n 0, 1) := by decide +kernel
theorem dX10_reached_10 : decode cX10_reached 10 = .ok (.iload_n 1, 1) := by decide +kernel
theorem dX10_reached_11 : decode cX10_reached 11 = .ok (.invokevirtual 145, 3) := by decide +kernel
theorem dX10_reached_14 : decode cX10_reached 14 = .ok (.goto 4, 3) := by decide +kernel
theorem dX10_reached_17 : decode cX10_reached 17 = .ok (.iconst (-1), 1) := by decide +kernel
theorem dX10_reached_18 : decode cX10_reached 18 = .ok (.ireturn, 1) := by decide +kernel
theorem dX10_trims_0 : decode cX10_trims 0 = .ok (.aload_n 0, 1) := by decide +kernel
theorem dX10_trims_1 : decode cX10_trims 1 = .ok (.iload_n 1, 1) := by decide +kernel
theorem dX10_trims_2 : decode cX10_trims 2 = .ok (.iload_n 1, 1) := by decide +kernel
theorem dX10_trims_3 : decode cX10_trims 3 = .ok (.invokevirtual 174, 3) := by decide +kernel
theorem dX10_trims_6 : decode cX10_trims 6 = .ok (.ifCond .ne 5, 3) := by decide +kernel
theorem dX10_trims_9 : decode cX10_trims 9 = .ok (.iconst (-1), 1) := by decide +kernel
theorem dX10_trims_10 : decode cX10_trims 10 = .ok (.ireturn, 1) := by decide +kernel
theorem dX10_trims_11 : decode cX10_trims 11 = .ok (.aload_n 0, 1) := by decide +kernel
theorem dX10_trims_12 : decode cX10_trims 12 = .ok (.iload_n 1, 1) := by decide +kernel
theorem dX10_trims_13 : decode cX10_trims 13 = .ok (.iconst 1, 1) := by decide +kernel
theorem dX10_trims_14 : decode cX10_trims 14 = .ok (.invokevirtual 84, 3) := by decide +kernel
theorem dX10_trims_17 : decode cX10_trims 17 = .ok (.aload_n 0, 1) := by decide +kernel
theorem dX10_trims_18 : decode cX10_trims 18 = .ok (.getfield 29, 3) := by decide +kernel
theorem dX10_trims_21 : decode cX10_trims 21 = .ok (.bipush 15, 2) := by decide +kernel
theorem dX10_trims_23 : decode cX10_trims 23 = .ok (.iaload, 1) := by decide +kernel
theorem dX10_trims_24 : decode cX10_trims 24 = .ok (.ireturn, 1) := by decide +kernel
theorem dX10_trimsAgain_0 : decode cX10_trimsAgain 0 = .ok (.aload_n 0, 1) := by decide +kernel
theorem dX10_trimsAgain_1 : decode cX10_trimsAgain 1 = .ok (.iload_n 1, 1) := by decide +kernel
theorem dX10_trimsAgain_2 : decode cX10_trimsAgain 2 = .ok (.invokevirtual 180, 3) := by decide +kernel
theorem dX10_trimsAgain_5 : decode cX10_trimsAgain 5 = .ok (.ireturn, 1) := by decide +kernel
theorem dX10_isNeeded_0 : decode cX10_isNeeded 0 = .ok (.aload_n 0, 1) := by decide +kernel
theorem dX10_isNeeded_1 : decode cX10_isNeeded 1 = .ok (.iload_n 1, 1) := by decide +kernel
theorem dX10_isNeeded_2 : decode cX10_isNeeded 2 = .ok (.iload_n 2, 1) := by decide +kernel
theorem dX10_isNeeded_3 : decode cX10_isNeeded 3 = .ok (.invokevirtual 174, 3) := by decide +kernel
theorem dX10_isNeeded_6 : decode cX10_isNeeded 6 = .ok (.ifCond .ne 5, 3) := by decide +kernel
theorem dX10_isNeeded_9 : decode cX10_isNeeded 9 = .ok (.iconst 0, 1) := by decide +kernel
theorem dX10_isNeeded_10 : decode cX10_isNeeded 10 = .ok (.ireturn, 1) := by decide +kernel
theorem dX10_isNeeded_11 : decode cX10_isNeeded 11 = .ok (.iload_n 1, 1) := by decide +kernel
theorem dX10_isNeeded_12 : decode cX10_isNeeded 12 = .ok (.iload_n 2, 1) := by decide +kernel
theorem dX10_isNeeded_13 : decode cX10_isNeeded 13 = .ok (.invokestatic 77, 3) := by decide +kernel
theorem dX10_isNeeded_16 : decode cX10_isNeeded 16 = .ok (.istore_n 3, 1) := by decide +kernel
theorem dX10_isNeeded_17 : decode cX10_isNeeded 17 = .ok (.iload_n 3, 1) := by decide +kernel
theorem dX10_isNeeded_18 : decode cX10_isNeeded 18 = .ok (.iconst (-1), 1) := by decide +kernel
theorem dX10_isNeeded_19 : decode cX10_isNeeded 19 = .ok (.if_icmp .ne 11, 3) := by decide +kernel
theorem dX10_isNeeded_22 : decode cX10_isNeeded 22 = .ok (.aload_n 0, 1) := by decide +kernel
theorem dX10_isNeeded_23 : decode cX10_isNeeded 23 = .ok (.iconst 2, 1) := by decide +kernel
theorem dX10_isNeeded_24 : decode cX10_isNeeded 24 = .ok (.invokevirtual 50, 3) := by decide +kernel
theorem dX10_isNeeded_27 : decode cX10_isNeeded 27 = .ok (.pop, 1) := by decide +kernel
theorem dX10_isNeeded_28 : decode cX10_isNeeded 28 = .ok (.iconst 0, 1) := by decide +kernel
theorem dX10_isNeeded_29 : decode cX10_isNeeded 29 = .ok (.ireturn, 1) := by decide +kernel
theorem dX10_isNeeded_30 : decode cX10_isNeeded 30 = .ok (.aload_n 0, 1) := by decide +kernel
theorem dX10_isNeeded_31 : decode cX10_isNeeded 31 = .ok (.iload_n 3, 1) := by decide +kernel
theorem dX10_isNeeded_32 : decode cX10_isNeeded 32 = .ok (.invokevirtual 80, 3) := by decide +kernel
theorem dX10_isNeeded_35 : decode cX10_isNeeded 35 = .ok (.ifCond .eq 14, 3) := by decide +kernel
theorem dX10_isNeeded_38 : decode cX10_isNeeded 38 = .ok (.aload_n 0, 1) := by decide +kernel
theorem dX10_isNeeded_39 : decode cX10_isNeeded 39 = .ok (.iconst 0, 1) := by decide +kernel
theorem dX10_isNeeded_40 : decode cX10_isNeeded 40 = .ok (.bipush 15, 2) := by decide +kernel
theorem dX10_isNeeded_42 : decode cX10_isNeeded 42 = .ok (.invokevirtual 142, 3) := by decide +kernel
theorem dX10_isNeeded_45 : decode cX10_isNeeded 45 = .ok (.iconst (-1), 1) := by decide +kernel
theorem dX10_isNeeded_46 : decode cX10_isNeeded 46 = .ok (.if_icmp .ne 5, 3) := by decide +kernel
theorem dX10_isNeeded_49 : decode cX10_isNeeded 49 = .ok (.iconst 0, 1) := by decide +kernel
theorem dX10_isNeeded_50 : decode cX10_isNeeded 50 = .ok (.ireturn, 1) := by decide +kernel
theorem dX10_isNeeded_51 : decode cX10_isNeeded 51 = .ok (.aload_n 0, 1) := by decide +kernel
theorem dX10_isNeeded_52 : decode cX10_isNeeded 52 = .ok (.getfield 9, 3) := by decide +kernel
theorem dX10_isNeeded_55 : decode cX10_isNeeded 55 = .ok (.iload_n 3, 1) := by decide +kernel
theorem dX10_isNeeded_56 : decode cX10_isNeeded 56 = .ok (.iaload, 1) := by decide +kernel
theorem dX10_isNeeded_57 : decode cX10_isNeeded 57 = .ok (.istore 4, 2) := by decide +kernel
theorem dX10_isNeeded_59 : decode cX10_isNeeded 59 = .ok (.aload_n 0, 1) := by decide +kernel
theorem dX10_isNeeded_60 : decode cX10_isNeeded 60 = .ok (.getfield 9, 3) := by decide +kernel
theorem dX10_isNeeded_63 : decode cX10_isNeeded 63 = .ok (.iload_n 3, 1) := by decide +kernel
theorem dX10_isNeeded_64 : decode cX10_isNeeded 64 = .ok (.iconst 5, 1) := by decide +kernel
theorem dX10_isNeeded_65 : decode cX10_isNeeded 65 = .ok (.iastore, 1) := by decide +kernel
theorem dX10_isNeeded_66 : decode cX10_isNeeded 66 = .ok (.aload_n 0, 1) := by decide +kernel
theorem dX10_isNeeded_67 : decode cX10_isNeeded 67 = .ok (.iconst 0, 1) := by decide +kernel
theorem dX10_isNeeded_68 : decode cX10_isNeeded 68 = .ok (.bipush 15, 2) := by decide +kernel
theorem dX10_isNeeded_70 : decode cX10_isNeeded 70 = .ok (.invokevirtual 142, 3) := by decide +kernel
theorem dX10_isNeeded_73 : decode cX10_isNeeded 73 = .ok (.iconst (-1), 1) := by decide +kernel
theorem dX10_isNeeded_74 : decode cX10_isNeeded 74 = .ok (.if_icmp .ne 7, 3) := by decide +kernel
theorem dX10_isNeeded_77 : decode cX10_isNeeded 77 = .ok (.iconst 1, 1) := by decide +kernel
theorem dX10_isNeeded_78 : decode cX10_isNeeded 78 = .ok (.goto 4, 3) := by decide +kernel
theorem dX10_isNeeded_81 : decode cX10_isNeeded 81 = .ok (.iconst 0, 1) := by decide +kernel
theorem dX10_isNeeded_82 : decode cX10_isNeeded 82 = .ok (.istore 5, 2) := by decide +kernel
theorem dX10_isNeeded_84 : decode cX10_isNeeded 84 = .ok (.aload_n 0, 1) := by decide +kernel
theorem dX10_isNeeded_85 : decode cX10_isNeeded 85 = .ok (.getfield 9, 3) := by decide +kernel
theorem dX10_isNeeded_88 : decode cX10_isNeeded 88 = .ok (.iload_n 3, 1) := by decide +kernel
theorem dX10_isNeeded_89 : decode cX10_isNeeded 89 = .ok (.iload 4, 2) := by decide +kernel
theorem dX10_isNeeded_91 : decode cX10_isNeeded 91 = .ok (.iastore, 1) := by decide +kernel
theorem dX10_isNeeded_92 : decode cX10_isNeeded 92 = .ok (.iload 5, 2) := by decide +kernel
theorem dX10_isNeeded_94 : decode cX10_isNeeded 94 = .ok (.ireturn, 1) := by decide +kernel
theorem dX10_closesIn_0 : decode cX10_closesIn 0 = .ok (.aload_n 0, 1) := by decide +kernel
theorem dX10_closesIn_1 : decode cX10_closesIn 1 = .ok (.iload_n 1, 1) := by decide +kernel
theorem dX10_closesIn_2 : decode cX10_closesIn 2 = .ok (.iload_n 2, 1) := by decide +kernel
theorem dX10_closesIn_3 : decode cX10_closesIn 3 = .ok (.invokevirtual 174, 3) := by decide +kernel
theorem dX10_closesIn_6 : decode cX10_closesIn 6 = .ok (.ifCond .ne 5, 3) := by decide +kernel
theorem dX10_closesIn_9 : decode cX10_closesIn 9 = .ok (.iconst (-1), 1) := by decide +kernel
theorem dX10_closesIn_10 : decode cX10_closesIn 10 = .ok (.ireturn, 1) := by decide +kernel
theorem dX10_closesIn_11 : decode cX10_closesIn 11 = .ok (.iload_n 1, 1) := by decide +kernel
theorem dX10_closesIn_12 : decode cX10_closesIn 12 = .ok (.iload_n 2, 1) := by decide +kernel
theorem dX10_closesIn_13 : decode cX10_closesIn 13 = .ok (.invokestatic 77, 3) := by decide +kernel
theorem dX10_closesIn_16 : decode cX10_closesIn 16 = .ok (.istore_n 3, 1) := by decide +kernel
theorem dX10_closesIn_17 : decode cX10_closesIn 17 = .ok (.iload_n 3, 1) := by decide +kernel
theorem dX10_closesIn_18 : decode cX10_closesIn 18 = .ok (.iconst (-1), 1) := by decide +kernel
theorem dX10_closesIn_19 : decode cX10_closesIn 19 = .ok (.if_icmp .ne 11, 3) := by decide +kernel
theorem dX10_closesIn_22 : decode cX10_closesIn 22 = .ok (.aload_n 0, 1) := by decide +kernel
theorem dX10_closesIn_23 : decode cX10_closesIn 23 = .ok (.iconst 2, 1) := by decide +kernel
theorem dX10_closesIn_24 : decode cX10_closesIn 24 = .ok (.invokevirtual 50, 3) := by decide +kernel
theorem dX10_closesIn_27 : decode cX10_closesIn 27 = .ok (.goto 15, 3) := by decide +kernel
theorem dX10_closesIn_30 : decode cX10_closesIn 30 = .ok (.iconst 0, 1) := by decide +kernel
theorem dX10_closesIn_31 : decode cX10_closesIn 31 = .ok (.iconst 5, 1) := by decide +kernel
theorem dX10_closesIn_32 : decode cX10_closesIn 32 = .ok (.aload_n 0, 1) := by decide +kernel
theorem dX10_closesIn_33 : decode cX10_closesIn 33 = .ok (.getfield 9, 3) := by decide +kernel
theorem dX10_closesIn_36 : decode cX10_closesIn 36 = .ok (.iload_n 3, 1) := by decide +kernel
theorem dX10_closesIn_37 : decode cX10_closesIn 37 = .ok (.iaload, 1) := by decide +kernel
theorem dX10_closesIn_38 : decode cX10_closesIn 38 = .ok (.isub, 1) := by decide +kernel
theorem dX10_closesIn_39 : decode cX10_closesIn 39 = .ok (.invokestatic 71, 3) := by decide +kernel
theorem dX10_closesIn_42 : decode cX10_closesIn 42 = .ok (.ireturn, 1) := by decide +kernel
theorem dX10_summersLeft_0 : decode cX10_summersLeft 0 = .ok (.aload_n 0, 1) := by decide +kernel
theorem dX10_summersLeft_1 : decode cX10_summersLeft 1 = .ok (.iconst 0, 1) := by decide +kernel
theorem dX10_summersLeft_2 : decode cX10_summersLeft 2 = .ok (.putfield 38, 3) := by decide +kernel
theorem dX10_summersLeft_5 : decode cX10_summersLeft 5 = .ok (.iconst 0, 1) := by decide +kernel
theorem dX10_summersLeft_6 : decode cX10_summersLeft 6 = .ok (.istore_n 1, 1) := by decide +kernel
theorem dX10_summersLeft_7 : decode cX10_summersLeft 7 = .ok (.aload_n 0, 1) := by decide +kernel
theorem dX10_summersLeft_8 : decode cX10_summersLeft 8 = .ok (.iconst 0, 1) := by decide +kernel
theorem dX10_summersLeft_9 : decode cX10_summersLeft 9 = .ok (.bipush 15, 2) := by decide +kernel
theorem dX10_summersLeft_11 : decode cX10_summersLeft 11 = .ok (.invokevirtual 142, 3) := by decide +kernel
theorem dX10_summersLeft_14 : decode cX10_summersLeft 14 = .ok (.iconst (-1), 1) := by decide +kernel
theorem dX10_summersLeft_15 : decode cX10_summersLeft 15 = .ok (.if_icmp .eq 36, 3) := by decide +kernel
theorem dX10_summersLeft_18 : decode cX10_summersLeft 18 = .ok (.iconst 0, 1) := by decide +kernel
theorem dX10_summersLeft_19 : decode cX10_summersLeft 19 = .ok (.istore_n 2, 1) := by decide +kernel
theorem dX10_summersLeft_20 : decode cX10_summersLeft 20 = .ok (.iload_n 2, 1) := by decide +kernel
theorem dX10_summersLeft_21 : decode cX10_summersLeft 21 = .ok (.bipush 24, 2) := by decide +kernel
theorem dX10_summersLeft_23 : decode cX10_summersLeft 23 = .ok (.if_icmp .ge 22, 3) := by decide +kernel
theorem dX10_summersLeft_26 : decode cX10_summersLeft 26 = .ok (.aload_n 0, 1) := by decide +kernel
theorem dX10_summersLeft_27 : decode cX10_summersLeft 27 = .ok (.getfield 9, 3) := by decide +kernel
theorem dX10_summersLeft_30 : decode cX10_summersLeft 30 = .ok (.bipush 6, 2) := by decide +kernel
theorem dX10_summersLeft_32 : decode cX10_summersLeft 32 = .ok (.iload_n 2, 1) := by decide +kernel
theorem dX10_summersLeft_33 : decode cX10_summersLeft 33 = .ok (.iadd, 1) := by decide +kernel
theorem dX10_summersLeft_34 : decode cX10_summersLeft 34 = .ok (.dup2, 1) := by decide +kernel
theorem dX10_summersLeft_35 : decode cX10_summersLeft 35 = .ok (.iaload, 1) := by decide +kernel
theorem dX10_summersLeft_36 : decode cX10_summersLeft 36 = .ok (.iconst 1, 1) := by decide +kernel
theorem dX10_summersLeft_37 : decode cX10_summersLeft 37 = .ok (.iadd, 1) := by decide +kernel
theorem dX10_summersLeft_38 : decode cX10_summersLeft 38 = .ok (.iastore, 1) := by decide +kernel
theorem dX10_summersLeft_39 : decode cX10_summersLeft 39 = .ok (.iinc 2 1, 3) := by decide +kernel
theorem dX10_summersLeft_42 : decode cX10_summersLeft 42 = .ok (.goto (-22), 3) := by decide +kernel
theorem dX10_summersLeft_45 : decode cX10_summersLeft 45 = .ok (.iinc 1 1, 3) := by decide +kernel
theorem dX10_summersLeft_48 : decode cX10_summersLeft 48 = .ok (.goto (-41), 3) := by decide +kernel
theorem dX10_summersLeft_51 : decode cX10_summersLeft 51 = .ok (.iconst 0, 1) := by decide +kernel
theorem dX10_summersLeft_52 : decode cX10_summersLeft 52 = .ok (.istore_n 2, 1) := by decide +kernel
theorem dX10_summersLeft_53 : decode cX10_summersLeft 53 = .ok (.iload_n 2, 1) := by decide +kernel
theorem dX10_summersLeft_54 : decode cX10_summersLeft 54 = .ok (.bipush 24, 2) := by decide +kernel
theorem dX10_summersLeft_56 : decode cX10_summersLeft 56 = .ok (.if_icmp .ge 22, 3) := by decide +kernel
theorem dX10_summersLeft_59 : decode cX10_summersLeft 59 = .ok (.aload_n 0, 1) := by decide +kernel
theorem dX10_summersLeft_60 : decode cX10_summersLeft 60 = .ok (.getfield 9, 3) := by decide +kernel
theorem dX10_summersLeft_63 : decode cX10_summersLeft 63 = .ok (.bipush 6, 2) := by decide +kernel
theorem dX10_summersLeft_65 : decode cX10_summersLeft 65 = .ok (.iload_n 2, 1) := by decide +kernel
theorem dX10_summersLeft_66 : decode cX10_summersLeft 66 = .ok (.iadd, 1) := by decide +kernel
theorem dX10_summersLeft_67 : decode cX10_summersLeft 67 = .ok (.dup2, 1) := by decide +kernel
theorem dX10_summersLeft_68 : decode cX10_summersLeft 68 = .ok (.iaload, 1) := by decide +kernel
theorem dX10_summersLeft_69 : decode cX10_summersLeft 69 = .ok (.iload_n 1, 1) := by decide +kernel
theorem dX10_summersLeft_70 : decode cX10_summersLeft 70 = .ok (.isub, 1) := by decide +kernel
theorem dX10_summersLeft_71 : decode cX10_summersLeft 71 = .ok (.iastore, 1) := by decide +kernel
theorem dX10_summersLeft_72 : decode cX10_summersLeft 72 = .ok (.iinc 2 1, 3) := by decide +kernel
theorem dX10_summersLeft_75 : decode cX10_summersLeft 75 = .ok (.goto (-22), 3) := by decide +kernel
theorem dX10_summersLeft_78 : decode cX10_summersLeft 78 = .ok (.iload_n 1, 1) := by decide +kernel
theorem dX10_summersLeft_79 : decode cX10_summersLeft 79 = .ok (.ireturn, 1) := by decide +kernel
theorem dX10_lasts_0 : decode cX10_lasts 0 = .ok (.aload_n 0, 1) := by decide +kernel
theorem dX10_lasts_1 : decode cX10_lasts 1 = .ok (.getfield 9, 3) := by decide +kernel
theorem dX10_lasts_4 : decode cX10_lasts 4 = .ok (.iload_n 1, 1) := by decide +kernel
theorem dX10_lasts_5 : decode cX10_lasts 5 = .ok (.invokestatic 126, 3) := by decide +kernel
theorem dX10_lasts_8 : decode cX10_lasts 8 = .ok (.iconst 4, 1) := by decide +kernel
theorem dX10_lasts_9 : decode cX10_lasts 9 = .ok (.iadd, 1) := by decide +kernel
theorem dX10_lasts_10 : decode cX10_lasts 10 = .ok (.iaload, 1) := by decide +kernel
theorem dX10_lasts_11 : decode cX10_lasts 11 = .ok (.iconst (-1), 1) := by decide +kernel
theorem dX10_lasts_12 : decode cX10_lasts 12 = .ok (.if_icmp .eq 22, 3) := by decide +kernel
theorem dX10_lasts_15 : decode cX10_lasts 15 = .ok (.aload_n 0, 1) := by decide +kernel
theorem dX10_lasts_16 : decode cX10_lasts 16 = .ok (.getfield 9, 3) := by decide +kernel
theorem dX10_lasts_19 : decode cX10_lasts 19 = .ok (.iload_n 1, 1) := by decide +kernel
theorem dX10_lasts_20 : decode cX10_lasts 20 = .ok (.invokestatic 126, 3) := by decide +kernel
theorem dX10_lasts_23 : decode cX10_lasts 23 = .ok (.bipush 7, 2) := by decide +kernel
theorem dX10_lasts_25 : decode cX10_lasts 25 = .ok (.iadd, 1) := by decide +kernel
theorem dX10_lasts_26 : decode cX10_lasts 26 = .ok (.iaload, 1) := by decide +kernel
theorem dX10_lasts_27 : decode cX10_lasts 27 = .ok (.ifCond .ne 7, 3) := by decide +kernel
theorem dX10_lasts_30 : decode cX10_lasts 30 = .ok (.iconst 1, 1) := by decide +kernel
theorem dX10_lasts_31 : decode cX10_lasts 31 = .ok (.goto 4, 3) := by decide +kernel
theorem dX10_lasts_34 : decode cX10_lasts 34 = .ok (.iconst 0, 1) := by decide +kernel
theorem dX10_lasts_35 : decode cX10_lasts 35 = .ok (.ireturn, 1) := by decide +kernel
theorem dX10_lasting_0 : decode cX10_lasting 0 = .ok (.iconst 0, 1) := by decide +kernel
theorem dX10_lasting_1 : decode cX10_lasting 1 = .ok (.istore_n 2, 1) := by decide +kernel
theorem dX10_lasting_2 : decode cX10_lasting 2 = .ok (.iconst 0, 1) := by decide +kernel
theorem dX10_lasting_3 : decode cX10_lasting 3 = .ok (.istore_n 3, 1) := by decide +kernel
theorem dX10_lasting_4 : decode cX10_lasting 4 = .ok (.iload_n 3, 1) := by decide +kernel
theorem dX10_lasting_5 : decode cX10_lasting 5 = .ok (.aload_n 0, 1) := by decide +kernel
theorem dX10_lasting_6 : decode cX10_lasting 6 = .ok (.getfield 9, 3) := by decide +kernel
theorem dX10_lasting_9 : decode cX10_lasting 9 = .ok (.iconst 1, 1) := by decide +kernel
theorem dX10_lasting_10 : decode cX10_lasting 10 = .ok (.iaload, 1) := by decide +kernel
theorem dX10_lasting_11 : decode cX10_lasting 11 = .ok (.if_icmp .ge 45, 3) := by decide +kernel
theorem dX10_lasting_14 : decode cX10_lasting 14 = .ok (.iload_n 2, 1) := by decide +kernel
theorem dX10_lasting_15 : decode cX10_lasting 15 = .ok (.aload_n 0, 1) := by decide +kernel
theorem dX10_lasting_16 : decode cX10_lasting 16 = .ok (.iload_n 3, 1) := by decide +kernel
theorem dX10_lasting_17 : decode cX10_lasting 17 = .ok (.invokevirtual 183, 3) := by decide +kernel
theorem dX10_lasting_20 : decode cX10_lasting 20 = .ok (.ifCond .eq 27, 3) := by decide +kernel
theorem dX10_lasting_23 : decode cX10_lasting 23 = .ok (.iload_n 1, 1) := by decide +kernel
theorem dX10_lasting_24 : decode cX10_lasting 24 = .ok (.iconst (-1), 1) := by decide +kernel
theorem dX10_lasting_25 : decode cX10_lasting 25 = .ok (.if_icmp .eq 18, 3) := by decide +kernel
theorem dX10_lasting_28 : decode cX10_lasting 28 = .ok (.aload_n 0, 1) := by decide +kernel
theorem dX10_lasting_29 : decode cX10_lasting 29 = .ok (.getfield 9, 3) := by decide +kernel
theorem dX10_lasting_32 : decode cX10_lasting 32 = .ok (.iload_n 3, 1) := by decide +kernel
theorem dX10_lasting_33 : decode cX10_lasting 33 = .ok (.invokestatic 126, 3) := by decide +kernel
theorem dX10_lasting_36 : decode cX10_lasting 36 = .ok (.iconst 4, 1) := by decide +kernel
theorem dX10_lasting_37 : decode cX10_lasting 37 = .ok (.iadd, 1) := by decide +kernel
theorem dX10_lasting_38 : decode cX10_lasting 38 = .ok (.iaload, 1) := by decide +kernel
theorem dX10_lasting_39 : decode cX10_lasting 39 = .ok (.iload_n 1, 1) := by decide +kernel
theorem dX10_lasting_40 : decode cX10_lasting 40 = .ok (.if_icmp .ne 7, 3) := by decide +kernel
theorem dX10_lasting_43 : decode cX10_lasting 43 = .ok (.iconst 1, 1) := by decide +kernel
theorem dX10_lasting_44 : decode cX10_lasting 44 = .ok (.goto 4, 3) := by decide +kernel
theorem dX10_lasting_47 : decode cX10_lasting 47 = .ok (.iconst 0, 1) := by decide +kernel
theorem dX10_lasting_48 : decode cX10_lasting 48 = .ok (.iadd, 1) := by decide +kernel
theorem dX10_lasting_49 : decode cX10_lasting 49 = .ok (.istore_n 2, 1) := by decide +kernel
theorem dX10_lasting_50 : decode cX10_lasting 50 = .ok (.iinc 3 1, 3) := by decide +kernel
theorem dX10_lasting_53 : decode cX10_lasting 53 = .ok (.goto (-49), 3) := by decide +kernel
theorem dX10_lasting_56 : decode cX10_lasting 56 = .ok (.iload_n 2, 1) := by decide +kernel
theorem dX10_lasting_57 : decode cX10_lasting 57 = .ok (.ireturn, 1) := by decide +kernel
theorem dX10_gardenerOf_0 : decode cX10_gardenerOf 0 = .ok (.aload_n 0, 1) := by decide +kernel
theorem dX10_gardenerOf_1 : decode cX10_gardenerOf 1 = .ok (.iconst 0, 1) := by decide +kernel
theorem dX10_gardenerOf_2 : decode cX10_gardenerOf 2 = .ok (.putfield 38, 3) := by decide +kernel
theorem dX10_gardenerOf_5 : decode cX10_gardenerOf 5 = .ok (.aload_n 0, 1) := by decide +kernel
theorem dX10_gardenerOf_6 : decode cX10_gardenerOf 6 = .ok (.iload_n 1, 1) := by decide +kernel
theorem dX10_gardenerOf_7 : decode cX10_gardenerOf 7 = .ok (.invokevirtual 117, 3) := by decide +kernel
theorem dX10_gardenerOf_10 : decode cX10_gardenerOf 10 = .ok (.ifCond .ne 9, 3) := by decide +kernel
theorem dX10_gardenerOf_13 : decode cX10_gardenerOf 13 = .ok (.aload_n 0, 1) := by decide +kernel
theorem dX10_gardenerOf_14 : decode cX10_gardenerOf 14 = .ok (.iconst 1, 1) := by decide +kernel
theorem dX10_gardenerOf_15 : decode cX10_gardenerOf 15 = .ok (.invokevirtual 50, 3) := by decide +kernel
theorem dX10_gardenerOf_18 : decode cX10_gardenerOf 18 = .ok (.ireturn, 1) := by decide +kernel
theorem dX10_gardenerOf_19 : decode cX10_gardenerOf 19 = .ok (.iload_n 2, 1) := by decide +kernel
theorem dX10_gardenerOf_20 : decode cX10_gardenerOf 20 = .ok (.tableswitch 66 0 4 #[36, 46, 52, 52, 52], 36) := by decide +kernel
theorem dX10_gardenerOf_56 : decode cX10_gardenerOf 56 = .ok (.aload_n 0, 1) := by decide +kernel
theorem dX10_gardenerOf_57 : decode cX10_gardenerOf 57 = .ok (.getfield 9, 3) := by decide +kernel
theorem dX10_gardenerOf_60 : decode cX10_gardenerOf 60 = .ok (.iload_n 1, 1) := by decide +kernel
theorem dX10_gardenerOf_61 : decode cX10_gardenerOf 61 = .ok (.invokestatic 120, 3) := by decide +kernel
theorem dX10_gardenerOf_64 : decode cX10_gardenerOf 64 = .ok (.iaload, 1) := by decide +kernel
theorem dX10_gardenerOf_65 : decode cX10_gardenerOf 65 = .ok (.ireturn, 1) := by decide +kernel
theorem dX10_gardenerOf_66 : decode cX10_gardenerOf 66 = .ok (.aload_n 0, 1) := by decide +kernel
theorem dX10_gardenerOf_67 : decode cX10_gardenerOf 67 = .ok (.iload_n 1, 1) := by decide +kernel
theorem dX10_gardenerOf_68 : decode cX10_gardenerOf 68 = .ok (.invokevirtual 186, 3) := by decide +kernel
theorem dX10_gardenerOf_71 : decode cX10_gardenerOf 71 = .ok (.ireturn, 1) := by decide +kernel
theorem dX10_gardenerOf_72 : decode cX10_gardenerOf 72 = .ok (.aload_n 0, 1) := by decide +kernel
theorem dX10_gardenerOf_73 : decode cX10_gardenerOf 73 = .ok (.getfield 9, 3) := by decide +kernel
theorem dX10_gardenerOf_76 : decode cX10_gardenerOf 76 = .ok (.iload_n 1, 1) := by decide +kernel
theorem dX10_gardenerOf_77 : decode cX10_gardenerOf 77 = .ok (.invokestatic 120, 3) := by decide +kernel
theorem dX10_gardenerOf_80 : decode cX10_gardenerOf 80 = .ok (.iload_n 2, 1) := by decide +kernel
theorem dX10_gardenerOf_81 : decode cX10_gardenerOf 81 = .ok (.iadd, 1) := by decide +kernel
theorem dX10_gardenerOf_82 : decode cX10_gardenerOf 82 = .ok (.iconst 1, 1) := by decide +kernel
theorem dX10_gardenerOf_83 : decode cX10_gardenerOf 83 = .ok (.isub, 1) := by decide +kernel
theorem dX10_gardenerOf_84 : decode cX10_gardenerOf 84 = .ok (.iaload, 1) := by decide +kernel
theorem dX10_gardenerOf_85 : decode cX10_gardenerOf 85 = .ok (.ireturn, 1) := by decide +kernel
theorem dX10_gardenerOf_86 : decode cX10_gardenerOf 86 = .ok (.aload_n 0, 1) := by decide +kernel
theorem dX10_gardenerOf_87 : decode cX10_gardenerOf 87 = .ok (.iconst 2, 1) := by decide +kernel
theorem dX10_gardenerOf_88 : decode cX10_gardenerOf 88 = .ok (.invokevirtual 50, 3) := by decide +kernel
theorem dX10_gardenerOf_91 : decode cX10_gardenerOf 91 = .ok (.ireturn, 1) := by decide +kernel
theorem dX10_visitorOf_0 : decode cX10_visitorOf 0 = .ok (.aload_n 0, 1) := by decide +kernel
theorem dX10_visitorOf_1 : decode cX10_visitorOf 1 = .ok (.iconst 0, 1) := by decide +kernel
theorem dX10_visitorOf_2 : decode cX10_visitorOf 2 = .ok (.putfield 38, 3) := by decide +kernel
theorem dX10_visitorOf_5 : decode cX10_visitorOf 5 = .ok (.aload_n 0, 1) := by decide +kernel
theorem dX10_visitorOf_6 : decode cX10_visitorOf 6 = .ok (.iload_n 1, 1) := by decide +kernel
theorem dX10_visitorOf_7 : decode cX10_visitorOf 7 = .ok (.invokevirtual 154, 3) := by decide +kernel
theorem dX10_visitorOf_10 : decode cX10_visitorOf 10 = .ok (.ifCond .ne 9, 3) := by decide +kernel
theorem dX10_visitorOf_13 : decode cX10_visitorOf 13 = .ok (.aload_n 0, 1) := by decide +kernel
theorem dX10_visitorOf_14 : decode cX10_visitorOf 14 = .ok (.iconst 1, 1) := by decide +kernel
theorem dX10_visitorOf_15 : decode cX10_visitorOf 15 = .ok (.invokevirtual 50, 3) := by decide +kernel
theorem dX10_visitorOf_18 : decode cX10_visitorOf 18 = .ok (.ireturn, 1) := by decide +kernel
theorem dX10_visitorOf_19 : decode cX10_visitorOf 19 = .ok (.iload_n 1, 1) := by decide +kernel
theorem dX10_visitorOf_20 : decode cX10_visitorOf 20 = .ok (.invokestatic 126, 3) := by decide +kernel
theorem dX10_visitorOf_23 : decode cX10_visitorOf 23 = .ok (.istore_n 3, 1) := by decide +kernel
theorem dX10_visitorOf_24 : decode cX10_visitorOf 24 = .ok (.iload_n 2, 1) := by decide +kernel
theorem dX10_visitorOf_25 : decode cX10_visitorOf 25 = .ok (.tableswitch 77 0 8 #[51, 51, 51, 51, 60, 66, 66, 66, 66], 51) := by decide +kernel
theorem dX10_visitorOf_76 : decode cX10_visitorOf 76 = .ok (.aload_n 0, 1) := by decide +kernel
theorem dX10_visitorOf_77 : decode cX10_visitorOf 77 = .ok (.getfield 9, 3) := by decide +kernel
theorem dX10_visitorOf_80 : decode cX10_visitorOf 80 = .ok (.iload_n 3, 1) := by decide +kernel
theorem dX10_visitorOf_81 : decode cX10_visitorOf 81 = .ok (.iload_n 2, 1) := by decide +kernel
theorem dX10_visitorOf_82 : decode cX10_visitorOf 82 = .ok (.iadd, 1) := by decide +kernel
theorem dX10_visitorOf_83 : decode cX10_visitorOf 83 = .ok (.iaload, 1) := by decide +kernel
theorem dX10_visitorOf_84 : decode cX10_visitorOf 84 = .ok (.ireturn, 1) := by decide +kernel
theorem dX10_visitorOf_85 : decode cX10_visitorOf 85 = .ok (.aload_n 0, 1) := by decide +kernel
theorem dX10_visitorOf_86 : decode cX10_visitorOf 86 = .ok (.iload_n 1, 1) := by decide +kernel
theorem dX10_visitorOf_87 : decode cX10_visitorOf 87 = .ok (.invokevirtual 162, 3) := by decide +kernel
theorem dX10_visitorOf_90 : decode cX10_visitorOf 90 = .ok (.ireturn, 1) := by decide +kernel
theorem dX10_visitorOf_91 : decode cX10_visitorOf 91 = .ok (.aload_n 0, 1) := by decide +kernel
theorem dX10_visitorOf_92 : decode cX10_visitorOf 92 = .ok (.getfield 9, 3) := by decide +kernel
theorem dX10_visitorOf_95 : decode cX10_visitorOf 95 = .ok (.iload_n 3, 1) := by decide +kernel
theorem dX10_visitorOf_96 : decode cX10_visitorOf 96 = .ok (.iload_n 2, 1) := by decide +kernel
theorem dX10_visitorOf_97 : decode cX10_visitorOf 97 = .ok (.iadd, 1) := by decide +kernel
theorem dX10_visitorOf_98 : decode cX10_visitorOf 98 = .ok (.iconst 1, 1) := by decide +kernel
theorem dX10_visitorOf_99 : decode cX10_visitorOf 99 = .ok (.isub, 1) := by decide +kernel
theorem dX10_visitorOf_100 : decode cX10_visitorOf 100 = .ok (.iaload, 1) := by decide +kernel
theorem dX10_visitorOf_101 : decode cX10_visitorOf 101 = .ok (.ireturn, 1) := by decide +kernel
theorem dX10_visitorOf_102 : decode cX10_visitorOf 102 = .ok (.aload_n 0, 1) := by decide +kernel
theorem dX10_visitorOf_103 : decode cX10_visitorOf 103 = .ok (.iconst 2, 1) := by decide +kernel
theorem dX10_visitorOf_104 : decode cX10_visitorOf 104 = .ok (.invokevirtual 50, 3) := by decide +kernel
theorem dX10_visitorOf_107 : decode cX10_visitorOf 107 = .ok (.ireturn, 1) := by decide +kernel
theorem dX10_wouldPay_0 : decode cX10_wouldPay 0 = .ok (.aload_n 0, 1) := by decide +kernel
theorem dX10_wouldPay_1 : decode cX10_wouldPay 1 = .ok (.iconst 0, 1) := by decide +kernel
theorem dX10_wouldPay_2 : decode cX10_wouldPay 2 = .ok (.putfield 38, 3) := by decide +kernel
theorem dX10_wouldPay_5 : decode cX10_wouldPay 5 = .ok (.aload_n 0, 1) := by decide +kernel
theorem dX10_wouldPay_6 : decode cX10_wouldPay 6 = .ok (.iload_n 1, 1) := by decide +kernel
theorem dX10_wouldPay_7 : decode cX10_wouldPay 7 = .ok (.invokevirtual 154, 3) := by decide +kernel
theorem dX10_wouldPay_10 : decode cX10_wouldPay 10 = .ok (.ifCond .ne 9, 3) := by decide +kernel
theorem dX10_wouldPay_13 : decode cX10_wouldPay 13 = .ok (.aload_n 0, 1) := by decide +kernel
theorem dX10_wouldPay_14 : decode cX10_wouldPay 14 = .ok (.iconst 1, 1) := by decide +kernel
theorem dX10_wouldPay_15 : decode cX10_wouldPay 15 = .ok (.invokevirtual 50, 3) := by decide +kernel
theorem dX10_wouldPay_18 : decode cX10_wouldPay 18 = .ok (.ireturn, 1) := by decide +kernel
theorem dX10_wouldPay_19 : decode cX10_wouldPay 19 = .ok (.iload_n 1, 1) := by decide +kernel
theorem dX10_wouldPay_20 : decode cX10_wouldPay 20 = .ok (.invokestatic 126, 3) := by decide +kernel
theorem dX10_wouldPay_23 : decode cX10_wouldPay 23 = .ok (.istore_n 2, 1) := by decide +kernel
theorem dX10_wouldPay_24 : decode cX10_wouldPay 24 = .ok (.aload_n 0, 1) := by decide +kernel
theorem dX10_wouldPay_25 : decode cX10_wouldPay 25 = .ok (.aload_n 0, 1) := by decide +kernel
theorem dX10_wouldPay_26 : decode cX10_wouldPay 26 = .ok (.getfield 9, 3) := by decide +kernel
theorem dX10_wouldPay_29 : decode cX10_wouldPay 29 = .ok (.iload_n 2, 1) := by decide +kernel
theorem dX10_wouldPay_30 : decode cX10_wouldPay 30 = .ok (.iconst 1, 1) := by decide +kernel
theorem dX10_wouldPay_31 : decode cX10_wouldPay 31 = .ok (.iadd, 1) := by decide +kernel
theorem dX10_wouldPay_32 : decode cX10_wouldPay 32 = .ok (.iaload, 1) := by decide +kernel
theorem dX10_wouldPay_33 : decode cX10_wouldPay 33 = .ok (.bipush 15, 2) := by decide +kernel
theorem dX10_wouldPay_35 : decode cX10_wouldPay 35 = .ok (.invokevirtual 142, 3) := by decide +kernel
theorem dX10_wouldPay_38 : decode cX10_wouldPay 38 = .ok (.istore_n 3, 1) := by decide +kernel
theorem dX10_wouldPay_39 : decode cX10_wouldPay 39 = .ok (.aload_n 0, 1) := by decide +kernel
theorem dX10_wouldPay_40 : decode cX10_wouldPay 40 = .ok (.iload_n 1, 1) := by decide +kernel
theorem dX10_wouldPay_41 : decode cX10_wouldPay 41 = .ok (.invokevirtual 183, 3) := by decide +kernel
theorem dX10_wouldPay_44 : decode cX10_wouldPay 44 = .ok (.ifCond .eq 8, 3) := by decide +kernel
theorem dX10_wouldPay_47 : decode cX10_wouldPay 47 = .ok (.iload_n 3, 1) := by decide +kernel
theorem dX10_wouldPay_48 : decode cX10_wouldPay 48 = .ok (.iconst (-1), 1) := by decide +kernel
theorem dX10_wouldPay_49 : decode cX10_wouldPay 49 = .ok (.if_icmp .ne 9, 3) := by decide +kernel
theorem dX10_wouldPay_52 : decode cX10_wouldPay 52 = .ok (.aload_n 0, 1) := by decide +kernel
theorem dX10_wouldPay_53 : decode cX10_wouldPay 53 = .ok (.iconst 2, 1) := by decide +kernel
theorem dX10_wouldPay_54 : decode cX10_wouldPay 54 = .ok (.invokevirtual 50, 3) := by decide +kernel
theorem dX10_wouldPay_57 : decode cX10_wouldPay 57 = .ok (.ireturn, 1) := by decide +kernel
theorem dX10_wouldPay_58 : decode cX10_wouldPay 58 = .ok (.aload_n 0, 1) := by decide +kernel
theorem dX10_wouldPay_59 : decode cX10_wouldPay 59 = .ok (.iload_n 1, 1) := by decide +kernel
theorem dX10_wouldPay_60 : decode cX10_wouldPay 60 = .ok (.iconst 0, 1) := by decide +kernel
theorem dX10_wouldPay_61 : decode cX10_wouldPay 61 = .ok (.aload_n 0, 1) := by decide +kernel
theorem dX10_wouldPay_62 : decode cX10_wouldPay 62 = .ok (.getfield 9, 3) := by decide +kernel
theorem dX10_wouldPay_65 : decode cX10_wouldPay 65 = .ok (.iload_n 2, 1) := by decide +kernel
theorem dX10_wouldPay_66 : decode cX10_wouldPay 66 = .ok (.iconst 2, 1) := by decide +kernel
theorem dX10_wouldPay_67 : decode cX10_wouldPay 67 = .ok (.iadd, 1) := by decide +kernel
theorem dX10_wouldPay_68 : decode cX10_wouldPay 68 = .ok (.iaload, 1) := by decide +kernel
theorem dX10_wouldPay_69 : decode cX10_wouldPay 69 = .ok (.iload_n 3, 1) := by decide +kernel
theorem dX10_wouldPay_70 : decode cX10_wouldPay 70 = .ok (.iadd, 1) := by decide +kernel
theorem dX10_wouldPay_71 : decode cX10_wouldPay 71 = .ok (.aload_n 0, 1) := by decide +kernel
theorem dX10_wouldPay_72 : decode cX10_wouldPay 72 = .ok (.getfield 9, 3) := by decide +kernel
theorem dX10_wouldPay_75 : decode cX10_wouldPay 75 = .ok (.iload_n 2, 1) := by decide +kernel
theorem dX10_wouldPay_76 : decode cX10_wouldPay 76 = .ok (.iconst 3, 1) := by decide +kernel
theorem dX10_wouldPay_77 : decode cX10_wouldPay 77 = .ok (.iadd, 1) := by decide +kernel
theorem dX10_wouldPay_78 : decode cX10_wouldPay 78 = .ok (.iaload, 1) := by decide +kernel
theorem dX10_wouldPay_79 : decode cX10_wouldPay 79 = .ok (.isub, 1) := by decide +kernel
theorem dX10_wouldPay_80 : decode cX10_wouldPay 80 = .ok (.invokestatic 71, 3) := by decide +kernel
theorem dX10_wouldPay_83 : decode cX10_wouldPay 83 = .ok (.invokevirtual 165, 3) := by decide +kernel
theorem dX10_wouldPay_86 : decode cX10_wouldPay 86 = .ok (.ireturn, 1) := by decide +kernel
theorem dX10_owedBy_0 : decode cX10_owedBy 0 = .ok (.iconst 0, 1) := by decide +kernel
theorem dX10_owedBy_1 : decode cX10_owedBy 1 = .ok (.istore_n 2, 1) := by decide +kernel
theorem dX10_owedBy_2 : decode cX10_owedBy 2 = .ok (.iconst 0, 1) := by decide +kernel
theorem dX10_owedBy_3 : decode cX10_owedBy 3 = .ok (.istore_n 3, 1) := by decide +kernel
theorem dX10_owedBy_4 : decode cX10_owedBy 4 = .ok (.iload_n 3, 1) := by decide +kernel
theorem dX10_owedBy_5 : decode cX10_owedBy 5 = .ok (.aload_n 0, 1) := by decide +kernel
theorem dX10_owedBy_6 : decode cX10_owedBy 6 = .ok (.getfield 9, 3) := by decide +kernel
theorem dX10_owedBy_9 : decode cX10_owedBy 9 = .ok (.iconst 1, 1) := by decide +kernel
theorem dX10_owedBy_10 : decode cX10_owedBy 10 = .ok (.iaload, 1) := by decide +kernel
theorem dX10_owedBy_11 : decode cX10_owedBy 11 = .ok (.if_icmp .ge 83, 3) := by decide +kernel
theorem dX10_owedBy_14 : decode cX10_owedBy 14 = .ok (.iload_n 3, 1) := by decide +kernel
theorem dX10_owedBy_15 : decode cX10_owedBy 15 = .ok (.invokestatic 126, 3) := by decide +kernel
theorem dX10_owedBy_18 : decode cX10_owedBy 18 = .ok (.istore 4, 2) := by decide +kernel
theorem dX10_owedBy_20 : decode cX10_owedBy 20 = .ok (.aload_n 0, 1) := by decide +kernel
theorem dX10_owedBy_21 : decode cX10_owedBy 21 = .ok (.iload_n 3, 1) := by decide +kernel
theorem dX10_owedBy_22 : decode cX10_owedBy 22 = .ok (.invokevirtual 183, 3) := by decide +kernel
theorem dX10_owedBy_25 : decode cX10_owedBy 25 = .ok (.ifCond .eq 33, 3) := by decide +kernel
theorem dX10_owedBy_28 : decode cX10_owedBy 28 = .ok (.aload_n 0, 1) := by decide +kernel
theorem dX10_owedBy_29 : decode cX10_owedBy 29 = .ok (.getfield 9, 3) := by decide +kernel
theorem dX10_owedBy_32 : decode cX10_owedBy 32 = .ok (.iload 4, 2) := by decide +kernel
theorem dX10_owedBy_34 : decode cX10_owedBy 34 = .ok (.iconst 4, 1) := by decide +kernel
theorem dX10_owedBy_35 : decode cX10_owedBy 35 = .ok (.iadd, 1) := by decide +kernel
theorem dX10_owedBy_36 : decode cX10_owedBy 36 = .ok (.iaload, 1) := by decide +kernel
theorem dX10_owedBy_37 : decode cX10_owedBy 37 = .ok (.iload_n 1, 1) := by decide +kernel
theorem dX10_owedBy_38 : decode cX10_owedBy 38 = .ok (.if_icmp .ne 20, 3) := by decide +kernel
theorem dX10_owedBy_41 : decode cX10_owedBy 41 = .ok (.aload_n 0, 1) := by decide +kernel
theorem dX10_owedBy_42 : decode cX10_owedBy 42 = .ok (.getfield 9, 3) := by decide +kernel
theorem dX10_owedBy_45 : decode cX10_owedBy 45 = .ok (.iload 4, 2) := by decide +kernel
theorem dX10_owedBy_47 : decode cX10_owedBy 47 = .ok (.bipush 6, 2) := by decide +kernel
theorem dX10_owedBy_49 : decode cX10_owedBy 49 = .ok (.iadd, 1) := by decide +kernel
theorem dX10_owedBy_50 : decode cX10_owedBy 50 = .ok (.iaload, 1) := by decide +kernel
theorem dX10_owedBy_51 : decode cX10_owedBy 51 = .ok (.ifCond .ne 7, 3) := by decide +kernel
theorem dX10_owedBy_54 : decode cX10_owedBy 54 = .ok (.iconst 1, 1) := by decide +kernel
theorem dX10_owedBy_55 : decode cX10_owedBy 55 = .ok (.goto 4, 3) := by decide +kernel
theorem dX10_owedBy_58 : decode cX10_owedBy 58 = .ok (.iconst 0, 1) := by decide +kernel
theorem dX10_owedBy_59 : decode cX10_owedBy 59 = .ok (.istore 5, 2) := by decide +kernel
theorem dX10_owedBy_61 : decode cX10_owedBy 61 = .ok (.iload_n 2, 1) := by decide +kernel
theorem dX10_owedBy_62 : decode cX10_owedBy 62 = .ok (.iload 5, 2) := by decide +kernel
theorem dX10_owedBy_64 : decode cX10_owedBy 64 = .ok (.ifCond .eq 21, 3) := by decide +kernel
theorem dX10_owedBy_67 : decode cX10_owedBy 67 = .ok (.aload_n 0, 1) := by decide +kernel
theorem dX10_owedBy_68 : decode cX10_owedBy 68 = .ok (.getfield 9, 3) := by decide +kernel
theorem dX10_owedBy_71 : decode cX10_owedBy 71 = .ok (.iload 4, 2) := by decide +kernel
theorem dX10_owedBy_73 : decode cX10_owedBy 73 = .ok (.iconst 5, 1) := by decide +kernel
theorem dX10_owedBy_74 : decode cX10_owedBy 74 = .ok (.iadd, 1) := by decide +kernel
theorem dX10_owedBy_75 : decode cX10_owedBy 75 = .ok (.iaload, 1) := by decide +kernel
theorem dX10_owedBy_76 : decode cX10_owedBy 76 = .ok (.aload_n 0, 1) := by decide +kernel
theorem dX10_owedBy_77 : decode cX10_owedBy 77 = .ok (.iload_n 3, 1) := by decide +kernel
theorem dX10_owedBy_78 : decode cX10_owedBy 78 = .ok (.invokevirtual 162, 3) := by decide +kernel
theorem dX10_owedBy_81 : decode cX10_owedBy 81 = .ok (.imul, 1) := by decide +kernel
theorem dX10_owedBy_82 : decode cX10_owedBy 82 = .ok (.goto 4, 3) := by decide +kernel
theorem dX10_owedBy_85 : decode cX10_owedBy 85 = .ok (.iconst 0, 1) := by decide +kernel
theorem dX10_owedBy_86 : decode cX10_owedBy 86 = .ok (.iadd, 1) := by decide +kernel
theorem dX10_owedBy_87 : decode cX10_owedBy 87 = .ok (.istore_n 2, 1) := by decide +kernel
theorem dX10_owedBy_88 : decode cX10_owedBy 88 = .ok (.iinc 3 1, 3) := by decide +kernel
theorem dX10_owedBy_91 : decode cX10_owedBy 91 = .ok (.goto (-87), 3) := by decide +kernel
theorem dX10_owedBy_94 : decode cX10_owedBy 94 = .ok (.iload_n 2, 1) := by decide +kernel
theorem dX10_owedBy_95 : decode cX10_owedBy 95 = .ok (.ireturn, 1) := by decide +kernel
theorem dX10_owed_0 : decode cX10_owed 0 = .ok (.aload_n 0, 1) := by decide +kernel
theorem dX10_owed_1 : decode cX10_owed 1 = .ok (.iconst 0, 1) := by decide +kernel
theorem dX10_owed_2 : decode cX10_owed 2 = .ok (.putfield 38, 3) := by decide +kernel
theorem dX10_owed_5 : decode cX10_owed 5 = .ok (.aload_n 0, 1) := by decide +kernel
theorem dX10_owed_6 : decode cX10_owed 6 = .ok (.iload_n 1, 1) := by decide +kernel
theorem dX10_owed_7 : decode cX10_owed 7 = .ok (.invokevirtual 117, 3) := by decide +kernel
theorem dX10_owed_10 : decode cX10_owed 10 = .ok (.ifCond .eq 11, 3) := by decide +kernel
theorem dX10_owed_13 : decode cX10_owed 13 = .ok (.aload_n 0, 1) := by decide +kernel
theorem dX10_owed_14 : decode cX10_owed 14 = .ok (.iload_n 1, 1) := by decide +kernel
theorem dX10_owed_15 : decode cX10_owed 15 = .ok (.invokevirtual 189, 3) := by decide +kernel
theorem dX10_owed_18 : decode cX10_owed 18 = .ok (.goto 8, 3) := by decide +kernel
theorem dX10_owed_21 : decode cX10_owed 21 = .ok (.aload_n 0, 1) := by decide +kernel
theorem dX10_owed_22 : decode cX10_owed 22 = .ok (.iconst 1, 1) := by decide +kernel
theorem dX10_owed_23 : decode cX10_owed 23 = .ok (.invokevirtual 50, 3) := by decide +kernel
theorem dX10_owed_26 : decode cX10_owed 26 = .ok (.ireturn, 1) := by decide +kernel
theorem dX10_measured_0 : decode cX10_measured 0 = .ok (.iload_n 2, 1) := by decide +kernel
theorem dX10_measured_1 : decode cX10_measured 1 = .ok (.invokestatic 126, 3) := by decide +kernel
theorem dX10_measured_4 : decode cX10_measured 4 = .ok (.istore_n 3, 1) := by decide +kernel
theorem dX10_measured_5 : decode cX10_measured 5 = .ok (.iload_n 1, 1) := by decide +kernel
theorem dX10_measured_6 : decode cX10_measured 6 = .ok (.tableswitch 48 0 2 #[26, 33, 42], 26) := by decide +kernel
theorem dX10_measured_32 : decode cX10_measured 32 = .ok (.aload_n 0, 1) := by decide +kernel
theorem dX10_measured_33 : decode cX10_measured 33 = .ok (.getfield 9, 3) := by decide +kernel
theorem dX10_measured_36 : decode cX10_measured 36 = .ok (.iload_n 3, 1) := by decide +kernel
theorem dX10_measured_37 : decode cX10_measured 37 = .ok (.iaload, 1) := by decide +kernel
theorem dX10_measured_38 : decode cX10_measured 38 = .ok (.ireturn, 1) := by decide +kernel
theorem dX10_measured_39 : decode cX10_measured 39 = .ok (.aload_n 0, 1) := by decide +kernel
theorem dX10_measured_40 : decode cX10_measured 40 = .ok (.getfield 9, 3) := by decide +kernel
theorem dX10_measured_43 : decode cX10_measured 43 = .ok (.iload_n 3, 1) := by decide +kernel
theorem dX10_measured_44 : decode cX10_measured 44 = .ok (.iconst 2, 1) := by decide +kernel
theorem dX10_measured_45 : decode cX10_measured 45 = .ok (.iadd, 1) := by decide +kernel
theorem dX10_measured_46 : decode cX10_measured 46 = .ok (.iaload, 1) := by decide +kernel
theorem dX10_measured_47 : decode cX10_measured 47 = .ok (.ireturn, 1) := by decide +kernel
theorem dX10_measured_48 : decode cX10_measured 48 = .ok (.aload_n 0, 1) := by decide +kernel
theorem dX10_measured_49 : decode cX10_measured 49 = .ok (.iload_n 2, 1) := by decide +kernel
theorem dX10_measured_50 : decode cX10_measured 50 = .ok (.invokevirtual 162, 3) := by decide +kernel
theorem dX10_measured_53 : decode cX10_measured 53 = .ok (.ireturn, 1) := by decide +kernel
theorem dX10_measured_54 : decode cX10_measured 54 = .ok (.aload_n 0, 1) := by decide +kernel
theorem dX10_measured_55 : decode cX10_measured 55 = .ok (.getfield 9, 3) := by decide +kernel
theorem dX10_measured_58 : decode cX10_measured 58 = .ok (.iload_n 3, 1) := by decide +kernel
theorem dX10_measured_59 : decode cX10_measured 59 = .ok (.iconst 5, 1) := by decide +kernel
theorem dX10_measured_60 : decode cX10_measured 60 = .ok (.iadd, 1) := by decide +kernel
theorem dX10_measured_61 : decode cX10_measured 61 = .ok (.iaload, 1) := by decide +kernel
theorem dX10_measured_62 : decode cX10_measured 62 = .ok (.ireturn, 1) := by decide +kernel
theorem dX10_ranked_0 : decode cX10_ranked 0 = .ok (.aload_n 0, 1) := by decide +kernel
theorem dX10_ranked_1 : decode cX10_ranked 1 = .ok (.iconst 0, 1) := by decide +kernel
theorem dX10_ranked_2 : decode cX10_ranked 2 = .ok (.putfield 38, 3) := by decide +kernel
theorem dX10_ranked_5 : decode cX10_ranked 5 = .ok (.iload_n 1, 1) := by decide +kernel
theorem dX10_ranked_6 : decode cX10_ranked 6 = .ok (.i2l, 1) := by decide +kernel
theorem dX10_ranked_7 : decode cX10_ranked 7 = .ok (.lconst 0, 1) := by decide +kernel
theorem dX10_ranked_8 : decode cX10_ranked 8 = .ok (.ldc2_w 63, 3) := by decide +kernel
theorem dX10_ranked_11 : decode cX10_ranked 11 = .ok (.invokestatic 59, 3) := by decide +kernel
theorem dX10_ranked_14 : decode cX10_ranked 14 = .ok (.ifCond .ne 9, 3) := by decide +kernel
theorem dX10_ranked_17 : decode cX10_ranked 17 = .ok (.aload_n 0, 1) := by decide +kernel
theorem dX10_ranked_18 : decode cX10_ranked 18 = .ok (.iconst 1, 1) := by decide +kernel
theorem dX10_ranked_19 : decode cX10_ranked 19 = .ok (.invokevirtual 50, 3) := by decide +kernel
theorem dX10_ranked_22 : decode cX10_ranked 22 = .ok (.ireturn, 1) := by decide +kernel
theorem dX10_ranked_23 : decode cX10_ranked 23 = .ok (.iconst 0, 1) := by decide +kernel
theorem dX10_ranked_24 : decode cX10_ranked 24 = .ok (.istore_n 3, 1) := by decide +kernel
theorem dX10_ranked_25 : decode cX10_ranked 25 = .ok (.iload_n 3, 1) := by decide +kernel
theorem dX10_ranked_26 : decode cX10_ranked 26 = .ok (.aload_n 0, 1) := by decide +kernel
theorem dX10_ranked_27 : decode cX10_ranked 27 = .ok (.getfield 9, 3) := by decide +kernel
theorem dX10_ranked_30 : decode cX10_ranked 30 = .ok (.iconst 1, 1) := by decide +kernel
theorem dX10_ranked_31 : decode cX10_ranked 31 = .ok (.iaload, 1) := by decide +kernel
theorem dX10_ranked_32 : decode cX10_ranked 32 = .ok (.if_icmp .ge 82, 3) := by decide +kernel
theorem dX10_ranked_35 : decode cX10_ranked 35 = .ok (.iconst 0, 1) := by decide +kernel
theorem dX10_ranked_36 : decode cX10_ranked 36 = .ok (.istore 4, 2) := by decide +kernel
theorem dX10_ranked_38 : decode cX10_ranked 38 = .ok (.iconst 0, 1) := by decide +kernel
theorem dX10_ranked_39 : decode cX10_ranked 39 = .ok (.istore 5, 2) := by decide +kernel
theorem dX10_ranked_41 : decode cX10_ranked 41 = .ok (.iload 5, 2) := by decide +kernel
theorem dX10_ranked_43 : decode cX10_ranked 43 = .ok (.aload_n 0, 1) := by decide +kernel
theorem dX10_ranked_44 : decode cX10_ranked 44 = .ok (.getfield 9, 3) := by decide +kernel
theorem dX10_ranked_47 : decode cX10_ranked 47 = .ok (.iconst 1, 1) := by decide +kernel
theorem dX10_ranked_48 : decode cX10_ranked 48 = .ok (.iaload, 1) := by decide +kernel
theorem dX10_ranked_49 : decode cX10_ranked 49 = .ok (.if_icmp .ge 51, 3) := by decide +kernel
theorem dX10_ranked_52 : decode cX10_ranked 52 = .ok (.aload_n 0, 1) := by decide +kernel
theorem dX10_ranked_53 : decode cX10_ranked 53 = .ok (.iload_n 1, 1) := by decide +kernel
theorem dX10_ranked_54 : decode cX10_ranked 54 = .ok (.iload 5, 2) := by decide +kernel
theorem dX10_ranked_56 : decode cX10_ranked 56 = .ok (.invokevirtual 192, 3) := by decide +kernel
theorem dX10_ranked_59 : decode cX10_ranked 59 = .ok (.aload_n 0, 1) := by decide +kernel
theorem dX10_ranked_60 : decode cX10_ranked 60 = .ok (.iload_n 1, 1) := by decide +kernel
theorem dX10_ranked_61 : decode cX10_ranked 61 = .ok (.iload_n 3, 1) := by decide +kernel
theorem dX10_ranked_62 : decode cX10_ranked 62 = .ok (.invokevirtual 192, 3) := by decide +kernel
theorem dX10_ranked_65 : decode cX10_ranked 65 = .ok (.isub, 1) := by decide +kernel
theorem dX10_ranked_66 : decode cX10_ranked 66 = .ok (.istore 6, 2) := by decide +kernel
theorem dX10_ranked_68 : decode cX10_ranked 68 = .ok (.iload 4, 2) := by decide +kernel
theorem dX10_ranked_70 : decode cX10_ranked 70 = .ok (.iload 6, 2) := by decide +kernel
theorem dX10_ranked_72 : decode cX10_ranked 72 = .ok (.ifCond .gt 14, 3) := by decide +kernel
theorem dX10_ranked_75 : decode cX10_ranked 75 = .ok (.iload 6, 2) := by decide +kernel
theorem dX10_ranked_77 : decode cX10_ranked 77 = .ok (.ifCond .ne 13, 3) := by decide +kernel
theorem dX10_ranked_80 : decode cX10_ranked 80 = .ok (.iload 5, 2) := by decide +kernel
theorem dX10_ranked_82 : decode cX10_ranked 82 = .ok (.iload_n 3, 1) := by decide +kernel
theorem dX10_ranked_83 : decode cX10_ranked 83 = .ok (.if_icmp .ge 7, 3) := by decide +kernel
theorem dX10_ranked_86 : decode cX10_ranked 86 = .ok (.iconst 1, 1) := by decide +kernel
theorem dX10_ranked_87 : decode cX10_ranked 87 = .ok (.goto 4, 3) := by decide +kernel
theorem dX10_ranked_90 : decode cX10_ranked 90 = .ok (.iconst 0, 1) := by decide +kernel
theorem dX10_ranked_91 : decode cX10_ranked 91 = .ok (.iadd, 1) := by decide +kernel
theorem dX10_ranked_92 : decode cX10_ranked 92 = .ok (.istore 4, 2) := by decide +kernel
theorem dX10_ranked_94 : decode cX10_ranked 94 = .ok (.iinc 5 1, 3) := by decide +kernel
theorem dX10_ranked_97 : decode cX10_ranked 97 = .ok (.goto (-56), 3) := by decide +kernel
theorem dX10_ranked_100 : decode cX10_ranked 100 = .ok (.iload 4, 2) := by decide +kernel
theorem dX10_ranked_102 : decode cX10_ranked 102 = .ok (.iload_n 2, 1) := by decide +kernel
theorem dX10_ranked_103 : decode cX10_ranked 103 = .ok (.if_icmp .ne 5, 3) := by decide +kernel
theorem dX10_ranked_106 : decode cX10_ranked 106 = .ok (.iload_n 3, 1) := by decide +kernel
theorem dX10_ranked_107 : decode cX10_ranked 107 = .ok (.ireturn, 1) := by decide +kernel
theorem dX10_ranked_108 : decode cX10_ranked 108 = .ok (.iinc 3 1, 3) := by decide +kernel
theorem dX10_ranked_111 : decode cX10_ranked 111 = .ok (.goto (-86), 3) := by decide +kernel
theorem dX10_ranked_114 : decode cX10_ranked 114 = .ok (.aload_n 0, 1) := by decide +kernel
theorem dX10_ranked_115 : decode cX10_ranked 115 = .ok (.iconst 2, 1) := by decide +kernel
theorem dX10_ranked_116 : decode cX10_ranked 116 = .ok (.invokevirtual 50, 3) := by decide +kernel
theorem dX10_ranked_119 : decode cX10_ranked 119 = .ok (.ireturn, 1) := by decide +kernel
theorem dX10_richest_0 : decode cX10_richest 0 = .ok (.aload_n 0, 1) := by decide +kernel
theorem dX10_richest_1 : decode cX10_richest 1 = .ok (.iconst 0, 1) := by decide +kernel
theorem dX10_richest_2 : decode cX10_richest 2 = .ok (.putfield 38, 3) := by decide +kernel
theorem dX10_richest_5 : decode cX10_richest 5 = .ok (.iconst 0, 1) := by decide +kernel
theorem dX10_richest_6 : decode cX10_richest 6 = .ok (.istore_n 2, 1) := by decide +kernel
theorem dX10_richest_7 : decode cX10_richest 7 = .ok (.iload_n 2, 1) := by decide +kernel
theorem dX10_richest_8 : decode cX10_richest 8 = .ok (.aload_n 0, 1) := by decide +kernel
theorem dX10_richest_9 : decode cX10_richest 9 = .ok (.getfield 9, 3) := by decide +kernel
theorem dX10_richest_12 : decode cX10_richest 12 = .ok (.iconst 0, 1) := by decide +kernel
theorem dX10_richest_13 : decode cX10_richest 13 = .ok (.iaload, 1) := by decide +kernel
theorem dX10_richest_14 : decode cX10_richest 14 = .ok (.if_icmp .ge 108, 3) := by decide +kernel
theorem dX10_richest_17 : decode cX10_richest 17 = .ok (.iconst 0, 1) := by decide +kernel
theorem dX10_richest_18 : decode cX10_richest 18 = .ok (.istore_n 3, 1) := by decide +kernel
theorem dX10_richest_19 : decode cX10_richest 19 = .ok (.iconst 0, 1) := by decide +kernel
theorem dX10_richest_20 : decode cX10_richest 20 = .ok (.istore 4, 2) := by decide +kernel
theorem dX10_richest_22 : decode cX10_richest 22 = .ok (.iload 4, 2) := by decide +kernel
theorem dX10_richest_24 : decode cX10_richest 24 = .ok (.aload_n 0, 1) := by decide +kernel
theorem dX10_richest_25 : decode cX10_richest 25 = .ok (.getfield 9, 3) := by decide +kernel
theorem dX10_richest_28 : decode cX10_richest 28 = .ok (.iconst 0, 1) := by decide +kernel
theorem dX10_richest_29 : decode cX10_richest 29 = .ok (.iaload, 1) := by decide +kernel
theorem dX10_richest_30 : decode cX10_richest 30 = .ok (.if_icmp .ge 79, 3) := by decide +kernel
theorem dX10_richest_33 : decode cX10_richest 33 = .ok (.aload_n 0, 1) := by decide +kernel
theorem dX10_richest_34 : decode cX10_richest 34 = .ok (.getfield 9, 3) := by decide +kernel
theorem dX10_richest_37 : decode cX10_richest 37 = .ok (.iload 4, 2) := by decide +kernel
theorem dX10_richest_39 : decode cX10_richest 39 = .ok (.invokestatic 120, 3) := by decide +kernel
theorem dX10_richest_42 : decode cX10_richest 42 = .ok (.iaload, 1) := by decide +kernel
theorem dX10_richest_43 : decode cX10_richest 43 = .ok (.aload_n 0, 1) := by decide +kernel
theorem dX10_richest_44 : decode cX10_richest 44 = .ok (.getfield 9, 3) := by decide +kernel
theorem dX10_richest_47 : decode cX10_richest 47 = .ok (.iload_n 2, 1) := by decide +kernel
theorem dX10_richest_48 : decode cX10_richest 48 = .ok (.invokestatic 120, 3) := by decide +kernel
theorem dX10_richest_51 : decode cX10_richest 51 = .ok (.iaload, 1) := by decide +kernel
theorem dX10_richest_52 : decode cX10_richest 52 = .ok (.isub, 1) := by decide +kernel
theorem dX10_richest_53 : decode cX10_richest 53 = .ok (.istore 5, 2) := by decide +kernel
theorem dX10_richest_55 : decode cX10_richest 55 = .ok (.iload 5, 2) := by decide +kernel
theorem dX10_richest_57 : decode cX10_richest 57 = .ok (.ifCond .ne 18, 3) := by decide +kernel
theorem dX10_richest_60 : decode cX10_richest 60 = .ok (.aload_n 0, 1) := by decide +kernel
theorem dX10_richest_61 : decode cX10_richest 61 = .ok (.iload_n 2, 1) := by decide +kernel
theorem dX10_richest_62 : decode cX10_richest 62 = .ok (.invokevirtual 189, 3) := by decide +kernel
theorem dX10_richest_65 : decode cX10_richest 65 = .ok (.aload_n 0, 1) := by decide +kernel
theorem dX10_richest_66 : decode cX10_richest 66 = .ok (.iload 4, 2) := by decide +kernel
theorem dX10_richest_68 : decode cX10_richest 68 = .ok (.invokevirtual 189, 3) := by decide +kernel
theorem dX10_richest_71 : decode cX10_richest 71 = .ok (.isub, 1) := by decide +kernel
theorem dX10_richest_72 : decode cX10_richest 72 = .ok (.goto 5, 3) := by decide +kernel
theorem dX10_richest_75 : decode cX10_richest 75 = .ok (.iload 5, 2) := by decide +kernel
theorem dX10_richest_77 : decode cX10_richest 77 = .ok (.istore 6, 2) := by decide +kernel
theorem dX10_richest_79 : decode cX10_richest 79 = .ok (.iload_n 3, 1) := by decide +kernel
theorem dX10_richest_80 : decode cX10_richest 80 = .ok (.iload 6, 2) := by decide +kernel
theorem dX10_richest_82 : decode cX10_richest 82 = .ok (.ifCond .gt 14, 3) := by decide +kernel
theorem dX10_richest_85 : decode cX10_richest 85 = .ok (.iload 6, 2) := by decide +kernel
theorem dX10_richest_87 : decode cX10_richest 87 = .ok (.ifCond .ne 13, 3) := by decide +kernel
theorem dX10_richest_90 : decode cX10_richest 90 = .ok (.iload 4, 2) := by decide +kernel
theorem dX10_richest_92 : decode cX10_richest 92 = .ok (.iload_n 2, 1) := by decide +kernel
theorem dX10_richest_93 : decode cX10_richest 93 = .ok (.if_icmp .ge 7, 3) := by decide +kernel
theorem dX10_richest_96 : decode cX10_richest 96 = .ok (.iconst 1, 1) := by decide +kernel
theorem dX10_richest_97 : decode cX10_richest 97 = .ok (.goto 4, 3) := by decide +kernel
theorem dX10_richest_100 : decode cX10_richest 100 = .ok (.iconst 0, 1) := by decide +kernel
theorem dX10_richest_101 : decode cX10_richest 101 = .ok (.iadd, 1) := by decide +kernel
theorem dX10_richest_102 : decode cX10_richest 102 = .ok (.istore_n 3, 1) := by decide +kernel
theorem dX10_richest_103 : decode cX10_richest 103 = .ok (.iinc 4 1, 3) := by decide +kernel
theorem dX10_richest_106 : decode cX10_richest 106 = .ok (.goto (-84), 3) := by decide +kernel
theorem dX10_richest_109 : decode cX10_richest 109 = .ok (.iload_n 3, 1) := by decide +kernel
theorem dX10_richest_110 : decode cX10_richest 110 = .ok (.iload_n 1, 1) := by decide +kernel
theorem dX10_richest_111 : decode cX10_richest 111 = .ok (.if_icmp .ne 5, 3) := by decide +kernel
theorem dX10_richest_114 : decode cX10_richest 114 = .ok (.iload_n 2, 1) := by decide +kernel
theorem dX10_richest_115 : decode cX10_richest 115 = .ok (.ireturn, 1) := by decide +kernel
theorem dX10_richest_116 : decode cX10_richest 116 = .ok (.iinc 2 1, 3) := by decide +kernel
theorem dX10_richest_119 : decode cX10_richest 119 = .ok (.goto (-112), 3) := by decide +kernel
theorem dX10_richest_122 : decode cX10_richest 122 = .ok (.aload_n 0, 1) := by decide +kernel
theorem dX10_richest_123 : decode cX10_richest 123 = .ok (.iconst 1, 1) := by decide +kernel
theorem dX10_richest_124 : decode cX10_richest 124 = .ok (.invokevirtual 50, 3) := by decide +kernel
theorem dX10_richest_127 : decode cX10_richest 127 = .ok (.ireturn, 1) := by decide +kernel
theorem dX10_append_0 : decode cX10_append 0 = .ok (.aload_n 0, 1) := by decide +kernel
theorem dX10_append_1 : decode cX10_append 1 = .ok (.iconst 0, 1) := by decide +kernel
theorem dX10_append_2 : decode cX10_append 2 = .ok (.putfield 38, 3) := by decide +kernel
theorem dX10_append_5 : decode cX10_append 5 = .ok (.aload_n 0, 1) := by decide +kernel
theorem dX10_append_6 : decode cX10_append 6 = .ok (.getfield 195, 3) := by decide +kernel
theorem dX10_append_9 : decode cX10_append 9 = .ok (.bipush 60, 2) := by decide +kernel
theorem dX10_append_11 : decode cX10_append 11 = .ok (.if_icmp .ne 9, 3) := by decide +kernel
theorem dX10_append_14 : decode cX10_append 14 = .ok (.aload_n 0, 1) := by decide +kernel
theorem dX10_append_15 : decode cX10_append 15 = .ok (.iconst 1, 1) := by decide +kernel
theorem dX10_append_16 : decode cX10_append 16 = .ok (.invokevirtual 50, 3) := by decide +kernel
theorem dX10_append_19 : decode cX10_append 19 = .ok (.ireturn, 1) := by decide +kernel
theorem dX10_append_20 : decode cX10_append 20 = .ok (.aload_n 0, 1) := by decide +kernel
theorem dX10_append_21 : decode cX10_append 21 = .ok (.getfield 26, 3) := by decide +kernel
theorem dX10_append_24 : decode cX10_append 24 = .ok (.aload_n 0, 1) := by decide +kernel
theorem dX10_append_25 : decode cX10_append 25 = .ok (.getfield 195, 3) := by decide +kernel
theorem dX10_append_28 : decode cX10_append 28 = .ok (.iload_n 1, 1) := by decide +kernel
theorem dX10_append_29 : decode cX10_append 29 = .ok (.iastore, 1) := by decide +kernel
theorem dX10_append_30 : decode cX10_append 30 = .ok (.aload_n 0, 1) := by decide +kernel
theorem dX10_append_31 : decode cX10_append 31 = .ok (.dup, 1) := by decide +kernel
theorem dX10_append_32 : decode cX10_append 32 = .ok (.getfield 195, 3) := by decide +kernel
theorem dX10_append_35 : decode cX10_append 35 = .ok (.iconst 1, 1) := by decide +kernel
theorem dX10_append_36 : decode cX10_append 36 = .ok (.iadd, 1) := by decide +kernel
theorem dX10_append_37 : decode cX10_append 37 = .ok (.putfield 195, 3) := by decide +kernel
theorem dX10_append_40 : decode cX10_append 40 = .ok (.aload_n 0, 1) := by decide +kernel
theorem dX10_append_41 : decode cX10_append 41 = .ok (.getfield 195, 3) := by decide +kernel
theorem dX10_append_44 : decode cX10_append 44 = .ok (.ireturn, 1) := by decide +kernel
theorem dX10_here_0 : decode cX10_here 0 = .ok (.aload_n 0, 1) := by decide +kernel
theorem dX10_here_1 : decode cX10_here 1 = .ok (.getfield 198, 3) := by decide +kernel
theorem dX10_here_4 : decode cX10_here 4 = .ok (.aload_n 0, 1) := by decide +kernel
theorem dX10_here_5 : decode cX10_here 5 = .ok (.getfield 201, 3) := by decide +kernel
theorem dX10_here_8 : decode cX10_here 8 = .ok (.if_icmp .ge 15, 3) := by decide +kernel
theorem dX10_here_11 : decode cX10_here 11 = .ok (.aload_n 0, 1) := by decide +kernel
theorem dX10_here_12 : decode cX10_here 12 = .ok (.getfield 26, 3) := by decide +kernel
theorem dX10_here_15 : decode cX10_here 15 = .ok (.aload_n 0, 1) := by decide +kernel
theorem dX10_here_16 : decode cX10_here 16 = .ok (.getfield 198, 3) := by decide +kernel
theorem dX10_here_19 : decode cX10_here 19 = .ok (.iaload, 1) := by decide +kernel
theorem dX10_here_20 : decode cX10_here 20 = .ok (.goto 4, 3) := by decide +kernel
theorem dX10_here_23 : decode cX10_here 23 = .ok (.iconst (-1), 1) := by decide +kernel
theorem dX10_here_24 : decode cX10_here 24 = .ok (.ireturn, 1) := by decide +kernel
theorem dX10_expects_0 : decode cX10_expects 0 = .ok (.aload_n 0, 1) := by decide +kernel
theorem dX10_expects_1 : decode cX10_expects 1 = .ok (.aload_n 0, 1) := by decide +kernel
theorem dX10_expects_2 : decode cX10_expects 2 = .ok (.getfield 204, 3) := by decide +kernel
theorem dX10_expects_5 : decode cX10_expects 5 = .ok (.ifCond .ne 7, 3) := by decide +kernel
theorem dX10_expects_8 : decode cX10_expects 8 = .ok (.iload_n 1, 1) := by decide +kernel
theorem dX10_expects_9 : decode cX10_expects 9 = .ok (.ifCond .ne 7, 3) := by decide +kernel
theorem dX10_expects_12 : decode cX10_expects 12 = .ok (.iconst 1, 1) := by decide +kernel
theorem dX10_expects_13 : decode cX10_expects 13 = .ok (.goto 4, 3) := by decide +kernel
theorem dX10_expects_16 : decode cX10_expects 16 = .ok (.iconst 0, 1) := by decide +kernel
theorem dX10_expects_17 : decode cX10_expects 17 = .ok (.putfield 204, 3) := by decide +kernel
theorem dX10_expects_20 : decode cX10_expects 20 = .ok (.aload_n 0, 1) := by decide +kernel
theorem dX10_expects_21 : decode cX10_expects 21 = .ok (.dup, 1) := by decide +kernel
theorem dX10_expects_22 : decode cX10_expects 22 = .ok (.getfield 198, 3) := by decide +kernel
theorem dX10_expects_25 : decode cX10_expects 25 = .ok (.aload_n 0, 1) := by decide +kernel
theorem dX10_expects_26 : decode cX10_expects 26 = .ok (.getfield 204, 3) := by decide +kernel
theorem dX10_expects_29 : decode cX10_expects 29 = .ok (.ifCond .eq 7, 3) := by decide +kernel
theorem dX10_expects_32 : decode cX10_expects 32 = .ok (.iconst 0, 1) := by decide +kernel
theorem dX10_expects_33 : decode cX10_expects 33 = .ok (.goto 4, 3) := by decide +kernel
theorem dX10_expects_36 : decode cX10_expects 36 = .ok (.iconst 1, 1) := by decide +kernel
theorem dX10_expects_37 : decode cX10_expects 37 = .ok (.iadd, 1) := by decide +kernel
theorem dX10_expects_38 : decode cX10_expects 38 = .ok (.putfield 198, 3) := by decide +kernel
theorem dX10_expects_41 : decode cX10_expects 41 = .ok (.return_, 1) := by decide +kernel
theorem dX10_digit_0 : decode cX10_digit 0 = .ok (.aload_n 0, 1) := by decide +kernel
theorem dX10_digit_1 : decode cX10_digit 1 = .ok (.invokevirtual 208, 3) := by decide +kernel
theorem dX10_digit_4 : decode cX10_digit 4 = .ok (.bipush 48, 2) := by decide +kernel
theorem dX10_digit_6 : decode cX10_digit 6 = .ok (.isub, 1) := by decide +kernel
theorem dX10_digit_7 : decode cX10_digit 7 = .ok (.istore_n 1, 1) := by decide +kernel
theorem dX10_digit_8 : decode cX10_digit 8 = .ok (.aload_n 0, 1) := by decide +kernel
theorem dX10_digit_9 : decode cX10_digit 9 = .ok (.aload_n 0, 1) := by decide +kernel
theorem dX10_digit_10 : decode cX10_digit 10 = .ok (.invokevirtual 208, 3) := by decide +kernel
theorem dX10_digit_13 : decode cX10_digit 13 = .ok (.i2l, 1) := by decide +kernel
theorem dX10_digit_14 : decode cX10_digit 14 = .ok (.ldc2_w 211, 3) := by decide +kernel
theorem dX10_digit_17 : decode cX10_digit 17 = .ok (.ldc2_w 213, 3) := by decide +kernel
theorem dX10_digit_20 : decode cX10_digit 20 = .ok (.invokestatic 59, 3) := by decide +kernel
theorem dX10_digit_23 : decode cX10_digit 23 = .ok (.invokevirtual 215, 3) := by decide +kernel
theorem dX10_digit_26 : decode cX10_digit 26 = .ok (.aload_n 0, 1) := by decide +kernel
theorem dX10_digit_27 : decode cX10_digit 27 = .ok (.getfield 204, 3) := by decide +kernel
theorem dX10_digit_30 : decode cX10_digit 30 = .ok (.ifCond .eq 7, 3) := by decide +kernel
theorem dX10_digit_33 : decode cX10_digit 33 = .ok (.iconst 0, 1) := by decide +kernel
theorem dX10_digit_34 : decode cX10_digit 34 = .ok (.goto 4, 3) := by decide +kernel
theorem dX10_digit_37 : decode cX10_digit 37 = .ok (.iload_n 1, 1) := by decide +kernel
theorem dX10_digit_38 : decode cX10_digit 38 = .ok (.ireturn, 1) := by decide +kernel
theorem dX10_number_0 : decode cX10_number 0 = .ok (.aload_n 0, 1) := by decide +kernel
theorem dX10_number_1 : decode cX10_number 1 = .ok (.invokevirtual 219, 3) := by decide +kernel
theorem dX10_number_4 : decode cX10_number 4 = .ok (.istore_n 1, 1) := by decide +kernel
theorem dX10_number_5 : decode cX10_number 5 = .ok (.aload_n 0, 1) := by decide +kernel
theorem dX10_number_6 : decode cX10_number 6 = .ok (.getfield 204, 3) := by decide +kernel
theorem dX10_number_9 : decode cX10_number 9 = .ok (.ifCond .ne 32, 3) := by decide +kernel
theorem dX10_number_12 : decode cX10_number 12 = .ok (.aload_n 0, 1) := by decide +kernel
theorem dX10_number_13 : decode cX10_number 13 = .ok (.invokevirtual 208, 3) := by decide +kernel
theorem dX10_number_16 : decode cX10_number 16 = .ok (.i2l, 1) := by decide +kernel
theorem dX10_number_17 : decode cX10_number 17 = .ok (.ldc2_w 211, 3) := by decide +kernel
theorem dX10_number_20 : decode cX10_number 20 = .ok (.ldc2_w 213, 3) := by decide +kernel
theorem dX10_number_23 : decode cX10_number 23 = .ok (.invokestatic 59, 3) := by decide +kernel
theorem dX10_number_26 : decode cX10_number 26 = .ok (.ifCond .eq 15, 3) := by decide +kernel
theorem dX10_number_29 : decode cX10_number 29 = .ok (.bipush 10, 2) := by decide +kernel
theorem dX10_number_31 : decode cX10_number 31 = .ok (.iload_n 1, 1) := by decide +kernel
theorem dX10_number_32 : decode cX10_number 32 = .ok (.imul, 1) := by decide +kernel
theorem dX10_number_33 : decode cX10_number 33 = .ok (.aload_n 0, 1) := by decide +kernel
theorem dX10_number_34 : decode cX10_number 34 = .ok (.invokevirtual 219, 3) := by decide +kernel
theorem dX10_number_37 : decode cX10_number 37 = .ok (.iadd, 1) := by decide +kernel
theorem dX10_number_38 : decode cX10_number 38 = .ok (.goto 4, 3) := by decide +kernel
theorem dX10_number_41 : decode cX10_number 41 = .ok (.iload_n 1, 1) := by decide +kernel
theorem dX10_number_42 : decode cX10_number 42 = .ok (.ireturn, 1) := by decide +kernel
theorem dX10_directionOf_0 : decode cX10_directionOf 0 = .ok (.iload_n 0, 1) := by decide +kernel
theorem dX10_directionOf_1 : decode cX10_directionOf 1 = .ok (.bipush 110, 2) := by decide +kernel
theorem dX10_directionOf_3 : decode cX10_directionOf 3 = .ok (.if_icmp .ne 7, 3) := by decide +kernel
theorem dX10_directionOf_6 : decode cX10_directionOf 6 = .ok (.iconst 0, 1) := by decide +kernel
theorem dX10_directionOf_7 : decode cX10_directionOf 7 = .ok (.goto 34, 3) := by decide +kernel
theorem dX10_directionOf_10 : decode cX10_directionOf 10 = .ok (.iload_n 0, 1) := by decide +kernel
theorem dX10_directionOf_11 : decode cX10_directionOf 11 = .ok (.bipush 101, 2) := by decide +kernel
theorem dX10_directionOf_13 : decode cX10_directionOf 13 = .ok (.if_icmp .ne 7, 3) := by decide +kernel
theorem dX10_directionOf_16 : decode cX10_directionOf 16 = .ok (.iconst 1, 1) := by decide +kernel
theorem dX10_directionOf_17 : decode cX10_directionOf 17 = .ok (.goto 24, 3) := by decide +kernel
theorem dX10_directionOf_20 : decode cX10_directionOf 20 = .ok (.iload_n 0, 1) := by decide +kernel
theorem dX10_directionOf_21 : decode cX10_directionOf 21 = .ok (.bipush 115, 2) := by decide +kernel
theorem dX10_directionOf_23 : decode cX10_directionOf 23 = .ok (.if_icmp .ne 7, 3) := by decide +kernel
theorem dX10_directionOf_26 : decode cX10_directionOf 26 = .ok (.iconst 2, 1) := by decide +kernel
theorem dX10_directionOf_27 : decode cX10_directionOf 27 = .ok (.goto 14, 3) := by decide +kernel
theorem dX10_directionOf_30 : decode cX10_directionOf 30 = .ok (.iload_n 0, 1) := by decide +kernel
theorem dX10_directionOf_31 : decode cX10_directionOf 31 = .ok (.bipush 119, 2) := by decide +kernel
theorem dX10_directionOf_33 : decode cX10_directionOf 33 = .ok (.if_icmp .ne 7, 3) := by decide +kernel
theorem dX10_directionOf_36 : decode cX10_directionOf 36 = .ok (.iconst 3, 1) := by decide +kernel
theorem dX10_directionOf_37 : decode cX10_directionOf 37 = .ok (.goto 4, 3) := by decide +kernel
theorem dX10_directionOf_40 : decode cX10_directionOf 40 = .ok (.iconst (-1), 1) := by decide +kernel
theorem dX10_directionOf_41 : decode cX10_directionOf 41 = .ok (.ireturn, 1) := by decide +kernel
theorem dX10_cells_0 : decode cX10_cells 0 = .ok (.aload_n 0, 1) := by decide +kernel
theorem dX10_cells_1 : decode cX10_cells 1 = .ok (.getfield 32, 3) := by decide +kernel
theorem dX10_cells_4 : decode cX10_cells 4 = .ok (.iload_n 1, 1) := by decide +kernel
theorem dX10_cells_5 : decode cX10_cells 5 = .ok (.aload_n 0, 1) := by decide +kernel
theorem dX10_cells_6 : decode cX10_cells 6 = .ok (.invokevirtual 222, 3) := by decide +kernel
theorem dX10_cells_9 : decode cX10_cells 9 = .ok (.iastore, 1) := by decide +kernel
theorem dX10_cells_10 : decode cX10_cells 10 = .ok (.aload_n 0, 1) := by decide +kernel
theorem dX10_cells_11 : decode cX10_cells 11 = .ok (.aload_n 0, 1) := by decide +kernel
theorem dX10_cells_12 : decode cX10_cells 12 = .ok (.invokevirtual 208, 3) := by decide +kernel
theorem dX10_cells_15 : decode cX10_cells 15 = .ok (.bipush 45, 2) := by decide +kernel
theorem dX10_cells_17 : decode cX10_cells 17 = .ok (.if_icmp .ne 7, 3) := by decide +kernel
theorem dX10_cells_20 : decode cX10_cells 20 = .ok (.iconst 1, 1) := by decide +kernel
theorem dX10_cells_21 : decode cX10_cells 21 = .ok (.goto 4, 3) := by decide +kernel
theorem dX10_cells_24 : decode cX10_cells 24 = .ok (.iconst 0, 1) := by decide +kernel
theorem dX10_cells_25 : decode cX10_cells 25 = .ok (.invokevirtual 215, 3) := by decide +kernel
theorem dX10_cells_28 : decode cX10_cells 28 = .ok (.aload_n 0, 1) := by decide +kernel
theorem dX10_cells_29 : decode cX10_cells 29 = .ok (.getfield 32, 3) := by decide +kernel
theorem dX10_cells_32 : decode cX10_cells 32 = .ok (.iload_n 1, 1) := by decide +kernel
theorem dX10_cells_33 : decode cX10_cells 33 = .ok (.iconst 1, 1) := by decide +kernel
theorem dX10_cells_34 : decode cX10_cells 34 = .ok (.iadd, 1) := by decide +kernel
theorem dX10_cells_35 : decode cX10_cells 35 = .ok (.aload_n 0, 1) := by decide +kernel
theorem dX10_cells_36 : decode cX10_cells 36 = .ok (.invokevirtual 222, 3) := by decide +kernel
theorem dX10_cells_39 : decode cX10_cells 39 = .ok (.iastore, 1) := by decide +kernel
theorem dX10_cells_40 : decode cX10_cells 40 = .ok (.return_, 1) := by decide +kernel
theorem dX10_readOrder_0 : decode cX10_readOrder 0 = .ok (.iconst 4, 1) := by decide +kernel
theorem dX10_readOrder_1 : decode cX10_readOrder 1 = .ok (.aload_n 0, 1) := by decide +kernel
theorem dX10_readOrder_2 : decode cX10_readOrder 2 = .ok (.getfield 225, 3) := by decide +kernel
theorem dX10_readOrder_5 : decode cX10_readOrder 5 = .ok (.imul, 1) := by decide +kernel
theorem dX10_readOrder_6 : decode cX10_readOrder 6 = .ok (.istore_n 1, 1) := by decide +kernel
theorem dX10_readOrder_7 : decode cX10_readOrder 7 = .ok (.aload_n 0, 1) := by decide +kernel
theorem dX10_readOrder_8 : decode cX10_readOrder 8 = .ok (.invokevirtual 208, 3) := by decide +kernel
theorem dX10_readOrder_11 : decode cX10_readOrder 11 = .ok (.istore_n 2, 1) := by decide +kernel
theorem dX10_readOrder_12 : decode cX10_readOrder 12 = .ok (.aload_n 0, 1) := by decide +kernel
theorem dX10_readOrder_13 : decode cX10_readOrder 13 = .ok (.iload_n 2, 1) := by decide +kernel
theorem dX10_readOrder_14 : decode cX10_readOrder 14 = .ok (.bipush 104, 2) := by decide +kernel
theorem dX10_readOrder_16 : decode cX10_readOrder 16 = .ok (.if_icmp .eq 51, 3) := by decide +kernel
theorem dX10_readOrder_19 : decode cX10_readOrder 19 = .ok (.iload_n 2, 1) := by decide +kernel
theorem dX10_readOrder_20 : decode cX10_readOrder 20 = .ok (.bipush 115, 2) := by decide +kernel
theorem dX10_readOrder_22 : decode cX10_readOrder 22 = .ok (.if_icmp .eq 45, 3) := by decide +kernel
theorem dX10_readOrder_25 : decode cX10_readOrder 25 = .ok (.iload_n 2, 1) := by decide +kernel
theorem dX10_readOrder_26 : decode cX10_readOrder 26 = .ok (.bipush 116, 2) := by decide +kernel
theorem dX10_readOrder_28 : decode cX10_readOrder 28 = .ok (.if_icmp .eq 39, 3) := by decide +kernel
theorem dX10_readOrder_31 : decode cX10_readOrder 31 = .ok (.iload_n 2, 1) := by decide +kernel
theorem dX10_readOrder_32 : decode cX10_readOrder 32 = .ok (.bipush 109, 2) := by decide +kernel
theorem dX10_readOrder_34 : decode cX10_readOrder 34 = .ok (.if_icmp .eq 33, 3) := by decide +kernel
theorem dX10_readOrder_37 : decode cX10_readOrder 37 = .ok (.iload_n 2, 1) := by decide +kernel
theorem dX10_readOrder_38 : decode cX10_readOrder 38 = .ok (.bipush 103, 2) := by decide +kernel
theorem dX10_readOrder_40 : decode cX10_readOrder 40 = .ok (.if_icmp .eq 27, 3) := by decide +kernel
theorem dX10_readOrder_43 : decode cX10_readOrder 43 = .ok (.iload_n 2, 1) := by decide +kernel
theorem dX10_readOrder_44 : decode cX10_readOrder 44 = .ok (.bipush 118, 2) := by decide +kernel
theorem dX10_readOrder_46 : decode cX10_readOrder 46 = .ok (.if_icmp .eq 21, 3) := by decide +kernel
theorem dX10_readOrder_49 : decode cX10_readOrder 49 = .ok (.iload_n 2, 1) := by decide +kernel
theorem dX10_readOrder_50 : decode cX10_readOrder 50 = .ok (.bipush 98, 2) := by decide +kernel
theorem dX10_readOrder_52 : decode cX10_readOrder 52 = .ok (.if_icmp .eq 15, 3) := by decide +kernel
theorem dX10_readOrder_55 : decode cX10_readOrder 55 = .ok (.iload_n 2, 1) := by decide +kernel
theorem dX10_readOrder_56 : decode cX10_readOrder 56 = .ok (.bipush 119, 2) := by decide +kernel
theorem dX10_readOrder_58 : decode cX10_readOrder 58 = .ok (.if_icmp .eq 9, 3) := by decide +kernel
theorem dX10_readOrder_61 : decode cX10_readOrder 61 = .ok (.iload_n 2, 1) := by decide +kernel
theorem dX10_readOrder_62 : decode cX10_readOrder 62 = .ok (.bipush 114, 2) := by decide +kernel
theorem dX10_readOrder_64 : decode cX10_readOrder 64 = .ok (.if_icmp .ne 7, 3) := by decide +kernel
theorem dX10_readOrder_67 : decode cX10_readOrder 67 = .ok (.iconst 1, 1) := by decide +kernel
theorem dX10_readOrder_68 : decode cX10_readOrder 68 = .ok (.goto 4, 3) := by decide +kernel
theorem dX10_readOrder_71 : decode cX10_readOrder 71 = .ok (.iconst 0, 1) := by decide +kernel
theorem dX10_readOrder_72 : decode cX10_readOrder 72 = .ok (.invokevirtual 215, 3) := by decide +kernel
theorem dX10_readOrder_75 : decode cX10_readOrder 75 = .ok (.aload_n 0, 1) := by decide +kernel
theorem dX10_readOrder_76 : decode cX10_readOrder 76 = .ok (.getfield 32, 3) := by decide +kernel
theorem dX10_readOrder_79 : decode cX10_readOrder 79 = .ok (.iload_n 1, 1) := by decide +kernel
theorem dX10_readOrder_80 : decode cX10_readOrder 80 = .ok (.iload_n 2, 1) := by decide +kernel
theorem dX10_readOrder_81 : decode cX10_readOrder 81 = .ok (.iastore, 1) := by decide +kernel
theorem dX10_readOrder_82 : decode cX10_readOrder 82 = .ok (.aload_n 0, 1) := by decide +kernel
theorem dX10_readOrder_83 : decode cX10_readOrder 83 = .ok (.dup, 1) := by decide +kernel
theorem dX10_readOrder_84 : decode cX10_readOrder 84 = .ok (.getfield 225, 3) := by decide +kernel
theorem dX10_readOrder_87 : decode cX10_readOrder 87 = .ok (.iconst 1, 1) := by decide +kernel
theorem dX10_readOrder_88 : decode cX10_readOrder 88 = .ok (.iadd, 1) := by decide +kernel
theorem dX10_readOrder_89 : decode cX10_readOrder 89 = .ok (.putfield 225, 3) := by decide +kernel
theorem dX10_readOrder_92 : decode cX10_readOrder 92 = .ok (.iload_n 2, 1) := by decide +kernel
theorem dX10_readOrder_93 : decode cX10_readOrder 93 = .ok (.tableswitch 415 98 119 #[244, 415, 415, 415, 415, 229, 103, 415, 415, 415, 415, 183, 415, 415, 415, 415, 370, 415, 143, 415, 229, 319], 103) := by decide +kernel
theorem dX10_readOrder_196 : decode cX10_readOrder 196 = .ok (.aload_n 0, 1) := by decide +kernel
theorem dX10_readOrder_197 : decode cX10_readOrder 197 = .ok (.iload_n 1, 1) := by decide +kernel
theorem dX10_readOrder_198 : decode cX10_readOrder 198 = .ok (.iconst 1, 1) := by decide +kernel
theorem dX10_readOrder_199 : decode cX10_readOrder 199 = .ok (.iadd, 1) := by decide +kernel
theorem dX10_readOrder_200 : decode cX10_readOrder 200 = .ok (.invokevirtual 228, 3) := by decide +kernel
theorem dX10_readOrder_203 : decode cX10_readOrder 203 = .ok (.aload_n 0, 1) := by decide +kernel
theorem dX10_readOrder_204 : decode cX10_readOrder 204 = .ok (.aload_n 0, 1) := by decide +kernel
theorem dX10_readOrder_205 : decode cX10_readOrder 205 = .ok (.invokevirtual 208, 3) := by decide +kernel
theorem dX10_readOrder_208 : decode cX10_readOrder 208 = .ok (.bipush 61, 2) := by decide +kernel
theorem dX10_readOrder_210 : decode cX10_readOrder 210 = .ok (.if_icmp .ne 7, 3) := by decide +kernel
theorem dX10_readOrder_213 : decode cX10_readOrder 213 = .ok (.iconst 1, 1) := by decide +kernel
theorem dX10_readOrder_214 : decode cX10_readOrder 214 = .ok (.goto 4, 3) := by decide +kernel
theorem dX10_readOrder_217 : decode cX10_readOrder 217 = .ok (.iconst 0, 1) := by decide +kernel
theorem dX10_readOrder_218 : decode cX10_readOrder 218 = .ok (.invokevirtual 215, 3) := by decide +kernel
theorem dX10_readOrder_221 : decode cX10_readOrder 221 = .ok (.aload_n 0, 1) := by decide +kernel
theorem dX10_readOrder_222 : decode cX10_readOrder 222 = .ok (.getfield 32, 3) := by decide +kernel
theorem dX10_readOrder_225 : decode cX10_readOrder 225 = .ok (.iload_n 1, 1) := by decide +kernel
theorem dX10_readOrder_226 : decode cX10_readOrder 226 = .ok (.iconst 3, 1) := by decide +kernel
theorem dX10_readOrder_227 : decode cX10_readOrder 227 = .ok (.iadd, 1) := by decide +kernel
theorem dX10_readOrder_228 : decode cX10_readOrder 228 = .ok (.aload_n 0, 1) := by decide +kernel
theorem dX10_readOrder_229 : decode cX10_readOrder 229 = .ok (.invokevirtual 219, 3) := by decide +kernel
theorem dX10_readOrder_232 : decode cX10_readOrder 232 = .ok (.iastore, 1) := by decide +kernel
theorem dX10_readOrder_233 : decode cX10_readOrder 233 = .ok (.goto 275, 3) := by decide +kernel
theorem dX10_readOrder_236 : decode cX10_readOrder 236 = .ok (.aload_n 0, 1) := by decide +kernel
theorem dX10_readOrder_237 : decode cX10_readOrder 237 = .ok (.getfield 32, 3) := by decide +kernel
theorem dX10_readOrder_240 : decode cX10_readOrder 240 = .ok (.iload_n 1, 1) := by decide +kernel
theorem dX10_readOrder_241 : decode cX10_readOrder 241 = .ok (.iconst 1, 1) := by decide +kernel
theorem dX10_readOrder_242 : decode cX10_readOrder 242 = .ok (.iadd, 1) := by decide +kernel
theorem dX10_readOrder_243 : decode cX10_readOrder 243 = .ok (.aload_n 0, 1) := by decide +kernel
theorem dX10_readOrder_244 : decode cX10_readOrder 244 = .ok (.invokevirtual 219, 3) := by decide +kernel
theorem dX10_readOrder_247 : decode cX10_readOrder 247 = .ok (.iastore, 1) := by decide +kernel
theorem dX10_readOrder_248 : decode cX10_readOrder 248 = .ok (.aload_n 0, 1) := by decide +kernel
theorem dX10_readOrder_249 : decode cX10_readOrder 249 = .ok (.aload_n 0, 1) := by decide +kernel
theorem dX10_readOrder_250 : decode cX10_readOrder 250 = .ok (.invokevirtual 208, 3) := by decide +kernel
theorem dX10_readOrder_253 : decode cX10_readOrder 253 = .ok (.bipush 58, 2) := by decide +kernel
theorem dX10_readOrder_255 : decode cX10_readOrder 255 = .ok (.if_icmp .ne 7, 3) := by decide +kernel
theorem dX10_readOrder_258 : decode cX10_readOrder 258 = .ok (.iconst 1, 1) := by decide +kernel
theorem dX10_readOrder_259 : decode cX10_readOrder 259 = .ok (.goto 4, 3) := by decide +kernel
theorem dX10_readOrder_262 : decode cX10_readOrder 262 = .ok (.iconst 0, 1) := by decide +kernel
theorem dX10_readOrder_263 : decode cX10_readOrder 263 = .ok (.invokevirtual 215, 3) := by decide +kernel
theorem dX10_readOrder_266 : decode cX10_readOrder 266 = .ok (.aload_n 0, 1) := by decide +kernel
theorem dX10_readOrder_267 : decode cX10_readOrder 267 = .ok (.iload_n 1, 1) := by decide +kernel
theorem dX10_readOrder_268 : decode cX10_readOrder 268 = .ok (.iconst 2, 1) := by decide +kernel
theorem dX10_readOrder_269 : decode cX10_readOrder 269 = .ok (.iadd, 1) := by decide +kernel
theorem dX10_readOrder_270 : decode cX10_readOrder 270 = .ok (.invokevirtual 228, 3) := by decide +kernel
theorem dX10_readOrder_273 : decode cX10_readOrder 273 = .ok (.goto 235, 3) := by decide +kernel
theorem dX10_readOrder_276 : decode cX10_readOrder 276 = .ok (.aload_n 0, 1) := by decide +kernel
theorem dX10_readOrder_277 : decode cX10_readOrder 277 = .ok (.invokevirtual 208, 3) := by decide +kernel
theorem dX10_readOrder_280 : decode cX10_readOrder 280 = .ok (.bipush 120, 2) := by decide +kernel
theorem dX10_readOrder_282 : decode cX10_readOrder 282 = .ok (.if_icmp .ne 25, 3) := by decide +kernel
theorem dX10_readOrder_285 : decode cX10_readOrder 285 = .ok (.aload_n 0, 1) := by decide +kernel
theorem dX10_readOrder_286 : decode cX10_readOrder 286 = .ok (.dup, 1) := by decide +kernel
theorem dX10_readOrder_287 : decode cX10_readOrder 287 = .ok (.getfield 198, 3) := by decide +kernel
theorem dX10_readOrder_290 : decode cX10_readOrder 290 = .ok (.iconst 1, 1) := by decide +kernel
theorem dX10_readOrder_291 : decode cX10_readOrder 291 = .ok (.iadd, 1) := by decide +kernel
theorem dX10_readOrder_292 : decode cX10_readOrder 292 = .ok (.putfield 198, 3) := by decide +kernel
theorem dX10_readOrder_295 : decode cX10_readOrder 295 = .ok (.aload_n 0, 1) := by decide +kernel
theorem dX10_readOrder_296 : decode cX10_readOrder 296 = .ok (.getfield 32, 3) := by decide +kernel
theorem dX10_readOrder_299 : decode cX10_readOrder 299 = .ok (.iload_n 1, 1) := by decide +kernel
theorem dX10_readOrder_300 : decode cX10_readOrder 300 = .ok (.iconst 1, 1) := by decide +kernel
theorem dX10_readOrder_301 : decode cX10_readOrder 301 = .ok (.iadd, 1) := by decide +kernel
theorem dX10_readOrder_302 : decode cX10_readOrder 302 = .ok (.iconst (-1), 1) := by decide +kernel
theorem dX10_readOrder_303 : decode cX10_readOrder 303 = .ok (.iastore, 1) := by decide +kernel
theorem dX10_readOrder_304 : decode cX10_readOrder 304 = .ok (.goto 204, 3) := by decide +kernel
theorem dX10_readOrder_307 : decode cX10_readOrder 307 = .ok (.aload_n 0, 1) := by decide +kernel
theorem dX10_readOrder_308 : decode cX10_readOrder 308 = .ok (.getfield 32, 3) := by decide +kernel
theorem dX10_readOrder_311 : decode cX10_readOrder 311 = .ok (.iload_n 1, 1) := by decide +kernel
theorem dX10_readOrder_312 : decode cX10_readOrder 312 = .ok (.iconst 1, 1) := by decide +kernel
theorem dX10_readOrder_313 : decode cX10_readOrder 313 = .ok (.iadd, 1) := by decide +kernel
theorem dX10_readOrder_314 : decode cX10_readOrder 314 = .ok (.aload_n 0, 1) := by decide +kernel
theorem dX10_readOrder_315 : decode cX10_readOrder 315 = .ok (.invokevirtual 222, 3) := by decide +kernel
theorem dX10_readOrder_318 : decode cX10_readOrder 318 = .ok (.iastore, 1) := by decide +kernel
theorem dX10_readOrder_319 : decode cX10_readOrder 319 = .ok (.goto 189, 3) := by decide +kernel
theorem dX10_readOrder_322 : decode cX10_readOrder 322 = .ok (.aload_n 0, 1) := by decide +kernel
theorem dX10_readOrder_323 : decode cX10_readOrder 323 = .ok (.getfield 32, 3) := by decide +kernel
theorem dX10_readOrder_326 : decode cX10_readOrder 326 = .ok (.iload_n 1, 1) := by decide +kernel
theorem dX10_readOrder_327 : decode cX10_readOrder 327 = .ok (.iconst 1, 1) := by decide +kernel
theorem dX10_readOrder_328 : decode cX10_readOrder 328 = .ok (.iadd, 1) := by decide +kernel
theorem dX10_readOrder_329 : decode cX10_readOrder 329 = .ok (.aload_n 0, 1) := by decide +kernel
theorem dX10_readOrder_330 : decode cX10_readOrder 330 = .ok (.invokevirtual 222, 3) := by decide +kernel
theorem dX10_readOrder_333 : decode cX10_readOrder 333 = .ok (.iastore, 1) := by decide +kernel
theorem dX10_readOrder_334 : decode cX10_readOrder 334 = .ok (.goto 174, 3) := by decide +kernel
theorem dX10_readOrder_337 : decode cX10_readOrder 337 = .ok (.aload_n 0, 1) := by decide +kernel
theorem dX10_readOrder_338 : decode cX10_readOrder 338 = .ok (.getfield 32, 3) := by decide +kernel
theorem dX10_readOrder_341 : decode cX10_readOrder 341 = .ok (.iload_n 1, 1) := by decide +kernel
theorem dX10_readOrder_342 : decode cX10_readOrder 342 = .ok (.iconst 1, 1) := by decide +kernel
theorem dX10_readOrder_343 : decode cX10_readOrder 343 = .ok (.iadd, 1) := by decide +kernel
theorem dX10_readOrder_344 : decode cX10_readOrder 344 = .ok (.aload_n 0, 1) := by decide +kernel
theorem dX10_readOrder_345 : decode cX10_readOrder 345 = .ok (.invokevirtual 219, 3) := by decide +kernel
theorem dX10_readOrder_348 : decode cX10_readOrder 348 = .ok (.iastore, 1) := by decide +kernel
theorem dX10_readOrder_349 : decode cX10_readOrder 349 = .ok (.aload_n 0, 1) := by decide +kernel
theorem dX10_readOrder_350 : decode cX10_readOrder 350 = .ok (.aload_n 0, 1) := by decide +kernel
theorem dX10_readOrder_351 : decode cX10_readOrder 351 = .ok (.invokevirtual 208, 3) := by decide +kernel
theorem dX10_readOrder_354 : decode cX10_readOrder 354 = .ok (.bipush 62, 2) := by decide +kernel
theorem dX10_readOrder_356 : decode cX10_readOrder 356 = .ok (.if_icmp .ne 7, 3) := by decide +kernel
theorem dX10_readOrder_359 : decode cX10_readOrder 359 = .ok (.iconst 1, 1) := by decide +kernel
theorem dX10_readOrder_360 : decode cX10_readOrder 360 = .ok (.goto 4, 3) := by decide +kernel
theorem dX10_readOrder_363 : decode cX10_readOrder 363 = .ok (.iconst 0, 1) := by decide +kernel
theorem dX10_readOrder_364 : decode cX10_readOrder 364 = .ok (.invokevirtual 215, 3) := by decide +kernel
theorem dX10_readOrder_367 : decode cX10_readOrder 367 = .ok (.aload_n 0, 1) := by decide +kernel
theorem dX10_readOrder_368 : decode cX10_readOrder 368 = .ok (.getfield 32, 3) := by decide +kernel
theorem dX10_readOrder_371 : decode cX10_readOrder 371 = .ok (.iload_n 1, 1) := by decide +kernel
theorem dX10_readOrder_372 : decode cX10_readOrder 372 = .ok (.iconst 2, 1) := by decide +kernel
theorem dX10_readOrder_373 : decode cX10_readOrder 373 = .ok (.iadd, 1) := by decide +kernel
theorem dX10_readOrder_374 : decode cX10_readOrder 374 = .ok (.aload_n 0, 1) := by decide +kernel
theorem dX10_readOrder_375 : decode cX10_readOrder 375 = .ok (.invokevirtual 219, 3) := by decide +kernel
theorem dX10_readOrder_378 : decode cX10_readOrder 378 = .ok (.iastore, 1) := by decide +kernel
theorem dX10_readOrder_379 : decode cX10_readOrder 379 = .ok (.aload_n 0, 1) := by decide +kernel
theorem dX10_readOrder_380 : decode cX10_readOrder 380 = .ok (.aload_n 0, 1) := by decide +kernel
theorem dX10_readOrder_381 : decode cX10_readOrder 381 = .ok (.invokevirtual 208, 3) := by decide +kernel
theorem dX10_readOrder_384 : decode cX10_readOrder 384 = .ok (.bipush 42, 2) := by decide +kernel
theorem dX10_readOrder_386 : decode cX10_readOrder 386 = .ok (.if_icmp .ne 7, 3) := by decide +kernel
theorem dX10_readOrder_389 : decode cX10_readOrder 389 = .ok (.iconst 1, 1) := by decide +kernel
theorem dX10_readOrder_390 : decode cX10_readOrder 390 = .ok (.goto 4, 3) := by decide +kernel
theorem dX10_readOrder_393 : decode cX10_readOrder 393 = .ok (.iconst 0, 1) := by decide +kernel
theorem dX10_readOrder_394 : decode cX10_readOrder 394 = .ok (.invokevirtual 215, 3) := by decide +kernel
theorem dX10_readOrder_397 : decode cX10_readOrder 397 = .ok (.aload_n 0, 1) := by decide +kernel
theorem dX10_readOrder_398 : decode cX10_readOrder 398 = .ok (.getfield 32, 3) := by decide +kernel
theorem dX10_readOrder_401 : decode cX10_readOrder 401 = .ok (.iload_n 1, 1) := by decide +kernel
theorem dX10_readOrder_402 : decode cX10_readOrder 402 = .ok (.iconst 3, 1) := by decide +kernel
theorem dX10_readOrder_403 : decode cX10_readOrder 403 = .ok (.iadd, 1) := by decide +kernel
theorem dX10_readOrder_404 : decode cX10_readOrder 404 = .ok (.aload_n 0, 1) := by decide +kernel
theorem dX10_readOrder_405 : decode cX10_readOrder 405 = .ok (.invokevirtual 219, 3) := by decide +kernel
theorem dX10_readOrder_408 : decode cX10_readOrder 408 = .ok (.iastore, 1) := by decide +kernel
theorem dX10_readOrder_409 : decode cX10_readOrder 409 = .ok (.goto 99, 3) := by decide +kernel
theorem dX10_readOrder_412 : decode cX10_readOrder 412 = .ok (.aload_n 0, 1) := by decide +kernel
theorem dX10_readOrder_413 : decode cX10_readOrder 413 = .ok (.getfield 32, 3) := by decide +kernel
theorem dX10_readOrder_416 : decode cX10_readOrder 416 = .ok (.iload_n 1, 1) := by decide +kernel
theorem dX10_readOrder_417 : decode cX10_readOrder 417 = .ok (.iconst 1, 1) := by decide +kernel
theorem dX10_readOrder_418 : decode cX10_readOrder 418 = .ok (.iadd, 1) := by decide +kernel
theorem dX10_readOrder_419 : decode cX10_readOrder 419 = .ok (.aload_n 0, 1) := by decide +kernel
theorem dX10_readOrder_420 : decode cX10_readOrder 420 = .ok (.invokevirtual 219, 3) := by decide +kernel
theorem dX10_readOrder_423 : decode cX10_readOrder 423 = .ok (.iastore, 1) := by decide +kernel
theorem dX10_readOrder_424 : decode cX10_readOrder 424 = .ok (.aload_n 0, 1) := by decide +kernel
theorem dX10_readOrder_425 : decode cX10_readOrder 425 = .ok (.getfield 32, 3) := by decide +kernel
theorem dX10_readOrder_428 : decode cX10_readOrder 428 = .ok (.iload_n 1, 1) := by decide +kernel
theorem dX10_readOrder_429 : decode cX10_readOrder 429 = .ok (.iconst 2, 1) := by decide +kernel
theorem dX10_readOrder_430 : decode cX10_readOrder 430 = .ok (.iadd, 1) := by decide +kernel
theorem dX10_readOrder_431 : decode cX10_readOrder 431 = .ok (.aload_n 0, 1) := by decide +kernel
theorem dX10_readOrder_432 : decode cX10_readOrder 432 = .ok (.invokevirtual 208, 3) := by decide +kernel
theorem dX10_readOrder_435 : decode cX10_readOrder 435 = .ok (.invokestatic 232, 3) := by decide +kernel
theorem dX10_readOrder_438 : decode cX10_readOrder 438 = .ok (.iastore, 1) := by decide +kernel
theorem dX10_readOrder_439 : decode cX10_readOrder 439 = .ok (.aload_n 0, 1) := by decide +kernel
theorem dX10_readOrder_440 : decode cX10_readOrder 440 = .ok (.aload_n 0, 1) := by decide +kernel
theorem dX10_readOrder_441 : decode cX10_readOrder 441 = .ok (.getfield 32, 3) := by decide +kernel
theorem dX10_readOrder_444 : decode cX10_readOrder 444 = .ok (.iload_n 1, 1) := by decide +kernel
theorem dX10_readOrder_445 : decode cX10_readOrder 445 = .ok (.iconst 2, 1) := by decide +kernel
theorem dX10_readOrder_446 : decode cX10_readOrder 446 = .ok (.iadd, 1) := by decide +kernel
theorem dX10_readOrder_447 : decode cX10_readOrder 447 = .ok (.iaload, 1) := by decide +kernel
theorem dX10_readOrder_448 : decode cX10_readOrder 448 = .ok (.iconst (-1), 1) := by decide +kernel
theorem dX10_readOrder_449 : decode cX10_readOrder 449 = .ok (.if_icmp .eq 7, 3) := by decide +kernel
theorem dX10_readOrder_452 : decode cX10_readOrder 452 = .ok (.iconst 1, 1) := by decide +kernel
theorem dX10_readOrder_453 : decode cX10_readOrder 453 = .ok (.goto 4, 3) := by decide +kernel
theorem dX10_readOrder_456 : decode cX10_readOrder 456 = .ok (.iconst 0, 1) := by decide +kernel
theorem dX10_readOrder_457 : decode cX10_readOrder 457 = .ok (.invokevirtual 215, 3) := by decide +kernel
theorem dX10_readOrder_460 : decode cX10_readOrder 460 = .ok (.goto 48, 3) := by decide +kernel
theorem dX10_readOrder_463 : decode cX10_readOrder 463 = .ok (.aload_n 0, 1) := by decide +kernel
theorem dX10_readOrder_464 : decode cX10_readOrder 464 = .ok (.getfield 32, 3) := by decide +kernel
theorem dX10_readOrder_467 : decode cX10_readOrder 467 = .ok (.iload_n 1, 1) := by decide +kernel
theorem dX10_readOrder_468 : decode cX10_readOrder 468 = .ok (.iconst 1, 1) := by decide +kernel
theorem dX10_readOrder_469 : decode cX10_readOrder 469 = .ok (.iadd, 1) := by decide +kernel
theorem dX10_readOrder_470 : decode cX10_readOrder 470 = .ok (.aload_n 0, 1) := by decide +kernel
theorem dX10_readOrder_471 : decode cX10_readOrder 471 = .ok (.invokevirtual 219, 3) := by decide +kernel
theorem dX10_readOrder_474 : decode cX10_readOrder 474 = .ok (.iastore, 1) := by decide +kernel
theorem dX10_readOrder_475 : decode cX10_readOrder 475 = .ok (.aload_n 0, 1) := by decide +kernel
theorem dX10_readOrder_476 : decode cX10_readOrder 476 = .ok (.aload_n 0, 1) := by decide +kernel
theorem dX10_readOrder_477 : decode cX10_readOrder 477 = .ok (.invokevirtual 208, 3) := by decide +kernel
theorem dX10_readOrder_480 : decode cX10_readOrder 480 = .ok (.bipush 43, 2) := by decide +kernel
theorem dX10_readOrder_482 : decode cX10_readOrder 482 = .ok (.if_icmp .ne 7, 3) := by decide +kernel
theorem dX10_readOrder_485 : decode cX10_readOrder 485 = .ok (.iconst 1, 1) := by decide +kernel
theorem dX10_readOrder_486 : decode cX10_readOrder 486 = .ok (.goto 4, 3) := by decide +kernel
theorem dX10_readOrder_489 : decode cX10_readOrder 489 = .ok (.iconst 0, 1) := by decide +kernel
theorem dX10_readOrder_490 : decode cX10_readOrder 490 = .ok (.invokevirtual 215, 3) := by decide +kernel
theorem dX10_readOrder_493 : decode cX10_readOrder 493 = .ok (.aload_n 0, 1) := by decide +kernel
theorem dX10_readOrder_494 : decode cX10_readOrder 494 = .ok (.getfield 32, 3) := by decide +kernel
theorem dX10_readOrder_497 : decode cX10_readOrder 497 = .ok (.iload_n 1, 1) := by decide +kernel
theorem dX10_readOrder_498 : decode cX10_readOrder 498 = .ok (.iconst 2, 1) := by decide +kernel
theorem dX10_readOrder_499 : decode cX10_readOrder 499 = .ok (.iadd, 1) := by decide +kernel
theorem dX10_readOrder_500 : decode cX10_readOrder 500 = .ok (.aload_n 0, 1) := by decide +kernel
theorem dX10_readOrder_501 : decode cX10_readOrder 501 = .ok (.invokevirtual 219, 3) := by decide +kernel
theorem dX10_readOrder_504 : decode cX10_readOrder 504 = .ok (.iastore, 1) := by decide +kernel
theorem dX10_readOrder_505 : decode cX10_readOrder 505 = .ok (.goto 3, 3) := by decide +kernel
theorem dX10_readOrder_508 : decode cX10_readOrder 508 = .ok (.return_, 1) := by decide +kernel
theorem dX10_does_0 : decode cX10_does 0 = .ok (.aload_n 0, 1) := by decide +kernel
theorem dX10_does_1 : decode cX10_does 1 = .ok (.getfield 32, 3) := by decide +kernel
theorem dX10_does_4 : decode cX10_does 4 = .ok (.iload_n 1, 1) := by decide +kernel
theorem dX10_does_5 : decode cX10_does 5 = .ok (.iconst 1, 1) := by decide +kernel
theorem dX10_does_6 : decode cX10_does 6 = .ok (.iadd, 1) := by decide +kernel
theorem dX10_does_7 : decode cX10_does 7 = .ok (.iaload, 1) := by decide +kernel
theorem dX10_does_8 : decode cX10_does 8 = .ok (.istore_n 2, 1) := by decide +kernel
theorem dX10_does_9 : decode cX10_does 9 = .ok (.aload_n 0, 1) := by decide +kernel
theorem dX10_does_10 : decode cX10_does 10 = .ok (.getfield 32, 3) := by decide +kernel
theorem dX10_does_13 : decode cX10_does 13 = .ok (.iload_n 1, 1) := by decide +kernel
theorem dX10_does_14 : decode cX10_does 14 = .ok (.iconst 2, 1) := by decide +kernel
theorem dX10_does_15 : decode cX10_does 15 = .ok (.iadd, 1) := by decide +kernel
theorem dX10_does_16 : decode cX10_does 16 = .ok (.iaload, 1) := by decide +kernel
theorem dX10_does_17 : decode cX10_does 17 = .ok (.istore_n 3, 1) := by decide +kernel
theorem dX10_does_18 : decode cX10_does 18 = .ok (.aload_n 0, 1) := by decide +kernel
theorem dX10_does_19 : decode cX10_does 19 = .ok (.getfield 32, 3) := by decide +kernel
theorem dX10_does_22 : decode cX10_does 22 = .ok (.iload_n 1, 1) := by decide +kernel
theorem dX10_does_23 : decode cX10_does 23 = .ok (.iconst 3, 1) := by decide +kernel
theorem dX10_does_24 : decode cX10_does 24 = .ok (.iadd, 1) := by decide +kernel
theorem dX10_does_25 : decode cX10_does 25 = .ok (.iaload, 1) := by decide +kernel
theorem dX10_does_26 : decode cX10_does 26 = .ok (.istore 4, 2) := by decide +kernel
theorem dX10_does_28 : decode cX10_does 28 = .ok (.aload_n 0, 1) := by decide +kernel
theorem dX10_does_29 : decode cX10_does 29 = .ok (.getfield 32, 3) := by decide +kernel
theorem dX10_does_32 : decode cX10_does 32 = .ok (.iload_n 1, 1) := by decide +kernel
theorem dX10_does_33 : decode cX10_does 33 = .ok (.iaload, 1) := by decide +kernel
theorem dX10_does_34 : decode cX10_does 34 = .ok (.tableswitch 183 98 119 #[161, 183, 183, 183, 183, 143, 102, 183, 183, 183, 183, 134, 183, 183, 183, 183, 183, 114, 122, 183, 152, 173], 102) := by decide +kernel
theorem dX10_does_136 : decode cX10_does 136 = .ok (.aload_n 0, 1) := by decide +kernel
theorem dX10_does_137 : decode cX10_does 137 = .ok (.iload_n 2, 1) := by decide +kernel
theorem dX10_does_138 : decode cX10_does 138 = .ok (.iload_n 3, 1) := by decide +kernel
theorem dX10_does_139 : decode cX10_does 139 = .ok (.iload 4, 2) := by decide +kernel
theorem dX10_does_141 : decode cX10_does 141 = .ok (.invokevirtual 103, 3) := by decide +kernel
theorem dX10_does_144 : decode cX10_does 144 = .ok (.pop, 1) := by decide +kernel
theorem dX10_does_145 : decode cX10_does 145 = .ok (.goto 79, 3) := by decide +kernel
theorem dX10_does_148 : decode cX10_does 148 = .ok (.aload_n 0, 1) := by decide +kernel
theorem dX10_does_149 : decode cX10_does 149 = .ok (.invokevirtual 114, 3) := by decide +kernel
theorem dX10_does_152 : decode cX10_does 152 = .ok (.pop, 1) := by decide +kernel
theorem dX10_does_153 : decode cX10_does 153 = .ok (.goto 71, 3) := by decide +kernel
theorem dX10_does_156 : decode cX10_does 156 = .ok (.aload_n 0, 1) := by decide +kernel
theorem dX10_does_157 : decode cX10_does 157 = .ok (.iload_n 2, 1) := by decide +kernel
theorem dX10_does_158 : decode cX10_does 158 = .ok (.iload_n 3, 1) := by decide +kernel
theorem dX10_does_159 : decode cX10_does 159 = .ok (.iload 4, 2) := by decide +kernel
theorem dX10_does_161 : decode cX10_does 161 = .ok (.invokevirtual 123, 3) := by decide +kernel
theorem dX10_does_164 : decode cX10_does 164 = .ok (.pop, 1) := by decide +kernel
theorem dX10_does_165 : decode cX10_does 165 = .ok (.goto 59, 3) := by decide +kernel
theorem dX10_does_168 : decode cX10_does 168 = .ok (.aload_n 0, 1) := by decide +kernel
theorem dX10_does_169 : decode cX10_does 169 = .ok (.iload_n 2, 1) := by decide +kernel
theorem dX10_does_170 : decode cX10_does 170 = .ok (.invokevirtual 134, 3) := by decide +kernel
theorem dX10_does_173 : decode cX10_does 173 = .ok (.pop, 1) := by decide +kernel
theorem dX10_does_174 : decode cX10_does 174 = .ok (.goto 50, 3) := by decide +kernel
theorem dX10_does_177 : decode cX10_does 177 = .ok (.aload_n 0, 1) := by decide +kernel
theorem dX10_does_178 : decode cX10_does 178 = .ok (.iload_n 2, 1) := by decide +kernel
theorem dX10_does_179 : decode cX10_does 179 = .ok (.invokevirtual 139, 3) := by decide +kernel
theorem dX10_does_182 : decode cX10_does 182 = .ok (.pop, 1) := by decide +kernel
theorem dX10_does_183 : decode cX10_does 183 = .ok (.goto 41, 3) := by decide +kernel
theorem dX10_does_186 : decode cX10_does 186 = .ok (.aload_n 0, 1) := by decide +kernel
theorem dX10_does_187 : decode cX10_does 187 = .ok (.iload_n 2, 1) := by decide +kernel
theorem dX10_does_188 : decode cX10_does 188 = .ok (.invokevirtual 151, 3) := by decide +kernel
theorem dX10_does_191 : decode cX10_does 191 = .ok (.pop, 1) := by decide +kernel
theorem dX10_does_192 : decode cX10_does 192 = .ok (.goto 32, 3) := by decide +kernel
theorem dX10_does_195 : decode cX10_does 195 = .ok (.aload_n 0, 1) := by decide +kernel
theorem dX10_does_196 : decode cX10_does 196 = .ok (.iload_n 2, 1) := by decide +kernel
theorem dX10_does_197 : decode cX10_does 197 = .ok (.iload_n 3, 1) := by decide +kernel
theorem dX10_does_198 : decode cX10_does 198 = .ok (.iload 4, 2) := by decide +kernel
theorem dX10_does_200 : decode cX10_does 200 = .ok (.invokevirtual 159, 3) := by decide +kernel
theorem dX10_does_203 : decode cX10_does 203 = .ok (.pop, 1) := by decide +kernel
theorem dX10_does_204 : decode cX10_does 204 = .ok (.goto 20, 3) := by decide +kernel
theorem dX10_does_207 : decode cX10_does 207 = .ok (.aload_n 0, 1) := by decide +kernel
theorem dX10_does_208 : decode cX10_does 208 = .ok (.iload_n 2, 1) := by decide +kernel
theorem dX10_does_209 : decode cX10_does 209 = .ok (.iload_n 3, 1) := by decide +kernel
theorem dX10_does_210 : decode cX10_does 210 = .ok (.invokevirtual 168, 3) := by decide +kernel
theorem dX10_does_213 : decode cX10_does 213 = .ok (.pop, 1) := by decide +kernel
theorem dX10_does_214 : decode cX10_does 214 = .ok (.goto 10, 3) := by decide +kernel
theorem dX10_does_217 : decode cX10_does 217 = .ok (.aload_n 0, 1) := by decide +kernel
theorem dX10_does_218 : decode cX10_does 218 = .ok (.iload_n 2, 1) := by decide +kernel
theorem dX10_does_219 : decode cX10_does 219 = .ok (.iload_n 3, 1) := by decide +kernel
theorem dX10_does_220 : decode cX10_does 220 = .ok (.invokevirtual 171, 3) := by decide +kernel
theorem dX10_does_223 : decode cX10_does 223 = .ok (.pop, 1) := by decide +kernel
theorem dX10_does_224 : decode cX10_does 224 = .ok (.return_, 1) := by decide +kernel
theorem dX10_commands_0 : decode cX10_commands 0 = .ok (.aload_n 0, 1) := by decide +kernel
theorem dX10_commands_1 : decode cX10_commands 1 = .ok (.invokevirtual 100, 3) := by decide +kernel
theorem dX10_commands_4 : decode cX10_commands 4 = .ok (.aload_n 0, 1) := by decide +kernel
theorem dX10_commands_5 : decode cX10_commands 5 = .ok (.aload_n 0, 1) := by decide +kernel
theorem dX10_commands_6 : decode cX10_commands 6 = .ok (.getfield 195, 3) := by decide +kernel
theorem dX10_commands_9 : decode cX10_commands 9 = .ok (.putfield 201, 3) := by decide +kernel
theorem dX10_commands_12 : decode cX10_commands 12 = .ok (.aload_n 0, 1) := by decide +kernel
theorem dX10_commands_13 : decode cX10_commands 13 = .ok (.iconst 0, 1) := by decide +kernel
theorem dX10_commands_14 : decode cX10_commands 14 = .ok (.putfield 195, 3) := by decide +kernel
theorem dX10_commands_17 : decode cX10_commands 17 = .ok (.aload_n 0, 1) := by decide +kernel
theorem dX10_commands_18 : decode cX10_commands 18 = .ok (.iconst 0, 1) := by decide +kernel
theorem dX10_commands_19 : decode cX10_commands 19 = .ok (.putfield 198, 3) := by decide +kernel
theorem dX10_commands_22 : decode cX10_commands 22 = .ok (.aload_n 0, 1) := by decide +kernel
theorem dX10_commands_23 : decode cX10_commands 23 = .ok (.iconst 0, 1) := by decide +kernel
theorem dX10_commands_24 : decode cX10_commands 24 = .ok (.putfield 225, 3) := by decide +kernel
theorem dX10_commands_27 : decode cX10_commands 27 = .ok (.aload_n 0, 1) := by decide +kernel
theorem dX10_commands_28 : decode cX10_commands 28 = .ok (.iconst 0, 1) := by decide +kernel
theorem dX10_commands_29 : decode cX10_commands 29 = .ok (.putfield 204, 3) := by decide +kernel
theorem dX10_commands_32 : decode cX10_commands 32 = .ok (.iconst 1, 1) := by decide +kernel
theorem dX10_commands_33 : decode cX10_commands 33 = .ok (.istore_n 1, 1) := by decide +kernel
theorem dX10_commands_34 : decode cX10_commands 34 = .ok (.iload_n 1, 1) := by decide +kernel
theorem dX10_commands_35 : decode cX10_commands 35 = .ok (.ifCond .eq 69, 3) := by decide +kernel
theorem dX10_commands_38 : decode cX10_commands 38 = .ok (.aload_n 0, 1) := by decide +kernel
theorem dX10_commands_39 : decode cX10_commands 39 = .ok (.invokevirtual 235, 3) := by decide +kernel
theorem dX10_commands_42 : decode cX10_commands 42 = .ok (.aload_n 0, 1) := by decide +kernel
theorem dX10_commands_43 : decode cX10_commands 43 = .ok (.getfield 204, 3) := by decide +kernel
theorem dX10_commands_46 : decode cX10_commands 46 = .ok (.ifCond .ne 18, 3) := by decide +kernel
theorem dX10_commands_49 : decode cX10_commands 49 = .ok (.aload_n 0, 1) := by decide +kernel
theorem dX10_commands_50 : decode cX10_commands 50 = .ok (.getfield 198, 3) := by decide +kernel
theorem dX10_commands_53 : decode cX10_commands 53 = .ok (.aload_n 0, 1) := by decide +kernel
theorem dX10_commands_54 : decode cX10_commands 54 = .ok (.getfield 201, 3) := by decide +kernel
theorem dX10_commands_57 : decode cX10_commands 57 = .ok (.if_icmp .ge 7, 3) := by decide +kernel
theorem dX10_commands_60 : decode cX10_commands 60 = .ok (.iconst 1, 1) := by decide +kernel
theorem dX10_commands_61 : decode cX10_commands 61 = .ok (.goto 4, 3) := by decide +kernel
theorem dX10_commands_64 : decode cX10_commands 64 = .ok (.iconst 0, 1) := by decide +kernel
theorem dX10_commands_65 : decode cX10_commands 65 = .ok (.istore_n 1, 1) := by decide +kernel
theorem dX10_commands_66 : decode cX10_commands 66 = .ok (.iload_n 1, 1) := by decide +kernel
theorem dX10_commands_67 : decode cX10_commands 67 = .ok (.ifCond .eq (-33), 3) := by decide +kernel
theorem dX10_commands_70 : decode cX10_commands 70 = .ok (.aload_n 0, 1) := by decide +kernel
theorem dX10_commands_71 : decode cX10_commands 71 = .ok (.aload_n 0, 1) := by decide +kernel
theorem dX10_commands_72 : decode cX10_commands 72 = .ok (.invokevirtual 208, 3) := by decide +kernel
theorem dX10_commands_75 : decode cX10_commands 75 = .ok (.bipush 59, 2) := by decide +kernel
theorem dX10_commands_77 : decode cX10_commands 77 = .ok (.if_icmp .ne 7, 3) := by decide +kernel
theorem dX10_commands_80 : decode cX10_commands 80 = .ok (.iconst 1, 1) := by decide +kernel
theorem dX10_commands_81 : decode cX10_commands 81 = .ok (.goto 4, 3) := by decide +kernel
theorem dX10_commands_84 : decode cX10_commands 84 = .ok (.iconst 0, 1) := by decide +kernel
theorem dX10_commands_85 : decode cX10_commands 85 = .ok (.invokevirtual 215, 3) := by decide +kernel
theorem dX10_commands_88 : decode cX10_commands 88 = .ok (.aload_n 0, 1) := by decide +kernel
theorem dX10_commands_89 : decode cX10_commands 89 = .ok (.getfield 204, 3) := by decide +kernel
theorem dX10_commands_92 : decode cX10_commands 92 = .ok (.ifCond .ne 7, 3) := by decide +kernel
theorem dX10_commands_95 : decode cX10_commands 95 = .ok (.iconst 1, 1) := by decide +kernel
theorem dX10_commands_96 : decode cX10_commands 96 = .ok (.goto 4, 3) := by decide +kernel
theorem dX10_commands_99 : decode cX10_commands 99 = .ok (.iconst 0, 1) := by decide +kernel
theorem dX10_commands_100 : decode cX10_commands 100 = .ok (.istore_n 1, 1) := by decide +kernel
theorem dX10_commands_101 : decode cX10_commands 101 = .ok (.goto (-67), 3) := by decide +kernel
theorem dX10_commands_104 : decode cX10_commands 104 = .ok (.aload_n 0, 1) := by decide +kernel
theorem dX10_commands_105 : decode cX10_commands 105 = .ok (.aload_n 0, 1) := by decide +kernel
theorem dX10_commands_106 : decode cX10_commands 106 = .ok (.getfield 204, 3) := by decide +kernel
theorem dX10_commands_109 : decode cX10_commands 109 = .ok (.ifCond .eq 10, 3) := by decide +kernel
theorem dX10_commands_112 : decode cX10_commands 112 = .ok (.aload_n 0, 1) := by decide +kernel
theorem dX10_commands_113 : decode cX10_commands 113 = .ok (.getfield 198, 3) := by decide +kernel
theorem dX10_commands_116 : decode cX10_commands 116 = .ok (.goto 4, 3) := by decide +kernel
theorem dX10_commands_119 : decode cX10_commands 119 = .ok (.iconst (-1), 1) := by decide +kernel
theorem dX10_commands_120 : decode cX10_commands 120 = .ok (.putfield 22, 3) := by decide +kernel
theorem dX10_commands_123 : decode cX10_commands 123 = .ok (.aload_n 0, 1) := by decide +kernel
theorem dX10_commands_124 : decode cX10_commands 124 = .ok (.getfield 204, 3) := by decide +kernel
theorem dX10_commands_127 : decode cX10_commands 127 = .ok (.ifCond .eq 9, 3) := by decide +kernel
theorem dX10_commands_130 : decode cX10_commands 130 = .ok (.aload_n 0, 1) := by decide +kernel
theorem dX10_commands_131 : decode cX10_commands 131 = .ok (.iconst 1, 1) := by decide +kernel
theorem dX10_commands_132 : decode cX10_commands 132 = .ok (.invokevirtual 50, 3) := by decide +kernel
theorem dX10_commands_135 : decode cX10_commands 135 = .ok (.ireturn, 1) := by decide +kernel
theorem dX10_commands_136 : decode cX10_commands 136 = .ok (.iconst 0, 1) := by decide +kernel
theorem dX10_commands_137 : decode cX10_commands 137 = .ok (.istore_n 2, 1) := by decide +kernel
theorem dX10_commands_138 : decode cX10_commands 138 = .ok (.iload_n 2, 1) := by decide +kernel
theorem dX10_commands_139 : decode cX10_commands 139 = .ok (.aload_n 0, 1) := by decide +kernel
theorem dX10_commands_140 : decode cX10_commands 140 = .ok (.getfield 225, 3) := by decide +kernel
theorem dX10_commands_143 : decode cX10_commands 143 = .ok (.if_icmp .ge 60, 3) := by decide +kernel
theorem dX10_commands_146 : decode cX10_commands 146 = .ok (.aload_n 0, 1) := by decide +kernel
theorem dX10_commands_147 : decode cX10_commands 147 = .ok (.iconst 4, 1) := by decide +kernel
theorem dX10_commands_148 : decode cX10_commands 148 = .ok (.iload_n 2, 1) := by decide +kernel
theorem dX10_commands_149 : decode cX10_commands 149 = .ok (.imul, 1) := by decide +kernel
theorem dX10_commands_150 : decode cX10_commands 150 = .ok (.invokevirtual 238, 3) := by decide +kernel
theorem dX10_commands_153 : decode cX10_commands 153 = .ok (.aload_n 0, 1) := by decide +kernel
theorem dX10_commands_154 : decode cX10_commands 154 = .ok (.getfield 38, 3) := by decide +kernel
theorem dX10_commands_157 : decode cX10_commands 157 = .ok (.ifCond .le 40, 3) := by decide +kernel
theorem dX10_commands_160 : decode cX10_commands 160 = .ok (.iconst 0, 1) := by decide +kernel
theorem dX10_commands_161 : decode cX10_commands 161 = .ok (.istore_n 3, 1) := by decide +kernel
theorem dX10_commands_162 : decode cX10_commands 162 = .ok (.iload_n 3, 1) := by decide +kernel
theorem dX10_commands_163 : decode cX10_commands 163 = .ok (.bipush 86, 2) := by decide +kernel
theorem dX10_commands_165 : decode cX10_commands 165 = .ok (.if_icmp .ge 21, 3) := by decide +kernel
theorem dX10_commands_168 : decode cX10_commands 168 = .ok (.aload_n 0, 1) := by decide +kernel
theorem dX10_commands_169 : decode cX10_commands 169 = .ok (.getfield 9, 3) := by decide +kernel
theorem dX10_commands_172 : decode cX10_commands 172 = .ok (.iload_n 3, 1) := by decide +kernel
theorem dX10_commands_173 : decode cX10_commands 173 = .ok (.aload_n 0, 1) := by decide +kernel
theorem dX10_commands_174 : decode cX10_commands 174 = .ok (.getfield 13, 3) := by decide +kernel
theorem dX10_commands_177 : decode cX10_commands 177 = .ok (.iload_n 3, 1) := by decide +kernel
theorem dX10_commands_178 : decode cX10_commands 178 = .ok (.iaload, 1) := by decide +kernel
theorem dX10_commands_179 : decode cX10_commands 179 = .ok (.iastore, 1) := by decide +kernel
theorem dX10_commands_180 : decode cX10_commands 180 = .ok (.iinc 3 1, 3) := by decide +kernel
theorem dX10_commands_183 : decode cX10_commands 183 = .ok (.goto (-21), 3) := by decide +kernel
theorem dX10_commands_186 : decode cX10_commands 186 = .ok (.aload_n 0, 1) := by decide +kernel
theorem dX10_commands_187 : decode cX10_commands 187 = .ok (.iload_n 2, 1) := by decide +kernel
theorem dX10_commands_188 : decode cX10_commands 188 = .ok (.putfield 47, 3) := by decide +kernel
theorem dX10_commands_191 : decode cX10_commands 191 = .ok (.aload_n 0, 1) := by decide +kernel
theorem dX10_commands_192 : decode cX10_commands 192 = .ok (.iconst 2, 1) := by decide +kernel
theorem dX10_commands_193 : decode cX10_commands 193 = .ok (.invokevirtual 50, 3) := by decide +kernel
theorem dX10_commands_196 : decode cX10_commands 196 = .ok (.ireturn, 1) := by decide +kernel
theorem dX10_commands_197 : decode cX10_commands 197 = .ok (.iinc 2 1, 3) := by decide +kernel
theorem dX10_commands_200 : decode cX10_commands 200 = .ok (.goto (-62), 3) := by decide +kernel
theorem dX10_commands_203 : decode cX10_commands 203 = .ok (.aload_n 0, 1) := by decide +kernel
theorem dX10_commands_204 : decode cX10_commands 204 = .ok (.aload_n 0, 1) := by decide +kernel
theorem dX10_commands_205 : decode cX10_commands 205 = .ok (.getfield 225, 3) := by decide +kernel
theorem dX10_commands_208 : decode cX10_commands 208 = .ok (.invokevirtual 107, 3) := by decide +kernel
theorem dX10_commands_211 : decode cX10_commands 211 = .ok (.ireturn, 1) := by decide +kernel
theorem dX10_faultPosition_0 : decode cX10_faultPosition 0 = .ok (.aload_n 0, 1) := by decide +kernel
theorem dX10_faultPosition_1 : decode cX10_faultPosition 1 = .ok (.iconst 0, 1) := by decide +kernel
theorem dX10_faultPosition_2 : decode cX10_faultPosition 2 = .ok (.putfield 38, 3) := by decide +kernel
theorem dX10_faultPosition_5 : decode cX10_faultPosition 5 = .ok (.aload_n 0, 1) := by decide +kernel
theorem dX10_faultPosition_6 : decode cX10_faultPosition 6 = .ok (.getfield 22, 3) := by decide +kernel
theorem dX10_faultPosition_9 : decode cX10_faultPosition 9 = .ok (.ireturn, 1) := by decide +kernel
theorem dX10_reason_0 : decode cX10_reason 0 = .ok (.aload_n 0, 1) := by decide +kernel
theorem dX10_reason_1 : decode cX10_reason 1 = .ok (.iconst 0, 1) := by decide +kernel
theorem dX10_reason_2 : decode cX10_reason 2 = .ok (.putfield 38, 3) := by decide +kernel
theorem dX10_reason_5 : decode cX10_reason 5 = .ok (.iload_n 1, 1) := by decide +kernel
theorem dX10_reason_6 : decode cX10_reason 6 = .ok (.i2l, 1) := by decide +kernel
theorem dX10_reason_7 : decode cX10_reason 7 = .ok (.lconst 0, 1) := by decide +kernel
theorem dX10_reason_8 : decode cX10_reason 8 = .ok (.ldc2_w 241, 3) := by decide +kernel
theorem dX10_reason_11 : decode cX10_reason 11 = .ok (.invokestatic 59, 3) := by decide +kernel
theorem dX10_reason_14 : decode cX10_reason 14 = .ok (.ifCond .ne 9, 3) := by decide +kernel
theorem dX10_reason_17 : decode cX10_reason 17 = .ok (.aload_n 0, 1) := by decide +kernel
theorem dX10_reason_18 : decode cX10_reason 18 = .ok (.iconst 1, 1) := by decide +kernel
theorem dX10_reason_19 : decode cX10_reason 19 = .ok (.invokevirtual 50, 3) := by decide +kernel
theorem dX10_reason_22 : decode cX10_reason 22 = .ok (.ireturn, 1) := by decide +kernel
theorem dX10_reason_23 : decode cX10_reason 23 = .ok (.aload_n 0, 1) := by decide +kernel
theorem dX10_reason_24 : decode cX10_reason 24 = .ok (.getfield 41, 3) := by decide +kernel
theorem dX10_reason_27 : decode cX10_reason 27 = .ok (.ifCond .ne 9, 3) := by decide +kernel
theorem dX10_reason_30 : decode cX10_reason 30 = .ok (.aload_n 0, 1) := by decide +kernel
theorem dX10_reason_31 : decode cX10_reason 31 = .ok (.iconst 2, 1) := by decide +kernel
theorem dX10_reason_32 : decode cX10_reason 32 = .ok (.invokevirtual 50, 3) := by decide +kernel
theorem dX10_reason_35 : decode cX10_reason 35 = .ok (.ireturn, 1) := by decide +kernel
theorem dX10_reason_36 : decode cX10_reason 36 = .ok (.iload_n 1, 1) := by decide +kernel
theorem dX10_reason_37 : decode cX10_reason 37 = .ok (.ifCond .ne 10, 3) := by decide +kernel
theorem dX10_reason_40 : decode cX10_reason 40 = .ok (.aload_n 0, 1) := by decide +kernel
theorem dX10_reason_41 : decode cX10_reason 41 = .ok (.getfield 41, 3) := by decide +kernel
theorem dX10_reason_44 : decode cX10_reason 44 = .ok (.goto 19, 3) := by decide +kernel
theorem dX10_reason_47 : decode cX10_reason 47 = .ok (.iload_n 1, 1) := by decide +kernel
theorem dX10_reason_48 : decode cX10_reason 48 = .ok (.iconst 1, 1) := by decide +kernel
theorem dX10_reason_49 : decode cX10_reason 49 = .ok (.if_icmp .ne 10, 3) := by decide +kernel
theorem dX10_reason_52 : decode cX10_reason 52 = .ok (.aload_n 0, 1) := by decide +kernel
theorem dX10_reason_53 : decode cX10_reason 53 = .ok (.getfield 44, 3) := by decide +kernel
theorem dX10_reason_56 : decode cX10_reason 56 = .ok (.goto 7, 3) := by decide +kernel
theorem dX10_reason_59 : decode cX10_reason 59 = .ok (.aload_n 0, 1) := by decide +kernel
theorem dX10_reason_60 : decode cX10_reason 60 = .ok (.getfield 47, 3) := by decide +kernel
theorem dX10_reason_63 : decode cX10_reason 63 = .ok (.ireturn, 1) := by decide +kernel
theorem dX10_sign_0 : decode cX10_sign 0 = .ok (.aload_n 0, 1) := by decide +kernel
theorem dX10_sign_1 : decode cX10_sign 1 = .ok (.getfield 35, 3) := by decide +kernel
theorem dX10_sign_4 : decode cX10_sign 4 = .ok (.aload_n 0, 1) := by decide +kernel
theorem dX10_sign_5 : decode cX10_sign 5 = .ok (.getfield 243, 3) := by decide +kernel
theorem dX10_sign_8 : decode cX10_sign 8 = .ok (.iload_n 1, 1) := by decide +kernel
theorem dX10_sign_9 : decode cX10_sign 9 = .ok (.iastore, 1) := by decide +kernel
theorem dX10_sign_10 : decode cX10_sign 10 = .ok (.aload_n 0, 1) := by decide +kernel
theorem dX10_sign_11 : decode cX10_sign 11 = .ok (.dup, 1) := by decide +kernel
theorem dX10_sign_12 : decode cX10_sign 12 = .ok (.getfield 243, 3) := by decide +kernel
theorem dX10_sign_15 : decode cX10_sign 15 = .ok (.iconst 1, 1) := by decide +kernel
theorem dX10_sign_16 : decode cX10_sign 16 = .ok (.iadd, 1) := by decide +kernel
theorem dX10_sign_17 : decode cX10_sign 17 = .ok (.putfield 243, 3) := by decide +kernel
theorem dX10_sign_20 : decode cX10_sign 20 = .ok (.return_, 1) := by decide +kernel
theorem dX10_writesNumber_0 : decode cX10_writesNumber 0 = .ok (.iconst 1, 1) := by decide +kernel
theorem dX10_writesNumber_1 : decode cX10_writesNumber 1 = .ok (.istore_n 2, 1) := by decide +kernel
theorem dX10_writesNumber_2 : decode cX10_writesNumber 2 = .ok (.iload_n 1, 1) := by decide +kernel
theorem dX10_writesNumber_3 : decode cX10_writesNumber 3 = .ok (.iload_n 2, 1) := by decide +kernel
theorem dX10_writesNumber_4 : decode cX10_writesNumber 4 = .ok (.idiv, 1) := by decide +kernel
theorem dX10_writesNumber_5 : decode cX10_writesNumber 5 = .ok (.bipush 9, 2) := by decide +kernel
theorem dX10_writesNumber_7 : decode cX10_writesNumber 7 = .ok (.if_icmp .le 11, 3) := by decide +kernel
theorem dX10_writesNumber_10 : decode cX10_writesNumber 10 = .ok (.iload_n 2, 1) := by decide +kernel
theorem dX10_writesNumber_11 : decode cX10_writesNumber 11 = .ok (.bipush 10, 2) := by decide +kernel
theorem dX10_writesNumber_13 : decode cX10_writesNumber 13 = .ok (.imul, 1) := by decide +kernel
theorem dX10_writesNumber_14 : decode cX10_writesNumber 14 = .ok (.istore_n 2, 1) := by decide +kernel
theorem dX10_writesNumber_15 : decode cX10_writesNumber 15 = .ok (.goto (-13), 3) := by decide +kernel
theorem dX10_writesNumber_18 : decode cX10_writesNumber 18 = .ok (.iload_n 2, 1) := by decide +kernel
theorem dX10_writesNumber_19 : decode cX10_writesNumber 19 = .ok (.istore_n 3, 1) := by decide +kernel
theorem dX10_writesNumber_20 : decode cX10_writesNumber 20 = .ok (.iload_n 3, 1) := by decide +kernel
theorem dX10_writesNumber_21 : decode cX10_writesNumber 21 = .ok (.ifCond .le 24, 3) := by decide +kernel
theorem dX10_writesNumber_24 : decode cX10_writesNumber 24 = .ok (.aload_n 0, 1) := by decide +kernel
theorem dX10_writesNumber_25 : decode cX10_writesNumber 25 = .ok (.bipush 48, 2) := by decide +kernel
theorem dX10_writesNumber_27 : decode cX10_writesNumber 27 = .ok (.iload_n 1, 1) := by decide +kernel
theorem dX10_writesNumber_28 : decode cX10_writesNumber 28 = .ok (.iload_n 3, 1) := by decide +kernel
theorem dX10_writesNumber_29 : decode cX10_writesNumber 29 = .ok (.idiv, 1) := by decide +kernel
theorem dX10_writesNumber_30 : decode cX10_writesNumber 30 = .ok (.bipush 10, 2) := by decide +kernel
theorem dX10_writesNumber_32 : decode cX10_writesNumber 32 = .ok (.irem, 1) := by decide +kernel
theorem dX10_writesNumber_33 : decode cX10_writesNumber 33 = .ok (.iadd, 1) := by decide +kernel
theorem dX10_writesNumber_34 : decode cX10_writesNumber 34 = .ok (.invokevirtual 246, 3) := by decide +kernel
theorem dX10_writesNumber_37 : decode cX10_writesNumber 37 = .ok (.iload_n 3, 1) := by decide +kernel
theorem dX10_writesNumber_38 : decode cX10_writesNumber 38 = .ok (.bipush 10, 2) := by decide +kernel
theorem dX10_writesNumber_40 : decode cX10_writesNumber 40 = .ok (.idiv, 1) := by decide +kernel
theorem dX10_writesNumber_41 : decode cX10_writesNumber 41 = .ok (.istore_n 3, 1) := by decide +kernel
theorem dX10_writesNumber_42 : decode cX10_writesNumber 42 = .ok (.goto (-22), 3) := by decide +kernel
theorem dX10_writesNumber_45 : decode cX10_writesNumber 45 = .ok (.return_, 1) := by decide +kernel
theorem dX10_line_0 : decode cX10_line 0 = .ok (.aload_n 0, 1) := by decide +kernel
theorem dX10_line_1 : decode cX10_line 1 = .ok (.iconst 0, 1) := by decide +kernel
theorem dX10_line_2 : decode cX10_line 2 = .ok (.putfield 38, 3) := by decide +kernel
theorem dX10_line_5 : decode cX10_line 5 = .ok (.aload_n 0, 1) := by decide +kernel
theorem dX10_line_6 : decode cX10_line 6 = .ok (.iload_n 1, 1) := by decide +kernel
theorem dX10_line_7 : decode cX10_line 7 = .ok (.invokevirtual 154, 3) := by decide +kernel
theorem dX10_line_10 : decode cX10_line 10 = .ok (.ifCond .ne 9, 3) := by decide +kernel
theorem dX10_line_13 : decode cX10_line 13 = .ok (.aload_n 0, 1) := by decide +kernel
theorem dX10_line_14 : decode cX10_line 14 = .ok (.iconst 1, 1) := by decide +kernel
theorem dX10_line_15 : decode cX10_line 15 = .ok (.invokevirtual 50, 3) := by decide +kernel
theorem dX10_line_18 : decode cX10_line 18 = .ok (.ireturn, 1) := by decide +kernel
theorem dX10_line_19 : decode cX10_line 19 = .ok (.iload_n 1, 1) := by decide +kernel
theorem dX10_line_20 : decode cX10_line 20 = .ok (.invokestatic 126, 3) := by decide +kernel
theorem dX10_line_23 : decode cX10_line 23 = .ok (.istore_n 2, 1) := by decide +kernel
theorem dX10_line_24 : decode cX10_line 24 = .ok (.aload_n 0, 1) := by decide +kernel
theorem dX10_line_25 : decode cX10_line 25 = .ok (.iconst 0, 1) := by decide +kernel
theorem dX10_line_26 : decode cX10_line 26 = .ok (.putfield 243, 3) := by decide +kernel
theorem dX10_line_29 : decode cX10_line 29 = .ok (.aload_n 0, 1) := by decide +kernel
theorem dX10_line_30 : decode cX10_line 30 = .ok (.getfield 9, 3) := by decide +kernel
theorem dX10_line_33 : decode cX10_line 33 = .ok (.iload_n 2, 1) := by decide +kernel
theorem dX10_line_34 : decode cX10_line 34 = .ok (.bipush 7, 2) := by decide +kernel
theorem dX10_line_36 : decode cX10_line 36 = .ok (.iadd, 1) := by decide +kernel
theorem dX10_line_37 : decode cX10_line 37 = .ok (.iaload, 1) := by decide +kernel
theorem dX10_line_38 : decode cX10_line 38 = .ok (.iconst 1, 1) := by decide +kernel
theorem dX10_line_39 : decode cX10_line 39 = .ok (.if_icmp .ne 24, 3) := by decide +kernel
theorem dX10_line_42 : decode cX10_line 42 = .ok (.aload_n 0, 1) := by decide +kernel
theorem dX10_line_43 : decode cX10_line 43 = .ok (.bipush 111, 2) := by decide +kernel
theorem dX10_line_45 : decode cX10_line 45 = .ok (.invokevirtual 246, 3) := by decide +kernel
theorem dX10_line_48 : decode cX10_line 48 = .ok (.aload_n 0, 1) := by decide +kernel
theorem dX10_line_49 : decode cX10_line 49 = .ok (.bipush 117, 2) := by decide +kernel
theorem dX10_line_51 : decode cX10_line 51 = .ok (.invokevirtual 246, 3) := by decide +kernel
theorem dX10_line_54 : decode cX10_line 54 = .ok (.aload_n 0, 1) := by decide +kernel
theorem dX10_line_55 : decode cX10_line 55 = .ok (.bipush 116, 2) := by decide +kernel
theorem dX10_line_57 : decode cX10_line 57 = .ok (.invokevirtual 246, 3) := by decide +kernel
theorem dX10_line_60 : decode cX10_line 60 = .ok (.goto 15, 3) := by decide +kernel
theorem dX10_line_63 : decode cX10_line 63 = .ok (.aload_n 0, 1) := by decide +kernel
theorem dX10_line_64 : decode cX10_line 64 = .ok (.aload_n 0, 1) := by decide +kernel
theorem dX10_line_65 : decode cX10_line 65 = .ok (.getfield 9, 3) := by decide +kernel
theorem dX10_line_68 : decode cX10_line 68 = .ok (.iload_n 2, 1) := by decide +kernel
theorem dX10_line_69 : decode cX10_line 69 = .ok (.iconst 1, 1) := by decide +kernel
theorem dX10_line_70 : decode cX10_line 70 = .ok (.iadd, 1) := by decide +kernel
theorem dX10_line_71 : decode cX10_line 71 = .ok (.iaload, 1) := by decide +kernel
theorem dX10_line_72 : decode cX10_line 72 = .ok (.invokevirtual 249, 3) := by decide +kernel
theorem dX10_line_75 : decode cX10_line 75 = .ok (.aload_n 0, 1) := by decide +kernel
theorem dX10_line_76 : decode cX10_line 76 = .ok (.bipush 43, 2) := by decide +kernel
theorem dX10_line_78 : decode cX10_line 78 = .ok (.invokevirtual 246, 3) := by decide +kernel
theorem dX10_line_81 : decode cX10_line 81 = .ok (.aload_n 0, 1) := by decide +kernel
theorem dX10_line_82 : decode cX10_line 82 = .ok (.aload_n 0, 1) := by decide +kernel
theorem dX10_line_83 : decode cX10_line 83 = .ok (.getfield 9, 3) := by decide +kernel
theorem dX10_line_86 : decode cX10_line 86 = .ok (.iload_n 2, 1) := by decide +kernel
theorem dX10_line_87 : decode cX10_line 87 = .ok (.iconst 2, 1) := by decide +kernel
theorem dX10_line_88 : decode cX10_line 88 = .ok (.iadd, 1) := by decide +kernel
theorem dX10_line_89 : decode cX10_line 89 = .ok (.iaload, 1) := by decide +kernel
theorem dX10_line_90 : decode cX10_line 90 = .ok (.invokevirtual 249, 3) := by decide +kernel
theorem dX10_line_93 : decode cX10_line 93 = .ok (.aload_n 0, 1) := by decide +kernel
theorem dX10_line_94 : decode cX10_line 94 = .ok (.getfield 9, 3) := by decide +kernel
theorem dX10_line_97 : decode cX10_line 97 = .ok (.iload_n 2, 1) := by decide +kernel
theorem dX10_line_98 : decode cX10_line 98 = .ok (.iconst 4, 1) := by decide +kernel
theorem dX10_line_99 : decode cX10_line 99 = .ok (.iadd, 1) := by decide +kernel
theorem dX10_line_100 : decode cX10_line 100 = .ok (.iaload, 1) := by decide +kernel
theorem dX10_line_101 : decode cX10_line 101 = .ok (.iconst (-1), 1) := by decide +kernel
theorem dX10_line_102 : decode cX10_line 102 = .ok (.if_icmp .eq 58, 3) := by decide +kernel
theorem dX10_line_105 : decode cX10_line 105 = .ok (.aload_n 0, 1) := by decide +kernel
theorem dX10_line_106 : decode cX10_line 106 = .ok (.bipush 35, 2) := by decide +kernel
theorem dX10_line_108 : decode cX10_line 108 = .ok (.invokevirtual 246, 3) := by decide +kernel
theorem dX10_line_111 : decode cX10_line 111 = .ok (.aload_n 0, 1) := by decide +kernel
theorem dX10_line_112 : decode cX10_line 112 = .ok (.aload_n 0, 1) := by decide +kernel
theorem dX10_line_113 : decode cX10_line 113 = .ok (.getfield 9, 3) := by decide +kernel
theorem dX10_line_116 : decode cX10_line 116 = .ok (.iload_n 2, 1) := by decide +kernel
theorem dX10_line_117 : decode cX10_line 117 = .ok (.iconst 4, 1) := by decide +kernel
theorem dX10_line_118 : decode cX10_line 118 = .ok (.iadd, 1) := by decide +kernel
theorem dX10_line_119 : decode cX10_line 119 = .ok (.iaload, 1) := by decide +kernel
theorem dX10_line_120 : decode cX10_line 120 = .ok (.invokevirtual 249, 3) := by decide +kernel
theorem dX10_line_123 : decode cX10_line 123 = .ok (.aload_n 0, 1) := by decide +kernel
theorem dX10_line_124 : decode cX10_line 124 = .ok (.bipush 42, 2) := by decide +kernel
theorem dX10_line_126 : decode cX10_line 126 = .ok (.invokevirtual 246, 3) := by decide +kernel
theorem dX10_line_129 : decode cX10_line 129 = .ok (.aload_n 0, 1) := by decide +kernel
theorem dX10_line_130 : decode cX10_line 130 = .ok (.aload_n 0, 1) := by decide +kernel
theorem dX10_line_131 : decode cX10_line 131 = .ok (.getfield 9, 3) := by decide +kernel
theorem dX10_line_134 : decode cX10_line 134 = .ok (.iload_n 2, 1) := by decide +kernel
theorem dX10_line_135 : decode cX10_line 135 = .ok (.iconst 5, 1) := by decide +kernel
theorem dX10_line_136 : decode cX10_line 136 = .ok (.iadd, 1) := by decide +kernel
theorem dX10_line_137 : decode cX10_line 137 = .ok (.iaload, 1) := by decide +kernel
theorem dX10_line_138 : decode cX10_line 138 = .ok (.invokevirtual 249, 3) := by decide +kernel
theorem dX10_line_141 : decode cX10_line 141 = .ok (.aload_n 0, 1) := by decide +kernel
theorem dX10_line_142 : decode cX10_line 142 = .ok (.getfield 9, 3) := by decide +kernel
theorem dX10_line_145 : decode cX10_line 145 = .ok (.iload_n 2, 1) := by decide +kernel
theorem dX10_line_146 : decode cX10_line 146 = .ok (.bipush 6, 2) := by decide +kernel
theorem dX10_line_148 : decode cX10_line 148 = .ok (.iadd, 1) := by decide +kernel
theorem dX10_line_149 : decode cX10_line 149 = .ok (.iaload, 1) := by decide +kernel
theorem dX10_line_150 : decode cX10_line 150 = .ok (.iconst 1, 1) := by decide +kernel
theorem dX10_line_151 : decode cX10_line 151 = .ok (.if_icmp .ne 9, 3) := by decide +kernel
theorem dX10_line_154 : decode cX10_line 154 = .ok (.aload_n 0, 1) := by decide +kernel
theorem dX10_line_155 : decode cX10_line 155 = .ok (.bipush 33, 2) := by decide +kernel
theorem dX10_line_157 : decode cX10_line 157 = .ok (.invokevirtual 246, 3) := by decide +kernel
theorem dX10_line_160 : decode cX10_line 160 = .ok (.aload_n 0, 1) := by decide +kernel
theorem dX10_line_161 : decode cX10_line 161 = .ok (.getfield 243, 3) := by decide +kernel
theorem dX10_line_164 : decode cX10_line 164 = .ok (.ireturn, 1) := by decide +kernel
theorem dX10_visitorsIn_0 : decode cX10_visitorsIn 0 = .ok (.iconst 0, 1) := by decide +kernel
theorem dX10_visitorsIn_1 : decode cX10_visitorsIn 1 = .ok (.istore_n 2, 1) := by decide +kernel
theorem dX10_visitorsIn_2 : decode cX10_visitorsIn 2 = .ok (.iconst 0, 1) := by decide +kernel
theorem dX10_visitorsIn_3 : decode cX10_visitorsIn 3 = .ok (.istore_n 3, 1) := by decide +kernel
theorem dX10_visitorsIn_4 : decode cX10_visitorsIn 4 = .ok (.iload_n 3, 1) := by decide +kernel
theorem dX10_visitorsIn_5 : decode cX10_visitorsIn 5 = .ok (.aload_n 0, 1) := by decide +kernel
theorem dX10_visitorsIn_6 : decode cX10_visitorsIn 6 = .ok (.getfield 9, 3) := by decide +kernel
theorem dX10_visitorsIn_9 : decode cX10_visitorsIn 9 = .ok (.iconst 1, 1) := by decide +kernel
theorem dX10_visitorsIn_10 : decode cX10_visitorsIn 10 = .ok (.iaload, 1) := by decide +kernel
theorem dX10_visitorsIn_11 : decode cX10_visitorsIn 11 = .ok (.if_icmp .ge 47, 3) := by decide +kernel
theorem dX10_visitorsIn_14 : decode cX10_visitorsIn 14 = .ok (.iload_n 2, 1) := by decide +kernel
theorem dX10_visitorsIn_15 : decode cX10_visitorsIn 15 = .ok (.aload_n 0, 1) := by decide +kernel
theorem dX10_visitorsIn_16 : decode cX10_visitorsIn 16 = .ok (.getfield 9, 3) := by decide +kernel
theorem dX10_visitorsIn_19 : decode cX10_visitorsIn 19 = .ok (.iload_n 3, 1) := by decide +kernel
theorem dX10_visitorsIn_20 : decode cX10_visitorsIn 20 = .ok (.invokestatic 126, 3) := by decide +kernel
theorem dX10_visitorsIn_23 : decode cX10_visitorsIn 23 = .ok (.bipush 7, 2) := by decide +kernel
theorem dX10_visitorsIn_25 : decode cX10_visitorsIn 25 = .ok (.iadd, 1) := by decide +kernel
theorem dX10_visitorsIn_26 : decode cX10_visitorsIn 26 = .ok (.iaload, 1) := by decide +kernel
theorem dX10_visitorsIn_27 : decode cX10_visitorsIn 27 = .ok (.ifCond .ne 22, 3) := by decide +kernel
theorem dX10_visitorsIn_30 : decode cX10_visitorsIn 30 = .ok (.aload_n 0, 1) := by decide +kernel
theorem dX10_visitorsIn_31 : decode cX10_visitorsIn 31 = .ok (.getfield 9, 3) := by decide +kernel
theorem dX10_visitorsIn_34 : decode cX10_visitorsIn 34 = .ok (.iload_n 3, 1) := by decide +kernel
theorem dX10_visitorsIn_35 : decode cX10_visitorsIn 35 = .ok (.invokestatic 126, 3) := by decide +kernel
theorem dX10_visitorsIn_38 : decode cX10_visitorsIn 38 = .ok (.iconst 1, 1) := by decide +kernel
theorem dX10_visitorsIn_39 : decode cX10_visitorsIn 39 = .ok (.iadd, 1) := by decide +kernel
theorem dX10_visitorsIn_40 : decode cX10_visitorsIn 40 = .ok (.iaload, 1) := by decide +kernel
theorem dX10_visitorsIn_41 : decode cX10_visitorsIn 41 = .ok (.iload_n 1, 1) := by decide +kernel
theorem dX10_visitorsIn_42 : decode cX10_visitorsIn 42 = .ok (.if_icmp .ne 7, 3) := by decide +kernel
theorem dX10_visitorsIn_45 : decode cX10_visitorsIn 45 = .ok (.iconst 1, 1) := by decide +kernel
theorem dX10_visitorsIn_46 : decode cX10_visitorsIn 46 = .ok (.goto 4, 3) := by decide +kernel
theorem dX10_visitorsIn_49 : decode cX10_visitorsIn 49 = .ok (.iconst 0, 1) := by decide +kernel
theorem dX10_visitorsIn_50 : decode cX10_visitorsIn 50 = .ok (.iadd, 1) := by decide +kernel
theorem dX10_visitorsIn_51 : decode cX10_visitorsIn 51 = .ok (.istore_n 2, 1) := by decide +kernel
theorem dX10_visitorsIn_52 : decode cX10_visitorsIn 52 = .ok (.iinc 3 1, 3) := by decide +kernel
theorem dX10_visitorsIn_55 : decode cX10_visitorsIn 55 = .ok (.goto (-51), 3) := by decide +kernel
theorem dX10_visitorsIn_58 : decode cX10_visitorsIn 58 = .ok (.iload_n 2, 1) := by decide +kernel
theorem dX10_visitorsIn_59 : decode cX10_visitorsIn 59 = .ok (.ireturn, 1) := by decide +kernel
theorem dX10_row_0 : decode cX10_row 0 = .ok (.aload_n 0, 1) := by decide +kernel
theorem dX10_row_1 : decode cX10_row 1 = .ok (.iconst 0, 1) := by decide +kernel
theorem dX10_row_2 : decode cX10_row 2 = .ok (.putfield 38, 3) := by decide +kernel
theorem dX10_row_5 : decode cX10_row 5 = .ok (.iload_n 1, 1) := by decide +kernel
theorem dX10_row_6 : decode cX10_row 6 = .ok (.i2l, 1) := by decide +kernel
theorem dX10_row_7 : decode cX10_row 7 = .ok (.lconst 0, 1) := by decide +kernel
theorem dX10_row_8 : decode cX10_row 8 = .ok (.ldc2_w 63, 3) := by decide +kernel
theorem dX10_row_11 : decode cX10_row 11 = .ok (.invokestatic 59, 3) := by decide +kernel
theorem dX10_row_14 : decode cX10_row 14 = .ok (.ifCond .ne 9, 3) := by decide +kernel
theorem dX10_row_17 : decode cX10_row 17 = .ok (.aload_n 0, 1) := by decide +kernel
theorem dX10_row_18 : decode cX10_row 18 = .ok (.iconst 1, 1) := by decide +kernel
theorem dX10_row_19 : decode cX10_row 19 = .ok (.invokevirtual 50, 3) := by decide +kernel
theorem dX10_row_22 : decode cX10_row 22 = .ok (.ireturn, 1) := by decide +kernel
theorem dX10_row_23 : decode cX10_row 23 = .ok (.aload_n 0, 1) := by decide +kernel
theorem dX10_row_24 : decode cX10_row 24 = .ok (.iconst 0, 1) := by decide +kernel
theorem dX10_row_25 : decode cX10_row 25 = .ok (.putfield 243, 3) := by decide +kernel
theorem dX10_row_28 : decode cX10_row 28 = .ok (.iconst 4, 1) := by decide +kernel
theorem dX10_row_29 : decode cX10_row 29 = .ok (.iload_n 1, 1) := by decide +kernel
theorem dX10_row_30 : decode cX10_row 30 = .ok (.imul, 1) := by decide +kernel
theorem dX10_row_31 : decode cX10_row 31 = .ok (.istore_n 2, 1) := by decide +kernel
theorem dX10_row_32 : decode cX10_row 32 = .ok (.iload_n 2, 1) := by decide +kernel
theorem dX10_row_33 : decode cX10_row 33 = .ok (.iconst 4, 1) := by decide +kernel
theorem dX10_row_34 : decode cX10_row 34 = .ok (.iload_n 1, 1) := by decide +kernel
theorem dX10_row_35 : decode cX10_row 35 = .ok (.imul, 1) := by decide +kernel
theorem dX10_row_36 : decode cX10_row 36 = .ok (.iconst 4, 1) := by decide +kernel
theorem dX10_row_37 : decode cX10_row 37 = .ok (.iadd, 1) := by decide +kernel
theorem dX10_row_38 : decode cX10_row 38 = .ok (.if_icmp .ge 68, 3) := by decide +kernel
theorem dX10_row_41 : decode cX10_row 41 = .ok (.iload_n 2, 1) := by decide +kernel
theorem dX10_row_42 : decode cX10_row 42 = .ok (.iconst 4, 1) := by decide +kernel
theorem dX10_row_43 : decode cX10_row 43 = .ok (.iload_n 1, 1) := by decide +kernel
theorem dX10_row_44 : decode cX10_row 44 = .ok (.imul, 1) := by decide +kernel
theorem dX10_row_45 : decode cX10_row 45 = .ok (.if_icmp .le 28, 3) := by decide +kernel
theorem dX10_row_48 : decode cX10_row 48 = .ok (.aload_n 0, 1) := by decide +kernel
theorem dX10_row_49 : decode cX10_row 49 = .ok (.aload_n 0, 1) := by decide +kernel
theorem dX10_row_50 : decode cX10_row 50 = .ok (.iload_n 2, 1) := by decide +kernel
theorem dX10_row_51 : decode cX10_row 51 = .ok (.iconst 1, 1) := by decide +kernel
theorem dX10_row_52 : decode cX10_row 52 = .ok (.isub, 1) := by decide +kernel
theorem dX10_row_53 : decode cX10_row 53 = .ok (.iload_n 2, 1) := by decide +kernel
theorem dX10_row_54 : decode cX10_row 54 = .ok (.invokestatic 77, 3) := by decide +kernel
theorem dX10_row_57 : decode cX10_row 57 = .ok (.invokevirtual 80, 3) := by decide +kernel
theorem dX10_row_60 : decode cX10_row 60 = .ok (.ifCond .eq 8, 3) := by decide +kernel
theorem dX10_row_63 : decode cX10_row 63 = .ok (.bipush 32, 2) := by decide +kernel
theorem dX10_row_65 : decode cX10_row 65 = .ok (.goto 5, 3) := by decide +kernel
theorem dX10_row_68 : decode cX10_row 68 = .ok (.bipush 124, 2) := by decide +kernel
theorem dX10_row_70 : decode cX10_row 70 = .ok (.invokevirtual 246, 3) := by decide +kernel
theorem dX10_row_73 : decode cX10_row 73 = .ok (.aload_n 0, 1) := by decide +kernel
theorem dX10_row_74 : decode cX10_row 74 = .ok (.aload_n 0, 1) := by decide +kernel
theorem dX10_row_75 : decode cX10_row 75 = .ok (.getfield 9, 3) := by decide +kernel
theorem dX10_row_78 : decode cX10_row 78 = .ok (.iconst 2, 1) := by decide +kernel
theorem dX10_row_79 : decode cX10_row 79 = .ok (.iaload, 1) := by decide +kernel
theorem dX10_row_80 : decode cX10_row 80 = .ok (.iload_n 2, 1) := by decide +kernel
theorem dX10_row_81 : decode cX10_row 81 = .ok (.if_icmp .ne 8, 3) := by decide +kernel
theorem dX10_row_84 : decode cX10_row 84 = .ok (.bipush 77, 2) := by decide +kernel
theorem dX10_row_86 : decode cX10_row 86 = .ok (.goto 11, 3) := by decide +kernel
theorem dX10_row_89 : decode cX10_row 89 = .ok (.bipush 48, 2) := by decide +kernel
theorem dX10_row_91 : decode cX10_row 91 = .ok (.aload_n 0, 1) := by decide +kernel
theorem dX10_row_92 : decode cX10_row 92 = .ok (.iload_n 2, 1) := by decide +kernel
theorem dX10_row_93 : decode cX10_row 93 = .ok (.invokevirtual 252, 3) := by decide +kernel
theorem dX10_row_96 : decode cX10_row 96 = .ok (.iadd, 1) := by decide +kernel
theorem dX10_row_97 : decode cX10_row 97 = .ok (.invokevirtual 246, 3) := by decide +kernel
theorem dX10_row_100 : decode cX10_row 100 = .ok (.iinc 2 1, 3) := by decide +kernel
theorem dX10_row_103 : decode cX10_row 103 = .ok (.goto (-71), 3) := by decide +kernel
theorem dX10_row_106 : decode cX10_row 106 = .ok (.aload_n 0, 1) := by decide +kernel
theorem dX10_row_107 : decode cX10_row 107 = .ok (.getfield 243, 3) := by decide +kernel
theorem dX10_row_110 : decode cX10_row 110 = .ok (.ireturn, 1) := by decide +kernel
theorem dX10_character_0 : decode cX10_character 0 = .ok (.aload_n 0, 1) := by decide +kernel
theorem dX10_character_1 : decode cX10_character 1 = .ok (.iconst 0, 1) := by decide +kernel
theorem dX10_character_2 : decode cX10_character 2 = .ok (.putfield 38, 3) := by decide +kernel
theorem dX10_character_5 : decode cX10_character 5 = .ok (.iload_n 1, 1) := by decide +kernel
theorem dX10_character_6 : decode cX10_character 6 = .ok (.i2l, 1) := by decide +kernel
theorem dX10_character_7 : decode cX10_character 7 = .ok (.lconst 0, 1) := by decide +kernel
theorem dX10_character_8 : decode cX10_character 8 = .ok (.aload_n 0, 1) := by decide +kernel
theorem dX10_character_9 : decode cX10_character 9 = .ok (.getfield 243, 3) := by decide +kernel
theorem dX10_character_12 : decode cX10_character 12 = .ok (.iconst 1, 1) := by decide +kernel
theorem dX10_character_13 : decode cX10_character 13 = .ok (.isub, 1) := by decide +kernel
theorem dX10_character_14 : decode cX10_character 14 = .ok (.i2l, 1) := by decide +kernel
theorem dX10_character_15 : decode cX10_character 15 = .ok (.invokestatic 59, 3) := by decide +kernel
theorem dX10_character_18 : decode cX10_character 18 = .ok (.ifCond .eq 13, 3) := by decide +kernel
theorem dX10_character_21 : decode cX10_character 21 = .ok (.aload_n 0, 1) := by decide +kernel
theorem dX10_character_22 : decode cX10_character 22 = .ok (.getfield 35, 3) := by decide +kernel
theorem dX10_character_25 : decode cX10_character 25 = .ok (.iload_n 1, 1) := by decide +kernel
theorem dX10_character_26 : decode cX10_character 26 = .ok (.iaload, 1) := by decide +kernel
theorem dX10_character_27 : decode cX10_character 27 = .ok (.i2c, 1) := by decide +kernel
theorem dX10_character_28 : decode cX10_character 28 = .ok (.goto 9, 3) := by decide +kernel
theorem dX10_character_31 : decode cX10_character 31 = .ok (.aload_n 0, 1) := by decide +kernel
theorem dX10_character_32 : decode cX10_character 32 = .ok (.iconst 1, 1) := by decide +kernel
theorem dX10_character_33 : decode cX10_character 33 = .ok (.invokevirtual 50, 3) := by decide +kernel
theorem dX10_character_36 : decode cX10_character 36 = .ok (.i2c, 1) := by decide +kernel
theorem dX10_character_37 : decode cX10_character 37 = .ok (.ireturn, 1) := by decide +kernel
theorem dX10_coins_0 : decode cX10_coins 0 = .ok (.iconst 0, 1) := by decide +kernel
theorem dX10_coins_1 : decode cX10_coins 1 = .ok (.istore_n 1, 1) := by decide +kernel
theorem dX10_coins_2 : decode cX10_coins 2 = .ok (.iconst 0, 1) := by decide +kernel
theorem dX10_coins_3 : decode cX10_coins 3 = .ok (.istore_n 2, 1) := by decide +kernel
theorem dX10_coins_4 : decode cX10_coins 4 = .ok (.iload_n 2, 1) := by decide +kernel
theorem dX10_coins_5 : decode cX10_coins 5 = .ok (.aload_n 0, 1) := by decide +kernel
theorem dX10_coins_6 : decode cX10_coins 6 = .ok (.getfield 9, 3) := by decide +kernel
theorem dX10_coins_9 : decode cX10_coins 9 = .ok (.iconst 0, 1) := by decide +kernel
theorem dX10_coins_10 : decode cX10_coins 10 = .ok (.iaload, 1) := by decide +kernel
theorem dX10_coins_11 : decode cX10_coins 11 = .ok (.if_icmp .ge 21, 3) := by decide +kernel
theorem dX10_coins_14 : decode cX10_coins 14 = .ok (.iload_n 1, 1) := by decide +kernel
theorem dX10_coins_15 : decode cX10_coins 15 = .ok (.aload_n 0, 1) := by decide +kernel
theorem dX10_coins_16 : decode cX10_coins 16 = .ok (.getfield 9, 3) := by decide +kernel
theorem dX10_coins_19 : decode cX10_coins 19 = .ok (.iload_n 2, 1) := by decide +kernel
theorem dX10_coins_20 : decode cX10_coins 20 = .ok (.invokestatic 120, 3) := by decide +kernel
theorem dX10_coins_23 : decode cX10_coins 23 = .ok (.iaload, 1) := by decide +kernel
theorem dX10_coins_24 : decode cX10_coins 24 = .ok (.iadd, 1) := by decide +kernel
theorem dX10_coins_25 : decode cX10_coins 25 = .ok (.istore_n 1, 1) := by decide +kernel
theorem dX10_coins_26 : decode cX10_coins 26 = .ok (.iinc 2 1, 3) := by decide +kernel
theorem dX10_coins_29 : decode cX10_coins 29 = .ok (.goto (-25), 3) := by decide +kernel
theorem dX10_coins_32 : decode cX10_coins 32 = .ok (.iconst 0, 1) := by decide +kernel
theorem dX10_coins_33 : decode cX10_coins 33 = .ok (.istore_n 2, 1) := by decide +kernel
theorem dX10_coins_34 : decode cX10_coins 34 = .ok (.iload_n 2, 1) := by decide +kernel
theorem dX10_coins_35 : decode cX10_coins 35 = .ok (.aload_n 0, 1) := by decide +kernel
theorem dX10_coins_36 : decode cX10_coins 36 = .ok (.getfield 9, 3) := by decide +kernel
theorem dX10_coins_39 : decode cX10_coins 39 = .ok (.iconst 1, 1) := by decide +kernel
theorem dX10_coins_40 : decode cX10_coins 40 = .ok (.iaload, 1) := by decide +kernel
theorem dX10_coins_41 : decode cX10_coins 41 = .ok (.if_icmp .ge 21, 3) := by decide +kernel
theorem dX10_coins_44 : decode cX10_coins 44 = .ok (.iload_n 1, 1) := by decide +kernel
theorem dX10_coins_45 : decode cX10_coins 45 = .ok (.aload_n 0, 1) := by decide +kernel
theorem dX10_coins_46 : decode cX10_coins 46 = .ok (.getfield 9, 3) := by decide +kernel
theorem dX10_coins_49 : decode cX10_coins 49 = .ok (.iload_n 2, 1) := by decide +kernel
theorem dX10_coins_50 : decode cX10_coins 50 = .ok (.invokestatic 126, 3) := by decide +kernel
theorem dX10_coins_53 : decode cX10_coins 53 = .ok (.iaload, 1) := by decide +kernel
theorem dX10_coins_54 : decode cX10_coins 54 = .ok (.iadd, 1) := by decide +kernel
theorem dX10_coins_55 : decode cX10_coins 55 = .ok (.istore_n 1, 1) := by decide +kernel
theorem dX10_coins_56 : decode cX10_coins 56 = .ok (.iinc 2 1, 3) := by decide +kernel
theorem dX10_coins_59 : decode cX10_coins 59 = .ok (.goto (-25), 3) := by decide +kernel
theorem dX10_coins_62 : decode cX10_coins 62 = .ok (.iload_n 1, 1) := by decide +kernel
theorem dX10_coins_63 : decode cX10_coins 63 = .ok (.ireturn, 1) := by decide +kernel
theorem dX10_voids_0 : decode cX10_voids 0 = .ok (.iconst 0, 1) := by decide +kernel
theorem dX10_voids_1 : decode cX10_voids 1 = .ok (.istore_n 1, 1) := by decide +kernel
theorem dX10_voids_2 : decode cX10_voids 2 = .ok (.iconst 0, 1) := by decide +kernel
theorem dX10_voids_3 : decode cX10_voids 3 = .ok (.istore_n 2, 1) := by decide +kernel
theorem dX10_voids_4 : decode cX10_voids 4 = .ok (.iload_n 2, 1) := by decide +kernel
theorem dX10_voids_5 : decode cX10_voids 5 = .ok (.aload_n 0, 1) := by decide +kernel
theorem dX10_voids_6 : decode cX10_voids 6 = .ok (.getfield 9, 3) := by decide +kernel
theorem dX10_voids_9 : decode cX10_voids 9 = .ok (.iconst 1, 1) := by decide +kernel
theorem dX10_voids_10 : decode cX10_voids 10 = .ok (.iaload, 1) := by decide +kernel
theorem dX10_voids_11 : decode cX10_voids 11 = .ok (.if_icmp .ge 36, 3) := by decide +kernel
theorem dX10_voids_14 : decode cX10_voids 14 = .ok (.iload_n 1, 1) := by decide +kernel
theorem dX10_voids_15 : decode cX10_voids 15 = .ok (.aload_n 0, 1) := by decide +kernel
theorem dX10_voids_16 : decode cX10_voids 16 = .ok (.iload_n 2, 1) := by decide +kernel
theorem dX10_voids_17 : decode cX10_voids 17 = .ok (.invokevirtual 183, 3) := by decide +kernel
theorem dX10_voids_20 : decode cX10_voids 20 = .ok (.ifCond .eq 18, 3) := by decide +kernel
theorem dX10_voids_23 : decode cX10_voids 23 = .ok (.aload_n 0, 1) := by decide +kernel
theorem dX10_voids_24 : decode cX10_voids 24 = .ok (.getfield 9, 3) := by decide +kernel
theorem dX10_voids_27 : decode cX10_voids 27 = .ok (.iload_n 2, 1) := by decide +kernel
theorem dX10_voids_28 : decode cX10_voids 28 = .ok (.invokestatic 126, 3) := by decide +kernel
theorem dX10_voids_31 : decode cX10_voids 31 = .ok (.bipush 6, 2) := by decide +kernel
theorem dX10_voids_33 : decode cX10_voids 33 = .ok (.iadd, 1) := by decide +kernel
theorem dX10_voids_34 : decode cX10_voids 34 = .ok (.iaload, 1) := by decide +kernel
theorem dX10_voids_35 : decode cX10_voids 35 = .ok (.goto 4, 3) := by decide +kernel
theorem dX10_voids_38 : decode cX10_voids 38 = .ok (.iconst 0, 1) := by decide +kernel
theorem dX10_voids_39 : decode cX10_voids 39 = .ok (.iadd, 1) := by decide +kernel
theorem dX10_voids_40 : decode cX10_voids 40 = .ok (.istore_n 1, 1) := by decide +kernel
theorem dX10_voids_41 : decode cX10_voids 41 = .ok (.iinc 2 1, 3) := by decide +kernel
theorem dX10_voids_44 : decode cX10_voids 44 = .ok (.goto (-40), 3) := by decide +kernel
theorem dX10_voids_47 : decode cX10_voids 47 = .ok (.iload_n 1, 1) := by decide +kernel
theorem dX10_voids_48 : decode cX10_voids 48 = .ok (.ireturn, 1) := by decide +kernel
theorem dX10_outs_0 : decode cX10_outs 0 = .ok (.iconst 0, 1) := by decide +kernel
theorem dX10_outs_1 : decode cX10_outs 1 = .ok (.istore_n 1, 1) := by decide +kernel
theorem dX10_outs_2 : decode cX10_outs 2 = .ok (.iconst 0, 1) := by decide +kernel
theorem dX10_outs_3 : decode cX10_outs 3 = .ok (.istore_n 2, 1) := by decide +kernel
theorem dX10_outs_4 : decode cX10_outs 4 = .ok (.iload_n 2, 1) := by decide +kernel
theorem dX10_outs_5 : decode cX10_outs 5 = .ok (.aload_n 0, 1) := by decide +kernel
theorem dX10_outs_6 : decode cX10_outs 6 = .ok (.getfield 9, 3) := by decide +kernel
theorem dX10_outs_9 : decode cX10_outs 9 = .ok (.iconst 1, 1) := by decide +kernel
theorem dX10_outs_10 : decode cX10_outs 10 = .ok (.iaload, 1) := by decide +kernel
theorem dX10_outs_11 : decode cX10_outs 11 = .ok (.if_icmp .ge 24, 3) := by decide +kernel
theorem dX10_outs_14 : decode cX10_outs 14 = .ok (.iload_n 1, 1) := by decide +kernel
theorem dX10_outs_15 : decode cX10_outs 15 = .ok (.aload_n 0, 1) := by decide +kernel
theorem dX10_outs_16 : decode cX10_outs 16 = .ok (.getfield 9, 3) := by decide +kernel
theorem dX10_outs_19 : decode cX10_outs 19 = .ok (.iload_n 2, 1) := by decide +kernel
theorem dX10_outs_20 : decode cX10_outs 20 = .ok (.invokestatic 126, 3) := by decide +kernel
theorem dX10_outs_23 : decode cX10_outs 23 = .ok (.bipush 7, 2) := by decide +kernel
theorem dX10_outs_25 : decode cX10_outs 25 = .ok (.iadd, 1) := by decide +kernel
theorem dX10_outs_26 : decode cX10_outs 26 = .ok (.iaload, 1) := by decide +kernel
theorem dX10_outs_27 : decode cX10_outs 27 = .ok (.iadd, 1) := by decide +kernel
theorem dX10_outs_28 : decode cX10_outs 28 = .ok (.istore_n 1, 1) := by decide +kernel
theorem dX10_outs_29 : decode cX10_outs 29 = .ok (.iinc 2 1, 3) := by decide +kernel
theorem dX10_outs_32 : decode cX10_outs 32 = .ok (.goto (-28), 3) := by decide +kernel
theorem dX10_outs_35 : decode cX10_outs 35 = .ok (.iload_n 1, 1) := by decide +kernel
theorem dX10_outs_36 : decode cX10_outs 36 = .ok (.ireturn, 1) := by decide +kernel
theorem dX10_account_0 : decode cX10_account 0 = .ok (.aload_n 0, 1) := by decide +kernel
theorem dX10_account_1 : decode cX10_account 1 = .ok (.iconst 0, 1) := by decide +kernel
theorem dX10_account_2 : decode cX10_account 2 = .ok (.putfield 38, 3) := by decide +kernel
theorem dX10_account_5 : decode cX10_account 5 = .ok (.iload_n 1, 1) := by decide +kernel
theorem dX10_account_6 : decode cX10_account 6 = .ok (.tableswitch 117 0 11 #[62, 62, 69, 74, 80, 85, 90, 90, 90, 102, 107, 112], 62) := by decide +kernel
theorem dX10_account_68 : decode cX10_account 68 = .ok (.aload_n 0, 1) := by decide +kernel
theorem dX10_account_69 : decode cX10_account 69 = .ok (.getfield 9, 3) := by decide +kernel
theorem dX10_account_72 : decode cX10_account 72 = .ok (.iload_n 1, 1) := by decide +kernel
theorem dX10_account_73 : decode cX10_account 73 = .ok (.iaload, 1) := by decide +kernel
theorem dX10_account_74 : decode cX10_account 74 = .ok (.ireturn, 1) := by decide +kernel
theorem dX10_account_75 : decode cX10_account 75 = .ok (.aload_n 0, 1) := by decide +kernel
theorem dX10_account_76 : decode cX10_account 76 = .ok (.invokevirtual 256, 3) := by decide +kernel
theorem dX10_account_79 : decode cX10_account 79 = .ok (.ireturn, 1) := by decide +kernel
theorem dX10_account_80 : decode cX10_account 80 = .ok (.aload_n 0, 1) := by decide +kernel
theorem dX10_account_81 : decode cX10_account 81 = .ok (.iconst (-1), 1) := by decide +kernel
theorem dX10_account_82 : decode cX10_account 82 = .ok (.invokevirtual 186, 3) := by decide +kernel
theorem dX10_account_85 : decode cX10_account 85 = .ok (.ireturn, 1) := by decide +kernel
theorem dX10_account_86 : decode cX10_account 86 = .ok (.aload_n 0, 1) := by decide +kernel
theorem dX10_account_87 : decode cX10_account 87 = .ok (.invokevirtual 259, 3) := by decide +kernel
theorem dX10_account_90 : decode cX10_account 90 = .ok (.ireturn, 1) := by decide +kernel
theorem dX10_account_91 : decode cX10_account 91 = .ok (.aload_n 0, 1) := by decide +kernel
theorem dX10_account_92 : decode cX10_account 92 = .ok (.invokevirtual 110, 3) := by decide +kernel
theorem dX10_account_95 : decode cX10_account 95 = .ok (.ireturn, 1) := by decide +kernel
theorem dX10_account_96 : decode cX10_account 96 = .ok (.aload_n 0, 1) := by decide +kernel
theorem dX10_account_97 : decode cX10_account 97 = .ok (.getfield 9, 3) := by decide +kernel
theorem dX10_account_100 : decode cX10_account 100 = .ok (.iconst 3, 1) := by decide +kernel
theorem dX10_account_101 : decode cX10_account 101 = .ok (.iload_n 1, 1) := by decide +kernel
theorem dX10_account_102 : decode cX10_account 102 = .ok (.iadd, 1) := by decide +kernel
theorem dX10_account_103 : decode cX10_account 103 = .ok (.bipush 6, 2) := by decide +kernel
theorem dX10_account_105 : decode cX10_account 105 = .ok (.isub, 1) := by decide +kernel
theorem dX10_account_106 : decode cX10_account 106 = .ok (.iaload, 1) := by decide +kernel
theorem dX10_account_107 : decode cX10_account 107 = .ok (.ireturn, 1) := by decide +kernel
theorem dX10_account_108 : decode cX10_account 108 = .ok (.aload_n 0, 1) := by decide +kernel
theorem dX10_account_109 : decode cX10_account 109 = .ok (.invokevirtual 262, 3) := by decide +kernel
theorem dX10_account_112 : decode cX10_account 112 = .ok (.ireturn, 1) := by decide +kernel
theorem dX10_account_113 : decode cX10_account 113 = .ok (.aload_n 0, 1) := by decide +kernel
theorem dX10_account_114 : decode cX10_account 114 = .ok (.getfield 54, 3) := by decide +kernel
theorem dX10_account_117 : decode cX10_account 117 = .ok (.ireturn, 1) := by decide +kernel
theorem dX10_account_118 : decode cX10_account 118 = .ok (.aload_n 0, 1) := by decide +kernel
theorem dX10_account_119 : decode cX10_account 119 = .ok (.getfield 195, 3) := by decide +kernel
theorem dX10_account_122 : decode cX10_account 122 = .ok (.ireturn, 1) := by decide +kernel
theorem dX10_account_123 : decode cX10_account 123 = .ok (.aload_n 0, 1) := by decide +kernel
theorem dX10_account_124 : decode cX10_account 124 = .ok (.iconst 1, 1) := by decide +kernel
theorem dX10_account_125 : decode cX10_account 125 = .ok (.invokevirtual 50, 3) := by decide +kernel
theorem dX10_account_128 : decode cX10_account 128 = .ok (.ireturn, 1) := by decide +kernel
theorem dX10_undo_0 : decode cX10_undo 0 = .ok (.aload_n 0, 1) := by decide +kernel
theorem dX10_undo_1 : decode cX10_undo 1 = .ok (.iconst 0, 1) := by decide +kernel
theorem dX10_undo_2 : decode cX10_undo 2 = .ok (.putfield 38, 3) := by decide +kernel
theorem dX10_undo_5 : decode cX10_undo 5 = .ok (.aload_n 0, 1) := by decide +kernel
theorem dX10_undo_6 : decode cX10_undo 6 = .ok (.getfield 54, 3) := by decide +kernel
theorem dX10_undo_9 : decode cX10_undo 9 = .ok (.ifCond .ne 9, 3) := by decide +kernel
theorem dX10_undo_12 : decode cX10_undo 12 = .ok (.aload_n 0, 1) := by decide +kernel
theorem dX10_undo_13 : decode cX10_undo 13 = .ok (.iconst 1, 1) := by decide +kernel
theorem dX10_undo_14 : decode cX10_undo 14 = .ok (.invokevirtual 50, 3) := by decide +kernel
theorem dX10_undo_17 : decode cX10_undo 17 = .ok (.ireturn, 1) := by decide +kernel
theorem dX10_undo_18 : decode cX10_undo 18 = .ok (.aload_n 0, 1) := by decide +kernel
theorem dX10_undo_19 : decode cX10_undo 19 = .ok (.dup, 1) := by decide +kernel
theorem dX10_undo_20 : decode cX10_undo 20 = .ok (.getfield 54, 3) := by decide +kernel
theorem dX10_undo_23 : decode cX10_undo 23 = .ok (.iconst 1, 1) := by decide +kernel
theorem dX10_undo_24 : decode cX10_undo 24 = .ok (.isub, 1) := by decide +kernel
theorem dX10_undo_25 : decode cX10_undo 25 = .ok (.putfield 54, 3) := by decide +kernel
theorem dX10_undo_28 : decode cX10_undo 28 = .ok (.iconst 0, 1) := by decide +kernel
theorem dX10_undo_29 : decode cX10_undo 29 = .ok (.istore_n 1, 1) := by decide +kernel
theorem dX10_undo_30 : decode cX10_undo 30 = .ok (.iload_n 1, 1) := by decide +kernel
theorem dX10_undo_31 : decode cX10_undo 31 = .ok (.bipush 86, 2) := by decide +kernel
theorem dX10_undo_33 : decode cX10_undo 33 = .ok (.if_icmp .ge 29, 3) := by decide +kernel
theorem dX10_undo_36 : decode cX10_undo 36 = .ok (.aload_n 0, 1) := by decide +kernel
theorem dX10_undo_37 : decode cX10_undo 37 = .ok (.getfield 9, 3) := by decide +kernel
theorem dX10_undo_40 : decode cX10_undo 40 = .ok (.iload_n 1, 1) := by decide +kernel
theorem dX10_undo_41 : decode cX10_undo 41 = .ok (.aload_n 0, 1) := by decide +kernel
theorem dX10_undo_42 : decode cX10_undo 42 = .ok (.getfield 19, 3) := by decide +kernel
theorem dX10_undo_45 : decode cX10_undo 45 = .ok (.bipush 86, 2) := by decide +kernel
theorem dX10_undo_47 : decode cX10_undo 47 = .ok (.aload_n 0, 1) := by decide +kernel
theorem dX10_undo_48 : decode cX10_undo 48 = .ok (.getfield 54, 3) := by decide +kernel
theorem dX10_undo_51 : decode cX10_undo 51 = .ok (.imul, 1) := by decide +kernel
theorem dX10_undo_52 : decode cX10_undo 52 = .ok (.iload_n 1, 1) := by decide +kernel
theorem dX10_undo_53 : decode cX10_undo 53 = .ok (.iadd, 1) := by decide +kernel
theorem dX10_undo_54 : decode cX10_undo 54 = .ok (.iaload, 1) := by decide +kernel
theorem dX10_undo_55 : decode cX10_undo 55 = .ok (.iastore, 1) := by decide +kernel
theorem dX10_undo_56 : decode cX10_undo 56 = .ok (.iinc 1 1, 3) := by decide +kernel
theorem dX10_undo_59 : decode cX10_undo 59 = .ok (.goto (-29), 3) := by decide +kernel
theorem dX10_undo_62 : decode cX10_undo 62 = .ok (.aload_n 0, 1) := by decide +kernel
theorem dX10_undo_63 : decode cX10_undo 63 = .ok (.getfield 54, 3) := by decide +kernel
theorem dX10_undo_66 : decode cX10_undo 66 = .ok (.ireturn, 1) := by decide +kernel
theorem dX10_save_0 : decode cX10_save 0 = .ok (.aload_n 0, 1) := by decide +kernel
theorem dX10_save_1 : decode cX10_save 1 = .ok (.iconst 0, 1) := by decide +kernel
theorem dX10_save_2 : decode cX10_save 2 = .ok (.putfield 38, 3) := by decide +kernel
theorem dX10_save_5 : decode cX10_save 5 = .ok (.iconst 0, 1) := by decide +kernel
theorem dX10_save_6 : decode cX10_save 6 = .ok (.istore_n 1, 1) := by decide +kernel
theorem dX10_save_7 : decode cX10_save 7 = .ok (.iload_n 1, 1) := by decide +kernel
theorem dX10_save_8 : decode cX10_save 8 = .ok (.bipush 86, 2) := by decide +kernel
theorem dX10_save_10 : decode cX10_save 10 = .ok (.if_icmp .ge 21, 3) := by decide +kernel
theorem dX10_save_13 : decode cX10_save 13 = .ok (.aload_n 0, 1) := by decide +kernel
theorem dX10_save_14 : decode cX10_save 14 = .ok (.getfield 16, 3) := by decide +kernel
theorem dX10_save_17 : decode cX10_save 17 = .ok (.iload_n 1, 1) := by decide +kernel
theorem dX10_save_18 : decode cX10_save 18 = .ok (.aload_n 0, 1) := by decide +kernel
theorem dX10_save_19 : decode cX10_save 19 = .ok (.getfield 9, 3) := by decide +kernel
theorem dX10_save_22 : decode cX10_save 22 = .ok (.iload_n 1, 1) := by decide +kernel
theorem dX10_save_23 : decode cX10_save 23 = .ok (.iaload, 1) := by decide +kernel
theorem dX10_save_24 : decode cX10_save 24 = .ok (.iastore, 1) := by decide +kernel
theorem dX10_save_25 : decode cX10_save 25 = .ok (.iinc 1 1, 3) := by decide +kernel
theorem dX10_save_28 : decode cX10_save 28 = .ok (.goto (-21), 3) := by decide +kernel
theorem dX10_save_31 : decode cX10_save 31 = .ok (.aload_n 0, 1) := by decide +kernel
theorem dX10_save_32 : decode cX10_save 32 = .ok (.iconst 1, 1) := by decide +kernel
theorem dX10_save_33 : decode cX10_save 33 = .ok (.putfield 265, 3) := by decide +kernel
theorem dX10_save_36 : decode cX10_save 36 = .ok (.aload_n 0, 1) := by decide +kernel
theorem dX10_save_37 : decode cX10_save 37 = .ok (.getfield 9, 3) := by decide +kernel
theorem dX10_save_40 : decode cX10_save 40 = .ok (.iconst 1, 1) := by decide +kernel
theorem dX10_save_41 : decode cX10_save 41 = .ok (.iaload, 1) := by decide +kernel
theorem dX10_save_42 : decode cX10_save 42 = .ok (.ireturn, 1) := by decide +kernel
theorem dX10_restore_0 : decode cX10_restore 0 = .ok (.aload_n 0, 1) := by decide +kernel
theorem dX10_restore_1 : decode cX10_restore 1 = .ok (.iconst 0, 1) := by decide +kernel
theorem dX10_restore_2 : decode cX10_restore 2 = .ok (.putfield 38, 3) := by decide +kernel
theorem dX10_restore_5 : decode cX10_restore 5 = .ok (.aload_n 0, 1) := by decide +kernel
theorem dX10_restore_6 : decode cX10_restore 6 = .ok (.getfield 265, 3) := by decide +kernel
theorem dX10_restore_9 : decode cX10_restore 9 = .ok (.ifCond .ne 9, 3) := by decide +kernel
theorem dX10_restore_12 : decode cX10_restore 12 = .ok (.aload_n 0, 1) := by decide +kernel
theorem dX10_restore_13 : decode cX10_restore 13 = .ok (.iconst 1, 1) := by decide +kernel
theorem dX10_restore_14 : decode cX10_restore 14 = .ok (.invokevirtual 50, 3) := by decide +kernel
theorem dX10_restore_17 : decode cX10_restore 17 = .ok (.ireturn, 1) := by decide +kernel
theorem dX10_restore_18 : decode cX10_restore 18 = .ok (.iconst 0, 1) := by decide +kernel
theorem dX10_restore_19 : decode cX10_restore 19 = .ok (.istore_n 1, 1) := by decide +kernel
theorem dX10_restore_20 : decode cX10_restore 20 = .ok (.iload_n 1, 1) := by decide +kernel
theorem dX10_restore_21 : decode cX10_restore 21 = .ok (.bipush 86, 2) := by decide +kernel
theorem dX10_restore_23 : decode cX10_restore 23 = .ok (.if_icmp .ge 21, 3) := by decide +kernel
theorem dX10_restore_26 : decode cX10_restore 26 = .ok (.aload_n 0, 1) := by decide +kernel
theorem dX10_restore_27 : decode cX10_restore 27 = .ok (.getfield 9, 3) := by decide +kernel
theorem dX10_restore_30 : decode cX10_restore 30 = .ok (.iload_n 1, 1) := by decide +kernel
theorem dX10_restore_31 : decode cX10_restore 31 = .ok (.aload_n 0, 1) := by decide +kernel
theorem dX10_restore_32 : decode cX10_restore 32 = .ok (.getfield 16, 3) := by decide +kernel
theorem dX10_restore_35 : decode cX10_restore 35 = .ok (.iload_n 1, 1) := by decide +kernel
theorem dX10_restore_36 : decode cX10_restore 36 = .ok (.iaload, 1) := by decide +kernel
theorem dX10_restore_37 : decode cX10_restore 37 = .ok (.iastore, 1) := by decide +kernel
theorem dX10_restore_38 : decode cX10_restore 38 = .ok (.iinc 1 1, 3) := by decide +kernel
theorem dX10_restore_41 : decode cX10_restore 41 = .ok (.goto (-21), 3) := by decide +kernel
theorem dX10_restore_44 : decode cX10_restore 44 = .ok (.aload_n 0, 1) := by decide +kernel
theorem dX10_restore_45 : decode cX10_restore 45 = .ok (.iconst 0, 1) := by decide +kernel
theorem dX10_restore_46 : decode cX10_restore 46 = .ok (.putfield 54, 3) := by decide +kernel
theorem dX10_restore_49 : decode cX10_restore 49 = .ok (.aload_n 0, 1) := by decide +kernel
theorem dX10_restore_50 : decode cX10_restore 50 = .ok (.getfield 9, 3) := by decide +kernel
theorem dX10_restore_53 : decode cX10_restore 53 = .ok (.iconst 1, 1) := by decide +kernel
theorem dX10_restore_54 : decode cX10_restore 54 = .ok (.iaload, 1) := by decide +kernel
theorem dX10_restore_55 : decode cX10_restore 55 = .ok (.ireturn, 1) := by decide +kernel
theorem dJ5_init_d00df_0 : decode cJ5_init_d00df 0 = .ok (.aload_n 0, 1) := by decide +kernel
theorem dJ5_init_d00df_1 : decode cJ5_init_d00df 1 = .ok (.invokespecial 3, 3) := by decide +kernel
theorem dJ5_init_d00df_4 : decode cJ5_init_d00df 4 = .ok (.getstatic 18, 3) := by decide +kernel
theorem dJ5_init_d00df_7 : decode cJ5_init_d00df 7 = .ok (.ifCond .eq 18, 3) := by decide +kernel
theorem dJ5_init_d00df_10 : decode cJ5_init_d00df 10 = .ok (.aload_n 0, 1) := by decide +kernel
theorem dJ5_init_d00df_11 : decode cJ5_init_d00df 11 = .ok (.iload_n 1, 1) := by decide +kernel
theorem dJ5_init_d00df_12 : decode cJ5_init_d00df 12 = .ok (.newarray .byte, 2) := by decide +kernel
theorem dJ5_init_d00df_14 : decode cJ5_init_d00df 14 = .ok (.putfield 15, 3) := by decide +kernel
theorem dJ5_init_d00df_17 : decode cJ5_init_d00df 17 = .ok (.aload_n 0, 1) := by decide +kernel
theorem dJ5_init_d00df_18 : decode cJ5_init_d00df 18 = .ok (.iconst 0, 1) := by decide +kernel
theorem dJ5_init_d00df_19 : decode cJ5_init_d00df 19 = .ok (.putfield 22, 3) := by decide +kernel
theorem dJ5_init_d00df_22 : decode cJ5_init_d00df 22 = .ok (.goto 16, 3) := by decide +kernel
theorem dJ5_init_d00df_25 : decode cJ5_init_d00df 25 = .ok (.aload_n 0, 1) := by decide +kernel
theorem dJ5_init_d00df_26 : decode cJ5_init_d00df 26 = .ok (.iload_n 1, 1) := by decide +kernel
theorem dJ5_init_d00df_27 : decode cJ5_init_d00df 27 = .ok (.invokestatic 26, 3) := by decide +kernel
theorem dJ5_init_d00df_30 : decode cJ5_init_d00df 30 = .ok (.putfield 15, 3) := by decide +kernel
theorem dJ5_init_d00df_33 : decode cJ5_init_d00df 33 = .ok (.aload_n 0, 1) := by decide +kernel
theorem dJ5_init_d00df_34 : decode cJ5_init_d00df 34 = .ok (.iconst 1, 1) := by decide +kernel
theorem dJ5_init_d00df_35 : decode cJ5_init_d00df 35 = .ok (.putfield 22, 3) := by decide +kernel
theorem dJ5_init_d00df_38 : decode cJ5_init_d00df 38 = .ok (.return_, 1) := by decide +kernel
theorem dJ5_length_8abf5_0 : decode cJ5_length_8abf5 0 = .ok (.aload_n 0, 1) := by decide +kernel
theorem dJ5_length_8abf5_1 : decode cJ5_length_8abf5 1 = .ok (.getfield 79, 3) := by decide +kernel
theorem dJ5_length_8abf5_4 : decode cJ5_length_8abf5 4 = .ok (.ireturn, 1) := by decide +kernel
theorem dJ5_ensureCapacityInternal_d00df_0 : decode cJ5_ensureCapacityInternal_d00df 0 = .ok (.aload_n 0, 1) := by decide +kernel
theorem dJ5_ensureCapacityInternal_d00df_1 : decode cJ5_ensureCapacityInternal_d00df 1 = .ok (.getfield 15, 3) := by decide +kernel
theorem dJ5_ensureCapacityInternal_d00df_4 : decode cJ5_ensureCapacityInternal_d00df 4 = .ok (.arraylength, 1) := by decide +kernel
theorem dJ5_ensureCapacityInternal_d00df_5 : decode cJ5_ensureCapacityInternal_d00df 5 = .ok (.aload_n 0, 1) := by decide +kernel
theorem dJ5_ensureCapacityInternal_d00df_6 : decode cJ5_ensureCapacityInternal_d00df 6 = .ok (.getfield 22, 3) := by decide +kernel
theorem dJ5_ensureCapacityInternal_d00df_9 : decode cJ5_ensureCapacityInternal_d00df 9 = .ok (.ishr, 1) := by decide +kernel
theorem dJ5_ensureCapacityInternal_d00df_10 : decode cJ5_ensureCapacityInternal_d00df 10 = .ok (.istore_n 2, 1) := by decide +kernel
theorem dJ5_ensureCapacityInternal_d00df_11 : decode cJ5_ensureCapacityInternal_d00df 11 = .ok (.iload_n 1, 1) := by decide +kernel
theorem dJ5_ensureCapacityInternal_d00df_12 : decode cJ5_ensureCapacityInternal_d00df 12 = .ok (.iload_n 2, 1) := by decide +kernel
theorem dJ5_ensureCapacityInternal_d00df_13 : decode cJ5_ensureCapacityInternal_d00df 13 = .ok (.isub, 1) := by decide +kernel
theorem dJ5_ensureCapacityInternal_d00df_14 : decode cJ5_ensureCapacityInternal_d00df 14 = .ok (.ifCond .le 24, 3) := by decide +kernel
theorem dJ5_ensureCapacityInternal_d00df_38 : decode cJ5_ensureCapacityInternal_d00df 38 = .ok (.return_, 1) := by decide +kernel
theorem dJ5_setLength_d00df_0 : decode cJ5_setLength_d00df 0 = .ok (.iload_n 1, 1) := by decide +kernel
theorem dJ5_setLength_d00df_1 : decode cJ5_setLength_d00df 1 = .ok (.ifCond .ge 12, 3) := by decide +kernel
theorem dJ5_setLength_d00df_13 : decode cJ5_setLength_d00df 13 = .ok (.aload_n 0, 1) := by decide +kernel
theorem dJ5_setLength_d00df_14 : decode cJ5_setLength_d00df 14 = .ok (.iload_n 1, 1) := by decide +kernel
theorem dJ5_setLength_d00df_15 : decode cJ5_setLength_d00df 15 = .ok (.invokevirtual 100, 3) := by decide +kernel
theorem dJ5_setLength_d00df_18 : decode cJ5_setLength_d00df 18 = .ok (.aload_n 0, 1) := by decide +kernel
theorem dJ5_setLength_d00df_19 : decode cJ5_setLength_d00df 19 = .ok (.getfield 79, 3) := by decide +kernel
theorem dJ5_setLength_d00df_22 : decode cJ5_setLength_d00df 22 = .ok (.iload_n 1, 1) := by decide +kernel
theorem dJ5_setLength_d00df_23 : decode cJ5_setLength_d00df 23 = .ok (.if_icmp .ge 40, 3) := by decide +kernel
theorem dJ5_setLength_d00df_63 : decode cJ5_setLength_d00df 63 = .ok (.aload_n 0, 1) := by decide +kernel
theorem dJ5_setLength_d00df_64 : decode cJ5_setLength_d00df 64 = .ok (.getfield 79, 3) := by decide +kernel
theorem dJ5_setLength_d00df_67 : decode cJ5_setLength_d00df 67 = .ok (.iload_n 1, 1) := by decide +kernel
theorem dJ5_setLength_d00df_68 : decode cJ5_setLength_d00df 68 = .ok (.if_icmp .le 8, 3) := by decide +kernel
theorem dJ5_setLength_d00df_71 : decode cJ5_setLength_d00df 71 = .ok (.aload_n 0, 1) := by decide +kernel
theorem dJ5_setLength_d00df_72 : decode cJ5_setLength_d00df 72 = .ok (.iconst 1, 1) := by decide +kernel
theorem dJ5_setLength_d00df_73 : decode cJ5_setLength_d00df 73 = .ok (.putfield 73, 3) := by decide +kernel
theorem dJ5_setLength_d00df_76 : decode cJ5_setLength_d00df 76 = .ok (.aload_n 0, 1) := by decide +kernel
theorem dJ5_setLength_d00df_77 : decode cJ5_setLength_d00df 77 = .ok (.iload_n 1, 1) := by decide +kernel
theorem dJ5_setLength_d00df_78 : decode cJ5_setLength_d00df 78 = .ok (.putfield 79, 3) := by decide +kernel
theorem dJ5_setLength_d00df_81 : decode cJ5_setLength_d00df 81 = .ok (.return_, 1) := by decide +kernel
theorem dJ5_charAt_5068e_0 : decode cJ5_charAt_5068e 0 = .ok (.aload_n 0, 1) := by decide +kernel
theorem dJ5_charAt_5068e_1 : decode cJ5_charAt_5068e 1 = .ok (.getfield 22, 3) := by decide +kernel
theorem dJ5_charAt_5068e_4 : decode cJ5_charAt_5068e 4 = .ok (.istore_n 2, 1) := by decide +kernel
theorem dJ5_charAt_5068e_5 : decode cJ5_charAt_5068e 5 = .ok (.aload_n 0, 1) := by decide +kernel
theorem dJ5_charAt_5068e_6 : decode cJ5_charAt_5068e 6 = .ok (.getfield 15, 3) := by decide +kernel
theorem dJ5_charAt_5068e_9 : decode cJ5_charAt_5068e 9 = .ok (.astore_n 3, 1) := by decide +kernel
theorem dJ5_charAt_5068e_10 : decode cJ5_charAt_5068e 10 = .ok (.aload_n 0, 1) := by decide +kernel
theorem dJ5_charAt_5068e_11 : decode cJ5_charAt_5068e 11 = .ok (.getfield 79, 3) := by decide +kernel
theorem dJ5_charAt_5068e_14 : decode cJ5_charAt_5068e 14 = .ok (.aload_n 3, 1) := by decide +kernel
theorem dJ5_charAt_5068e_15 : decode cJ5_charAt_5068e 15 = .ok (.arraylength, 1) := by decide +kernel
theorem dJ5_charAt_5068e_16 : decode cJ5_charAt_5068e 16 = .ok (.iload_n 2, 1) := by decide +kernel
theorem dJ5_charAt_5068e_17 : decode cJ5_charAt_5068e 17 = .ok (.ishr, 1) := by decide +kernel
theorem dJ5_charAt_5068e_18 : decode cJ5_charAt_5068e 18 = .ok (.invokestatic 138, 3) := by decide +kernel
theorem dJ5_charAt_5068e_21 : decode cJ5_charAt_5068e 21 = .ok (.istore 4, 2) := by decide +kernel
theorem dJ5_charAt_5068e_23 : decode cJ5_charAt_5068e 23 = .ok (.iload_n 1, 1) := by decide +kernel
theorem dJ5_charAt_5068e_24 : decode cJ5_charAt_5068e 24 = .ok (.iload 4, 2) := by decide +kernel
theorem dJ5_charAt_5068e_26 : decode cJ5_charAt_5068e 26 = .ok (.invokestatic 144, 3) := by decide +kernel
theorem dJ5_charAt_5068e_29 : decode cJ5_charAt_5068e 29 = .ok (.iload_n 2, 1) := by decide +kernel
theorem dJ5_charAt_5068e_30 : decode cJ5_charAt_5068e 30 = .ok (.ifCond .ne 12, 3) := by decide +kernel
theorem dJ5_charAt_5068e_33 : decode cJ5_charAt_5068e 33 = .ok (.aload_n 3, 1) := by decide +kernel
theorem dJ5_charAt_5068e_34 : decode cJ5_charAt_5068e 34 = .ok (.iload_n 1, 1) := by decide +kernel
theorem dJ5_charAt_5068e_35 : decode cJ5_charAt_5068e 35 = .ok (.baload, 1) := by decide +kernel
theorem dJ5_charAt_5068e_36 : decode cJ5_charAt_5068e 36 = .ok (.sipush 255, 3) := by decide +kernel
theorem dJ5_charAt_5068e_39 : decode cJ5_charAt_5068e 39 = .ok (.iand, 1) := by decide +kernel
theorem dJ5_charAt_5068e_40 : decode cJ5_charAt_5068e 40 = .ok (.i2c, 1) := by decide +kernel
theorem dJ5_charAt_5068e_41 : decode cJ5_charAt_5068e 41 = .ok (.ireturn, 1) := by decide +kernel
theorem dJ5_append_cf1ce_0 : decode cJ5_append_cf1ce 0 = .ok (.aload_n 1, 1) := by decide +kernel
theorem dJ5_append_cf1ce_1 : decode cJ5_append_cf1ce 1 = .ok (.ifnonnull 8, 3) := by decide +kernel
theorem dJ5_append_cf1ce_9 : decode cJ5_append_cf1ce 9 = .ok (.aload_n 1, 1) := by decide +kernel
theorem dJ5_append_cf1ce_10 : decode cJ5_append_cf1ce 10 = .ok (.invokevirtual 32, 3) := by decide +kernel
theorem dJ5_append_cf1ce_13 : decode cJ5_append_cf1ce 13 = .ok (.istore_n 2, 1) := by decide +kernel
theorem dJ5_append_cf1ce_14 : decode cJ5_append_cf1ce 14 = .ok (.aload_n 0, 1) := by decide +kernel
theorem dJ5_append_cf1ce_15 : decode cJ5_append_cf1ce 15 = .ok (.aload_n 0, 1) := by decide +kernel
theorem dJ5_append_cf1ce_16 : decode cJ5_append_cf1ce 16 = .ok (.getfield 79, 3) := by decide +kernel
theorem dJ5_append_cf1ce_19 : decode cJ5_append_cf1ce 19 = .ok (.iload_n 2, 1) := by decide +kernel
theorem dJ5_append_cf1ce_20 : decode cJ5_append_cf1ce 20 = .ok (.iadd, 1) := by decide +kernel
theorem dJ5_append_cf1ce_21 : decode cJ5_append_cf1ce 21 = .ok (.invokevirtual 100, 3) := by decide +kernel
theorem dJ5_append_cf1ce_24 : decode cJ5_append_cf1ce 24 = .ok (.aload_n 0, 1) := by decide +kernel
theorem dJ5_append_cf1ce_25 : decode cJ5_append_cf1ce 25 = .ok (.aload_n 0, 1) := by decide +kernel
theorem dJ5_append_cf1ce_26 : decode cJ5_append_cf1ce 26 = .ok (.getfield 79, 3) := by decide +kernel
theorem dJ5_append_cf1ce_29 : decode cJ5_append_cf1ce 29 = .ok (.aload_n 1, 1) := by decide +kernel
theorem dJ5_append_cf1ce_30 : decode cJ5_append_cf1ce 30 = .ok (.invokevirtual 208, 3) := by decide +kernel
theorem dJ5_append_cf1ce_33 : decode cJ5_append_cf1ce 33 = .ok (.aload_n 0, 1) := by decide +kernel
theorem dJ5_append_cf1ce_34 : decode cJ5_append_cf1ce 34 = .ok (.dup, 1) := by decide +kernel
theorem dJ5_append_cf1ce_35 : decode cJ5_append_cf1ce 35 = .ok (.getfield 79, 3) := by decide +kernel
theorem dJ5_append_cf1ce_38 : decode cJ5_append_cf1ce 38 = .ok (.iload_n 2, 1) := by decide +kernel
theorem dJ5_append_cf1ce_39 : decode cJ5_append_cf1ce 39 = .ok (.iadd, 1) := by decide +kernel
theorem dJ5_append_cf1ce_40 : decode cJ5_append_cf1ce 40 = .ok (.putfield 79, 3) := by decide +kernel
theorem dJ5_append_cf1ce_43 : decode cJ5_append_cf1ce 43 = .ok (.aload_n 0, 1) := by decide +kernel
theorem dJ5_append_cf1ce_44 : decode cJ5_append_cf1ce 44 = .ok (.areturn, 1) := by decide +kernel
theorem dJ5_append_3fe6f_0 : decode cJ5_append_3fe6f 0 = .ok (.aload_n 0, 1) := by decide +kernel
theorem dJ5_append_3fe6f_1 : decode cJ5_append_3fe6f 1 = .ok (.aload_n 0, 1) := by decide +kernel
theorem dJ5_append_3fe6f_2 : decode cJ5_append_3fe6f 2 = .ok (.getfield 79, 3) := by decide +kernel
theorem dJ5_append_3fe6f_5 : decode cJ5_append_3fe6f 5 = .ok (.iconst 1, 1) := by decide +kernel
theorem dJ5_append_3fe6f_6 : decode cJ5_append_3fe6f 6 = .ok (.iadd, 1) := by decide +kernel
theorem dJ5_append_3fe6f_7 : decode cJ5_append_3fe6f 7 = .ok (.invokevirtual 100, 3) := by decide +kernel
theorem dJ5_append_3fe6f_10 : decode cJ5_append_3fe6f 10 = .ok (.aload_n 0, 1) := by decide +kernel
theorem dJ5_append_3fe6f_11 : decode cJ5_append_3fe6f 11 = .ok (.invokevirtual 83, 3) := by decide +kernel
theorem dJ5_append_3fe6f_14 : decode cJ5_append_3fe6f 14 = .ok (.ifCond .eq 31, 3) := by decide +kernel
theorem dJ5_append_3fe6f_17 : decode cJ5_append_3fe6f 17 = .ok (.iload_n 1, 1) := by decide +kernel
theorem dJ5_append_3fe6f_18 : decode cJ5_append_3fe6f 18 = .ok (.invokestatic 191, 3) := by decide +kernel
theorem dJ5_append_3fe6f_21 : decode cJ5_append_3fe6f 21 = .ok (.ifCond .eq 24, 3) := by decide +kernel
theorem dJ5_append_3fe6f_24 : decode cJ5_append_3fe6f 24 = .ok (.aload_n 0, 1) := by decide +kernel
theorem dJ5_append_3fe6f_25 : decode cJ5_append_3fe6f 25 = .ok (.getfield 15, 3) := by decide +kernel
theorem dJ5_append_3fe6f_28 : decode cJ5_append_3fe6f 28 = .ok (.aload_n 0, 1) := by decide +kernel
theorem dJ5_append_3fe6f_29 : decode cJ5_append_3fe6f 29 = .ok (.dup, 1) := by decide +kernel
theorem dJ5_append_3fe6f_30 : decode cJ5_append_3fe6f 30 = .ok (.getfield 79, 3) := by decide +kernel
theorem dJ5_append_3fe6f_33 : decode cJ5_append_3fe6f 33 = .ok (.dup_x1, 1) := by decide +kernel
theorem dJ5_append_3fe6f_34 : decode cJ5_append_3fe6f 34 = .ok (.iconst 1, 1) := by decide +kernel
theorem dJ5_append_3fe6f_35 : decode cJ5_append_3fe6f 35 = .ok (.iadd, 1) := by decide +kernel
theorem dJ5_append_3fe6f_36 : decode cJ5_append_3fe6f 36 = .ok (.putfield 79, 3) := by decide +kernel
theorem dJ5_append_3fe6f_39 : decode cJ5_append_3fe6f 39 = .ok (.iload_n 1, 1) := by decide +kernel
theorem dJ5_append_3fe6f_40 : decode cJ5_append_3fe6f 40 = .ok (.i2b, 1) := by decide +kernel
theorem dJ5_append_3fe6f_41 : decode cJ5_append_3fe6f 41 = .ok (.bastore, 1) := by decide +kernel
theorem dJ5_append_3fe6f_42 : decode cJ5_append_3fe6f 42 = .ok (.goto 33, 3) := by decide +kernel
theorem dJ5_append_3fe6f_75 : decode cJ5_append_3fe6f 75 = .ok (.aload_n 0, 1) := by decide +kernel
theorem dJ5_append_3fe6f_76 : decode cJ5_append_3fe6f 76 = .ok (.areturn, 1) := by decide +kernel
theorem dJ5_append_c97b9_0 : decode cJ5_append_c97b9 0 = .ok (.aload_n 0, 1) := by decide +kernel
theorem dJ5_append_c97b9_1 : decode cJ5_append_c97b9 1 = .ok (.getfield 79, 3) := by decide +kernel
theorem dJ5_append_c97b9_4 : decode cJ5_append_c97b9 4 = .ok (.istore_n 2, 1) := by decide +kernel
theorem dJ5_append_c97b9_5 : decode cJ5_append_c97b9 5 = .ok (.iload_n 2, 1) := by decide +kernel
theorem dJ5_append_c97b9_6 : decode cJ5_append_c97b9 6 = .ok (.iload_n 1, 1) := by decide +kernel
theorem dJ5_append_c97b9_7 : decode cJ5_append_c97b9 7 = .ok (.invokestatic 245, 3) := by decide +kernel
theorem dJ5_append_c97b9_10 : decode cJ5_append_c97b9 10 = .ok (.iadd, 1) := by decide +kernel
theorem dJ5_append_c97b9_11 : decode cJ5_append_c97b9 11 = .ok (.istore_n 3, 1) := by decide +kernel
theorem dJ5_append_c97b9_12 : decode cJ5_append_c97b9 12 = .ok (.aload_n 0, 1) := by decide +kernel
theorem dJ5_append_c97b9_13 : decode cJ5_append_c97b9 13 = .ok (.iload_n 3, 1) := by decide +kernel
theorem dJ5_append_c97b9_14 : decode cJ5_append_c97b9 14 = .ok (.invokevirtual 100, 3) := by decide +kernel
theorem dJ5_append_c97b9_17 : decode cJ5_append_c97b9 17 = .ok (.aload_n 0, 1) := by decide +kernel
theorem dJ5_append_c97b9_18 : decode cJ5_append_c97b9 18 = .ok (.invokevirtual 83, 3) := by decide +kernel
theorem dJ5_append_c97b9_21 : decode cJ5_append_c97b9 21 = .ok (.ifCond .eq 16, 3) := by decide +kernel
theorem dJ5_append_c97b9_24 : decode cJ5_append_c97b9 24 = .ok (.iload_n 1, 1) := by decide +kernel
theorem dJ5_append_c97b9_25 : decode cJ5_append_c97b9 25 = .ok (.iload_n 3, 1) := by decide +kernel
theorem dJ5_append_c97b9_26 : decode cJ5_append_c97b9 26 = .ok (.aload_n 0, 1) := by decide +kernel
theorem dJ5_append_c97b9_27 : decode cJ5_append_c97b9 27 = .ok (.getfield 15, 3) := by decide +kernel
theorem dJ5_append_c97b9_30 : decode cJ5_append_c97b9 30 = .ok (.invokestatic 248, 3) := by decide +kernel
theorem dJ5_append_c97b9_33 : decode cJ5_append_c97b9 33 = .ok (.pop, 1) := by decide +kernel
theorem dJ5_append_c97b9_34 : decode cJ5_append_c97b9 34 = .ok (.goto 14, 3) := by decide +kernel
theorem dJ5_append_c97b9_48 : decode cJ5_append_c97b9 48 = .ok (.aload_n 0, 1) := by decide +kernel
theorem dJ5_append_c97b9_49 : decode cJ5_append_c97b9 49 = .ok (.iload_n 3, 1) := by decide +kernel
theorem dJ5_append_c97b9_50 : decode cJ5_append_c97b9 50 = .ok (.putfield 79, 3) := by decide +kernel
theorem dJ5_append_c97b9_53 : decode cJ5_append_c97b9 53 = .ok (.aload_n 0, 1) := by decide +kernel
theorem dJ5_append_c97b9_54 : decode cJ5_append_c97b9 54 = .ok (.areturn, 1) := by decide +kernel
theorem dJ5_isLatin1_aae02_0 : decode cJ5_isLatin1_aae02 0 = .ok (.getstatic 18, 3) := by decide +kernel
theorem dJ5_isLatin1_aae02_3 : decode cJ5_isLatin1_aae02 3 = .ok (.ifCond .eq 14, 3) := by decide +kernel
theorem dJ5_isLatin1_aae02_6 : decode cJ5_isLatin1_aae02 6 = .ok (.aload_n 0, 1) := by decide +kernel
theorem dJ5_isLatin1_aae02_7 : decode cJ5_isLatin1_aae02 7 = .ok (.getfield 22, 3) := by decide +kernel
theorem dJ5_isLatin1_aae02_10 : decode cJ5_isLatin1_aae02 10 = .ok (.ifCond .ne 7, 3) := by decide +kernel
theorem dJ5_isLatin1_aae02_13 : decode cJ5_isLatin1_aae02 13 = .ok (.iconst 1, 1) := by decide +kernel
theorem dJ5_isLatin1_aae02_14 : decode cJ5_isLatin1_aae02 14 = .ok (.goto 4, 3) := by decide +kernel
theorem dJ5_isLatin1_aae02_17 : decode cJ5_isLatin1_aae02 17 = .ok (.iconst 0, 1) := by decide +kernel
theorem dJ5_isLatin1_aae02_18 : decode cJ5_isLatin1_aae02 18 = .ok (.ireturn, 1) := by decide +kernel
theorem dJ5_inflateIfNeededFor_a7421_0 : decode cJ5_inflateIfNeededFor_a7421 0 = .ok (.getstatic 18, 3) := by decide +kernel
theorem dJ5_inflateIfNeededFor_a7421_3 : decode cJ5_inflateIfNeededFor_a7421 3 = .ok (.ifCond .eq 18, 3) := by decide +kernel
theorem dJ5_inflateIfNeededFor_a7421_6 : decode cJ5_inflateIfNeededFor_a7421 6 = .ok (.aload_n 0, 1) := by decide +kernel
theorem dJ5_inflateIfNeededFor_a7421_7 : decode cJ5_inflateIfNeededFor_a7421 7 = .ok (.getfield 22, 3) := by decide +kernel
theorem dJ5_inflateIfNeededFor_a7421_10 : decode cJ5_inflateIfNeededFor_a7421 10 = .ok (.aload_n 1, 1) := by decide +kernel
theorem dJ5_inflateIfNeededFor_a7421_11 : decode cJ5_inflateIfNeededFor_a7421 11 = .ok (.invokevirtual 40, 3) := by decide +kernel
theorem dJ5_inflateIfNeededFor_a7421_14 : decode cJ5_inflateIfNeededFor_a7421 14 = .ok (.if_icmp .eq 7, 3) := by decide +kernel
theorem dJ5_inflateIfNeededFor_a7421_21 : decode cJ5_inflateIfNeededFor_a7421 21 = .ok (.return_, 1) := by decide +kernel
theorem dJ5_putStringAt_47b60_0 : decode cJ5_putStringAt_47b60 0 = .ok (.aload_n 0, 1) := by decide +kernel
theorem dJ5_putStringAt_47b60_1 : decode cJ5_putStringAt_47b60 1 = .ok (.aload_n 2, 1) := by decide +kernel
theorem dJ5_putStringAt_47b60_2 : decode cJ5_putStringAt_47b60 2 = .ok (.invokevirtual 397, 3) := by decide +kernel
theorem dJ5_putStringAt_47b60_5 : decode cJ5_putStringAt_47b60 5 = .ok (.aload_n 2, 1) := by decide +kernel
theorem dJ5_putStringAt_47b60_6 : decode cJ5_putStringAt_47b60 6 = .ok (.aload_n 0, 1) := by decide +kernel
theorem dJ5_putStringAt_47b60_7 : decode cJ5_putStringAt_47b60 7 = .ok (.getfield 15, 3) := by decide +kernel
theorem dJ5_putStringAt_47b60_10 : decode cJ5_putStringAt_47b60 10 = .ok (.iload_n 1, 1) := by decide +kernel
theorem dJ5_putStringAt_47b60_11 : decode cJ5_putStringAt_47b60 11 = .ok (.aload_n 0, 1) := by decide +kernel
theorem dJ5_putStringAt_47b60_12 : decode cJ5_putStringAt_47b60 12 = .ok (.getfield 22, 3) := by decide +kernel
theorem dJ5_putStringAt_47b60_15 : decode cJ5_putStringAt_47b60 15 = .ok (.invokevirtual 399, 3) := by decide +kernel
theorem dJ5_putStringAt_47b60_18 : decode cJ5_putStringAt_47b60 18 = .ok (.return_, 1) := by decide +kernel
theorem dJx00060_init_a7421_0 : decode cJx00060_init_a7421 0 = .ok (.aload_n 0, 1) := by decide +kernel
theorem dJx00060_init_a7421_1 : decode cJx00060_init_a7421 1 = .ok (.aload_n 1, 1) := by decide +kernel
theorem dJx00060_init_a7421_2 : decode cJx00060_init_a7421 2 = .ok (.invokespecial 7, 3) := by decide +kernel
theorem dJx00060_init_a7421_5 : decode cJx00060_init_a7421 5 = .ok (.return_, 1) := by decide +kernel
theorem dJx00060_init_d00df_0 : decode cJx00060_init_d00df 0 = .ok (.aload_n 0, 1) := by decide +kernel
theorem dJx00060_init_d00df_1 : decode cJx00060_init_d00df 1 = .ok (.new 10, 3) := by decide +kernel
theorem dJx00060_init_d00df_4 : decode cJx00060_init_d00df 4 = .ok (.dup, 1) := by decide +kernel
theorem dJx00060_init_d00df_5 : decode cJx00060_init_d00df 5 = .ok (.invokespecial 12, 3) := by decide +kernel
theorem dJx00060_init_d00df_8 : decode cJx00060_init_d00df 8 = .ok (.ldc 13, 2) := by decide +kernel
theorem dJx00060_init_d00df_10 : decode cJx00060_init_d00df 10 = .ok (.invokevirtual 15, 3) := by decide +kernel
theorem dJx00060_init_d00df_13 : decode cJx00060_init_d00df 13 = .ok (.iload_n 1, 1) := by decide +kernel
theorem dJx00060_init_d00df_14 : decode cJx00060_init_d00df 14 = .ok (.invokevirtual 19, 3) := by decide +kernel
theorem dJx00060_init_d00df_17 : decode cJx00060_init_d00df 17 = .ok (.invokevirtual 22, 3) := by decide +kernel
theorem dJx00060_init_d00df_20 : decode cJx00060_init_d00df 20 = .ok (.invokespecial 7, 3) := by decide +kernel
theorem dJx00060_init_d00df_23 : decode cJx00060_init_d00df 23 = .ok (.return_, 1) := by decide +kernel
theorem dJ6_getChars_ba4f3_0 : decode cJ6_getChars_ba4f3 0 = .ok (.iload_n 1, 1) := by decide +kernel
theorem dJ6_getChars_ba4f3_1 : decode cJ6_getChars_ba4f3 1 = .ok (.istore 5, 2) := by decide +kernel
theorem dJ6_getChars_ba4f3_3 : decode cJ6_getChars_ba4f3 3 = .ok (.iload_n 0, 1) := by decide +kernel
theorem dJ6_getChars_ba4f3_4 : decode cJ6_getChars_ba4f3 4 = .ok (.ifCond .ge 7, 3) := by decide +kernel
theorem dJ6_getChars_ba4f3_7 : decode cJ6_getChars_ba4f3 7 = .ok (.iconst 1, 1) := by decide +kernel
theorem dJ6_getChars_ba4f3_8 : decode cJ6_getChars_ba4f3 8 = .ok (.goto 4, 3) := by decide +kernel
theorem dJ6_getChars_ba4f3_11 : decode cJ6_getChars_ba4f3 11 = .ok (.iconst 0, 1) := by decide +kernel
theorem dJ6_getChars_ba4f3_12 : decode cJ6_getChars_ba4f3 12 = .ok (.istore 6, 2) := by decide +kernel
theorem dJ6_getChars_ba4f3_14 : decode cJ6_getChars_ba4f3 14 = .ok (.iload 6, 2) := by decide +kernel
theorem dJ6_getChars_ba4f3_16 : decode cJ6_getChars_ba4f3 16 = .ok (.ifCond .ne 6, 3) := by decide +kernel
theorem dJ6_getChars_ba4f3_19 : decode cJ6_getChars_ba4f3 19 = .ok (.iload_n 0, 1) := by decide +kernel
theorem dJ6_getChars_ba4f3_20 : decode cJ6_getChars_ba4f3 20 = .ok (.ineg, 1) := by decide +kernel
theorem dJ6_getChars_ba4f3_21 : decode cJ6_getChars_ba4f3 21 = .ok (.istore_n 0, 1) := by decide +kernel
theorem dJ6_getChars_ba4f3_22 : decode cJ6_getChars_ba4f3 22 = .ok (.iload_n 0, 1) := by decide +kernel
theorem dJ6_getChars_ba4f3_23 : decode cJ6_getChars_ba4f3 23 = .ok (.bipush (-100), 2) := by decide +kernel
theorem dJ6_getChars_ba4f3_25 : decode cJ6_getChars_ba4f3 25 = .ok (.if_icmp .gt 47, 3) := by decide +kernel
theorem dJ6_getChars_ba4f3_28 : decode cJ6_getChars_ba4f3 28 = .ok (.iload_n 0, 1) := by decide +kernel
theorem dJ6_getChars_ba4f3_29 : decode cJ6_getChars_ba4f3 29 = .ok (.bipush 100, 2) := by decide +kernel
theorem dJ6_getChars_ba4f3_31 : decode cJ6_getChars_ba4f3 31 = .ok (.idiv, 1) := by decide +kernel
theorem dJ6_getChars_ba4f3_32 : decode cJ6_getChars_ba4f3 32 = .ok (.istore_n 3, 1) := by decide +kernel
theorem dJ6_getChars_ba4f3_33 : decode cJ6_getChars_ba4f3 33 = .ok (.iload_n 3, 1) := by decide +kernel
theorem dJ6_getChars_ba4f3_34 : decode cJ6_getChars_ba4f3 34 = .ok (.bipush 100, 2) := by decide +kernel
theorem dJ6_getChars_ba4f3_36 : decode cJ6_getChars_ba4f3 36 = .ok (.imul, 1) := by decide +kernel
theorem dJ6_getChars_ba4f3_37 : decode cJ6_getChars_ba4f3 37 = .ok (.iload_n 0, 1) := by decide +kernel
theorem dJ6_getChars_ba4f3_38 : decode cJ6_getChars_ba4f3 38 = .ok (.isub, 1) := by decide +kernel
theorem dJ6_getChars_ba4f3_39 : decode cJ6_getChars_ba4f3 39 = .ok (.istore 4, 2) := by decide +kernel
theorem dJ6_getChars_ba4f3_41 : decode cJ6_getChars_ba4f3 41 = .ok (.iload_n 3, 1) := by decide +kernel
theorem dJ6_getChars_ba4f3_42 : decode cJ6_getChars_ba4f3 42 = .ok (.istore_n 0, 1) := by decide +kernel
theorem dJ6_getChars_ba4f3_43 : decode cJ6_getChars_ba4f3 43 = .ok (.aload_n 2, 1) := by decide +kernel
theorem dJ6_getChars_ba4f3_44 : decode cJ6_getChars_ba4f3 44 = .ok (.iinc 5 (-1), 3) := by decide +kernel
theorem dJ6_getChars_ba4f3_47 : decode cJ6_getChars_ba4f3 47 = .ok (.iload 5, 2) := by decide +kernel
theorem dJ6_getChars_ba4f3_49 : decode cJ6_getChars_ba4f3 49 = .ok (.getstatic 83, 3) := by decide +kernel
theorem dJ6_getChars_ba4f3_52 : decode cJ6_getChars_ba4f3 52 = .ok (.iload 4, 2) := by decide +kernel
theorem dJ6_getChars_ba4f3_54 : decode cJ6_getChars_ba4f3 54 = .ok (.baload, 1) := by decide +kernel
theorem dJ6_getChars_ba4f3_55 : decode cJ6_getChars_ba4f3 55 = .ok (.bastore, 1) := by decide +kernel
theorem dJ6_getChars_ba4f3_56 : decode cJ6_getChars_ba4f3 56 = .ok (.aload_n 2, 1) := by decide +kernel
theorem dJ6_getChars_ba4f3_57 : decode cJ6_getChars_ba4f3 57 = .ok (.iinc 5 (-1), 3) := by decide +kernel
theorem dJ6_getChars_ba4f3_60 : decode cJ6_getChars_ba4f3 60 = .ok (.iload 5, 2) := by decide +kernel
theorem dJ6_getChars_ba4f3_62 : decode cJ6_getChars_ba4f3 62 = .ok (.getstatic 87, 3) := by decide +kernel
theorem dJ6_getChars_ba4f3_65 : decode cJ6_getChars_ba4f3 65 = .ok (.iload 4, 2) := by decide +kernel
theorem dJ6_getChars_ba4f3_67 : decode cJ6_getChars_ba4f3 67 = .ok (.baload, 1) := by decide +kernel
theorem dJ6_getChars_ba4f3_68 : decode cJ6_getChars_ba4f3 68 = .ok (.bastore, 1) := by decide +kernel
theorem dJ6_getChars_ba4f3_69 : decode cJ6_getChars_ba4f3 69 = .ok (.goto (-47), 3) := by decide +kernel
theorem dJ6_getChars_ba4f3_72 : decode cJ6_getChars_ba4f3 72 = .ok (.aload_n 2, 1) := by decide +kernel
theorem dJ6_getChars_ba4f3_73 : decode cJ6_getChars_ba4f3 73 = .ok (.iinc 5 (-1), 3) := by decide +kernel
theorem dJ6_getChars_ba4f3_76 : decode cJ6_getChars_ba4f3 76 = .ok (.iload 5, 2) := by decide +kernel
theorem dJ6_getChars_ba4f3_78 : decode cJ6_getChars_ba4f3 78 = .ok (.getstatic 83, 3) := by decide +kernel
theorem dJ6_getChars_ba4f3_81 : decode cJ6_getChars_ba4f3 81 = .ok (.iload_n 0, 1) := by decide +kernel
theorem dJ6_getChars_ba4f3_82 : decode cJ6_getChars_ba4f3 82 = .ok (.ineg, 1) := by decide +kernel
theorem dJ6_getChars_ba4f3_83 : decode cJ6_getChars_ba4f3 83 = .ok (.baload, 1) := by decide +kernel
theorem dJ6_getChars_ba4f3_84 : decode cJ6_getChars_ba4f3 84 = .ok (.bastore, 1) := by decide +kernel
theorem dJ6_getChars_ba4f3_85 : decode cJ6_getChars_ba4f3 85 = .ok (.iload_n 0, 1) := by decide +kernel
theorem dJ6_getChars_ba4f3_86 : decode cJ6_getChars_ba4f3 86 = .ok (.bipush (-9), 2) := by decide +kernel
theorem dJ6_getChars_ba4f3_88 : decode cJ6_getChars_ba4f3 88 = .ok (.if_icmp .ge 16, 3) := by decide +kernel
theorem dJ6_getChars_ba4f3_91 : decode cJ6_getChars_ba4f3 91 = .ok (.aload_n 2, 1) := by decide +kernel
theorem dJ6_getChars_ba4f3_92 : decode cJ6_getChars_ba4f3 92 = .ok (.iinc 5 (-1), 3) := by decide +kernel
theorem dJ6_getChars_ba4f3_95 : decode cJ6_getChars_ba4f3 95 = .ok (.iload 5, 2) := by decide +kernel
theorem dJ6_getChars_ba4f3_97 : decode cJ6_getChars_ba4f3 97 = .ok (.getstatic 87, 3) := by decide +kernel
theorem dJ6_getChars_ba4f3_100 : decode cJ6_getChars_ba4f3 100 = .ok (.iload_n 0, 1) := by decide +kernel
theorem dJ6_getChars_ba4f3_101 : decode cJ6_getChars_ba4f3 101 = .ok (.ineg, 1) := by decide +kernel
theorem dJ6_getChars_ba4f3_102 : decode cJ6_getChars_ba4f3 102 = .ok (.baload, 1) := by decide +kernel
theorem dJ6_getChars_ba4f3_103 : decode cJ6_getChars_ba4f3 103 = .ok (.bastore, 1) := by decide +kernel
theorem dJ6_getChars_ba4f3_104 : decode cJ6_getChars_ba4f3 104 = .ok (.iload 6, 2) := by decide +kernel
theorem dJ6_getChars_ba4f3_106 : decode cJ6_getChars_ba4f3 106 = .ok (.ifCond .eq 12, 3) := by decide +kernel
theorem dJ6_getChars_ba4f3_109 : decode cJ6_getChars_ba4f3 109 = .ok (.aload_n 2, 1) := by decide +kernel
theorem dJ6_getChars_ba4f3_110 : decode cJ6_getChars_ba4f3 110 = .ok (.iinc 5 (-1), 3) := by decide +kernel
theorem dJ6_getChars_ba4f3_113 : decode cJ6_getChars_ba4f3 113 = .ok (.iload 5, 2) := by decide +kernel
theorem dJ6_getChars_ba4f3_115 : decode cJ6_getChars_ba4f3 115 = .ok (.bipush 45, 2) := by decide +kernel
theorem dJ6_getChars_ba4f3_117 : decode cJ6_getChars_ba4f3 117 = .ok (.bastore, 1) := by decide +kernel
theorem dJ6_getChars_ba4f3_118 : decode cJ6_getChars_ba4f3 118 = .ok (.iload 5, 2) := by decide +kernel
theorem dJ6_getChars_ba4f3_120 : decode cJ6_getChars_ba4f3 120 = .ok (.ireturn, 1) := by decide +kernel
theorem dJ6_stringSize_0f7a4_0 : decode cJ6_stringSize_0f7a4 0 = .ok (.iconst 1, 1) := by decide +kernel
theorem dJ6_stringSize_0f7a4_1 : decode cJ6_stringSize_0f7a4 1 = .ok (.istore_n 1, 1) := by decide +kernel
theorem dJ6_stringSize_0f7a4_2 : decode cJ6_stringSize_0f7a4 2 = .ok (.iload_n 0, 1) := by decide +kernel
theorem dJ6_stringSize_0f7a4_3 : decode cJ6_stringSize_0f7a4 3 = .ok (.ifCond .lt 8, 3) := by decide +kernel
theorem dJ6_stringSize_0f7a4_6 : decode cJ6_stringSize_0f7a4 6 = .ok (.iconst 0, 1) := by decide +kernel
theorem dJ6_stringSize_0f7a4_7 : decode cJ6_stringSize_0f7a4 7 = .ok (.istore_n 1, 1) := by decide +kernel
theorem dJ6_stringSize_0f7a4_8 : decode cJ6_stringSize_0f7a4 8 = .ok (.iload_n 0, 1) := by decide +kernel
theorem dJ6_stringSize_0f7a4_9 : decode cJ6_stringSize_0f7a4 9 = .ok (.ineg, 1) := by decide +kernel
theorem dJ6_stringSize_0f7a4_10 : decode cJ6_stringSize_0f7a4 10 = .ok (.istore_n 0, 1) := by decide +kernel
theorem dJ6_stringSize_0f7a4_11 : decode cJ6_stringSize_0f7a4 11 = .ok (.bipush (-10), 2) := by decide +kernel
theorem dJ6_stringSize_0f7a4_13 : decode cJ6_stringSize_0f7a4 13 = .ok (.istore_n 2, 1) := by decide +kernel
theorem dJ6_stringSize_0f7a4_14 : decode cJ6_stringSize_0f7a4 14 = .ok (.iconst 1, 1) := by decide +kernel
theorem dJ6_stringSize_0f7a4_15 : decode cJ6_stringSize_0f7a4 15 = .ok (.istore_n 3, 1) := by decide +kernel
theorem dJ6_stringSize_0f7a4_16 : decode cJ6_stringSize_0f7a4 16 = .ok (.iload_n 3, 1) := by decide +kernel
theorem dJ6_stringSize_0f7a4_17 : decode cJ6_stringSize_0f7a4 17 = .ok (.bipush 10, 2) := by decide +kernel
theorem dJ6_stringSize_0f7a4_19 : decode cJ6_stringSize_0f7a4 19 = .ok (.if_icmp .ge 23, 3) := by decide +kernel
theorem dJ6_stringSize_0f7a4_22 : decode cJ6_stringSize_0f7a4 22 = .ok (.iload_n 0, 1) := by decide +kernel
theorem dJ6_stringSize_0f7a4_23 : decode cJ6_stringSize_0f7a4 23 = .ok (.iload_n 2, 1) := by decide +kernel
theorem dJ6_stringSize_0f7a4_24 : decode cJ6_stringSize_0f7a4 24 = .ok (.if_icmp .le 7, 3) := by decide +kernel
theorem dJ6_stringSize_0f7a4_27 : decode cJ6_stringSize_0f7a4 27 = .ok (.iload_n 3, 1) := by decide +kernel
theorem dJ6_stringSize_0f7a4_28 : decode cJ6_stringSize_0f7a4 28 = .ok (.iload_n 1, 1) := by decide +kernel
theorem dJ6_stringSize_0f7a4_29 : decode cJ6_stringSize_0f7a4 29 = .ok (.iadd, 1) := by decide +kernel
theorem dJ6_stringSize_0f7a4_30 : decode cJ6_stringSize_0f7a4 30 = .ok (.ireturn, 1) := by decide +kernel
theorem dJ6_stringSize_0f7a4_31 : decode cJ6_stringSize_0f7a4 31 = .ok (.bipush 10, 2) := by decide +kernel
theorem dJ6_stringSize_0f7a4_33 : decode cJ6_stringSize_0f7a4 33 = .ok (.iload_n 2, 1) := by decide +kernel
theorem dJ6_stringSize_0f7a4_34 : decode cJ6_stringSize_0f7a4 34 = .ok (.imul, 1) := by decide +kernel
theorem dJ6_stringSize_0f7a4_35 : decode cJ6_stringSize_0f7a4 35 = .ok (.istore_n 2, 1) := by decide +kernel
theorem dJ6_stringSize_0f7a4_36 : decode cJ6_stringSize_0f7a4 36 = .ok (.iinc 3 1, 3) := by decide +kernel
theorem dJ6_stringSize_0f7a4_39 : decode cJ6_stringSize_0f7a4 39 = .ok (.goto (-23), 3) := by decide +kernel
theorem dJ6_stringSize_0f7a4_42 : decode cJ6_stringSize_0f7a4 42 = .ok (.bipush 10, 2) := by decide +kernel
theorem dJ6_stringSize_0f7a4_44 : decode cJ6_stringSize_0f7a4 44 = .ok (.iload_n 1, 1) := by decide +kernel
theorem dJ6_stringSize_0f7a4_45 : decode cJ6_stringSize_0f7a4 45 = .ok (.iadd, 1) := by decide +kernel
theorem dJ6_stringSize_0f7a4_46 : decode cJ6_stringSize_0f7a4 46 = .ok (.ireturn, 1) := by decide +kernel
theorem dJ6_bitCount_0f7a4_0 : decode cJ6_bitCount_0f7a4 0 = .ok (.iload_n 0, 1) := by decide +kernel
theorem dJ6_bitCount_0f7a4_1 : decode cJ6_bitCount_0f7a4 1 = .ok (.iload_n 0, 1) := by decide +kernel
theorem dJ6_bitCount_0f7a4_2 : decode cJ6_bitCount_0f7a4 2 = .ok (.iconst 1, 1) := by decide +kernel
theorem dJ6_bitCount_0f7a4_3 : decode cJ6_bitCount_0f7a4 3 = .ok (.iushr, 1) := by decide +kernel
theorem dJ6_bitCount_0f7a4_4 : decode cJ6_bitCount_0f7a4 4 = .ok (.ldc_w 265, 3) := by decide +kernel
theorem dJ6_bitCount_0f7a4_7 : decode cJ6_bitCount_0f7a4 7 = .ok (.iand, 1) := by decide +kernel
theorem dJ6_bitCount_0f7a4_8 : decode cJ6_bitCount_0f7a4 8 = .ok (.isub, 1) := by decide +kernel
theorem dJ6_bitCount_0f7a4_9 : decode cJ6_bitCount_0f7a4 9 = .ok (.istore_n 0, 1) := by decide +kernel
theorem dJ6_bitCount_0f7a4_10 : decode cJ6_bitCount_0f7a4 10 = .ok (.iload_n 0, 1) := by decide +kernel
theorem dJ6_bitCount_0f7a4_11 : decode cJ6_bitCount_0f7a4 11 = .ok (.ldc_w 266, 3) := by decide +kernel
theorem dJ6_bitCount_0f7a4_14 : decode cJ6_bitCount_0f7a4 14 = .ok (.iand, 1) := by decide +kernel
theorem dJ6_bitCount_0f7a4_15 : decode cJ6_bitCount_0f7a4 15 = .ok (.iload_n 0, 1) := by decide +kernel
theorem dJ6_bitCount_0f7a4_16 : decode cJ6_bitCount_0f7a4 16 = .ok (.iconst 2, 1) := by decide +kernel
theorem dJ6_bitCount_0f7a4_17 : decode cJ6_bitCount_0f7a4 17 = .ok (.iushr, 1) := by decide +kernel
theorem dJ6_bitCount_0f7a4_18 : decode cJ6_bitCount_0f7a4 18 = .ok (.ldc_w 266, 3) := by decide +kernel
theorem dJ6_bitCount_0f7a4_21 : decode cJ6_bitCount_0f7a4 21 = .ok (.iand, 1) := by decide +kernel
theorem dJ6_bitCount_0f7a4_22 : decode cJ6_bitCount_0f7a4 22 = .ok (.iadd, 1) := by decide +kernel
theorem dJ6_bitCount_0f7a4_23 : decode cJ6_bitCount_0f7a4 23 = .ok (.istore_n 0, 1) := by decide +kernel
theorem dJ6_bitCount_0f7a4_24 : decode cJ6_bitCount_0f7a4 24 = .ok (.iload_n 0, 1) := by decide +kernel
theorem dJ6_bitCount_0f7a4_25 : decode cJ6_bitCount_0f7a4 25 = .ok (.iload_n 0, 1) := by decide +kernel
theorem dJ6_bitCount_0f7a4_26 : decode cJ6_bitCount_0f7a4 26 = .ok (.iconst 4, 1) := by decide +kernel
theorem dJ6_bitCount_0f7a4_27 : decode cJ6_bitCount_0f7a4 27 = .ok (.iushr, 1) := by decide +kernel
theorem dJ6_bitCount_0f7a4_28 : decode cJ6_bitCount_0f7a4 28 = .ok (.iadd, 1) := by decide +kernel
theorem dJ6_bitCount_0f7a4_29 : decode cJ6_bitCount_0f7a4 29 = .ok (.ldc_w 267, 3) := by decide +kernel
theorem dJ6_bitCount_0f7a4_32 : decode cJ6_bitCount_0f7a4 32 = .ok (.iand, 1) := by decide +kernel
theorem dJ6_bitCount_0f7a4_33 : decode cJ6_bitCount_0f7a4 33 = .ok (.istore_n 0, 1) := by decide +kernel
theorem dJ6_bitCount_0f7a4_34 : decode cJ6_bitCount_0f7a4 34 = .ok (.iload_n 0, 1) := by decide +kernel
theorem dJ6_bitCount_0f7a4_35 : decode cJ6_bitCount_0f7a4 35 = .ok (.iload_n 0, 1) := by decide +kernel
theorem dJ6_bitCount_0f7a4_36 : decode cJ6_bitCount_0f7a4 36 = .ok (.bipush 8, 2) := by decide +kernel
theorem dJ6_bitCount_0f7a4_38 : decode cJ6_bitCount_0f7a4 38 = .ok (.iushr, 1) := by decide +kernel
theorem dJ6_bitCount_0f7a4_39 : decode cJ6_bitCount_0f7a4 39 = .ok (.iadd, 1) := by decide +kernel
theorem dJ6_bitCount_0f7a4_40 : decode cJ6_bitCount_0f7a4 40 = .ok (.istore_n 0, 1) := by decide +kernel
theorem dJ6_bitCount_0f7a4_41 : decode cJ6_bitCount_0f7a4 41 = .ok (.iload_n 0, 1) := by decide +kernel
theorem dJ6_bitCount_0f7a4_42 : decode cJ6_bitCount_0f7a4 42 = .ok (.iload_n 0, 1) := by decide +kernel
theorem dJ6_bitCount_0f7a4_43 : decode cJ6_bitCount_0f7a4 43 = .ok (.bipush 16, 2) := by decide +kernel
theorem dJ6_bitCount_0f7a4_45 : decode cJ6_bitCount_0f7a4 45 = .ok (.iushr, 1) := by decide +kernel
theorem dJ6_bitCount_0f7a4_46 : decode cJ6_bitCount_0f7a4 46 = .ok (.iadd, 1) := by decide +kernel
theorem dJ6_bitCount_0f7a4_47 : decode cJ6_bitCount_0f7a4 47 = .ok (.istore_n 0, 1) := by decide +kernel
theorem dJ6_bitCount_0f7a4_48 : decode cJ6_bitCount_0f7a4 48 = .ok (.iload_n 0, 1) := by decide +kernel
theorem dJ6_bitCount_0f7a4_49 : decode cJ6_bitCount_0f7a4 49 = .ok (.bipush 63, 2) := by decide +kernel
theorem dJ6_bitCount_0f7a4_51 : decode cJ6_bitCount_0f7a4 51 = .ok (.iand, 1) := by decide +kernel
theorem dJ6_bitCount_0f7a4_52 : decode cJ6_bitCount_0f7a4 52 = .ok (.ireturn, 1) := by decide +kernel
theorem dJ0_init_81219_0 : decode cJ0_init_81219 0 = .ok (.aload_n 0, 1) := by decide +kernel
theorem dJ0_init_81219_1 : decode cJ0_init_81219 1 = .ok (.aload_n 1, 1) := by decide +kernel
theorem dJ0_init_81219_2 : decode cJ0_init_81219 2 = .ok (.aconst_null, 1) := by decide +kernel
theorem dJ0_init_81219_3 : decode cJ0_init_81219 3 = .ok (.invokespecial 489, 3) := by decide +kernel
theorem dJ0_init_81219_6 : decode cJ0_init_81219 6 = .ok (.return_, 1) := by decide +kernel
theorem dJ0_length_8abf5_0 : decode cJ0_length_8abf5 0 = .ok (.aload_n 0, 1) := by decide +kernel
theorem dJ0_length_8abf5_1 : decode cJ0_length_8abf5 1 = .ok (.getfield 9, 3) := by decide +kernel
theorem dJ0_length_8abf5_4 : decode cJ0_length_8abf5 4 = .ok (.arraylength, 1) := by decide +kernel
theorem dJ0_length_8abf5_5 : decode cJ0_length_8abf5 5 = .ok (.aload_n 0, 1) := by decide +kernel
theorem dJ0_length_8abf5_6 : decode cJ0_length_8abf5 6 = .ok (.invokevirtual 335, 3) := by decide +kernel
theorem dJ0_length_8abf5_9 : decode cJ0_length_8abf5 9 = .ok (.ishr, 1) := by decide +kernel
theorem dJ0_length_8abf5_10 : decode cJ0_length_8abf5 10 = .ok (.ireturn, 1) := by decide +kernel
theorem dJ0_charAt_5068e_0 : decode cJ0_charAt_5068e 0 = .ok (.aload_n 0, 1) := by decide +kernel
theorem dJ0_charAt_5068e_1 : decode cJ0_charAt_5068e 1 = .ok (.invokevirtual 492, 3) := by decide +kernel
theorem dJ0_charAt_5068e_4 : decode cJ0_charAt_5068e 4 = .ok (.ifCond .eq 12, 3) := by decide +kernel
theorem dJ0_charAt_5068e_7 : decode cJ0_charAt_5068e 7 = .ok (.aload_n 0, 1) := by decide +kernel
theorem dJ0_charAt_5068e_8 : decode cJ0_charAt_5068e 8 = .ok (.getfield 9, 3) := by decide +kernel
theorem dJ0_charAt_5068e_11 : decode cJ0_charAt_5068e 11 = .ok (.iload_n 1, 1) := by decide +kernel
theorem dJ0_charAt_5068e_12 : decode cJ0_charAt_5068e 12 = .ok (.invokestatic 495, 3) := by decide +kernel
theorem dJ0_charAt_5068e_15 : decode cJ0_charAt_5068e 15 = .ok (.ireturn, 1) := by decide +kernel
theorem dJ0_getBytes_840e7_0 : decode cJ0_getBytes_840e7 0 = .ok (.aload_n 0, 1) := by decide +kernel
theorem dJ0_getBytes_840e7_1 : decode cJ0_getBytes_840e7 1 = .ok (.invokevirtual 335, 3) := by decide +kernel
theorem dJ0_getBytes_840e7_4 : decode cJ0_getBytes_840e7 4 = .ok (.iload_n 3, 1) := by decide +kernel
theorem dJ0_getBytes_840e7_5 : decode cJ0_getBytes_840e7 5 = .ok (.if_icmp .ne 23, 3) := by decide +kernel
theorem dJ0_getBytes_840e7_8 : decode cJ0_getBytes_840e7 8 = .ok (.aload_n 0, 1) := by decide +kernel
theorem dJ0_getBytes_840e7_9 : decode cJ0_getBytes_840e7 9 = .ok (.getfield 9, 3) := by decide +kernel
theorem dJ0_getBytes_840e7_12 : decode cJ0_getBytes_840e7 12 = .ok (.iconst 0, 1) := by decide +kernel
theorem dJ0_getBytes_840e7_13 : decode cJ0_getBytes_840e7 13 = .ok (.aload_n 1, 1) := by decide +kernel
theorem dJ0_getBytes_840e7_14 : decode cJ0_getBytes_840e7 14 = .ok (.iload_n 2, 1) := by decide +kernel
theorem dJ0_getBytes_840e7_15 : decode cJ0_getBytes_840e7 15 = .ok (.iload_n 3, 1) := by decide +kernel
theorem dJ0_getBytes_840e7_16 : decode cJ0_getBytes_840e7 16 = .ok (.ishl, 1) := by decide +kernel
theorem dJ0_getBytes_840e7_17 : decode cJ0_getBytes_840e7 17 = .ok (.aload_n 0, 1) := by decide +kernel
theorem dJ0_getBytes_840e7_18 : decode cJ0_getBytes_840e7 18 = .ok (.getfield 9, 3) := by decide +kernel
theorem dJ0_getBytes_840e7_21 : decode cJ0_getBytes_840e7 21 = .ok (.arraylength, 1) := by decide +kernel
theorem dJ0_getBytes_840e7_22 : decode cJ0_getBytes_840e7 22 = .ok (.invokestatic 212, 3) := by decide +kernel
theorem dJ0_getBytes_840e7_25 : decode cJ0_getBytes_840e7 25 = .ok (.goto 18, 3) := by decide +kernel
theorem dJ0_getBytes_840e7_43 : decode cJ0_getBytes_840e7 43 = .ok (.return_, 1) := by decide +kernel
theorem dJ0_init_db425_0 : decode cJ0_init_db425 0 = .ok (.aload_n 0, 1) := by decide +kernel
theorem dJ0_init_db425_1 : decode cJ0_init_db425 1 = .ok (.invokespecial 1, 3) := by decide +kernel
theorem dJ0_init_db425_4 : decode cJ0_init_db425 4 = .ok (.aload_n 1, 1) := by decide +kernel
theorem dJ0_init_db425_5 : decode cJ0_init_db425 5 = .ok (.invokevirtual 552, 3) := by decide +kernel
theorem dJ0_init_db425_8 : decode cJ0_init_db425 8 = .ok (.astore_n 3, 1) := by decide +kernel
theorem dJ0_init_db425_9 : decode cJ0_init_db425 9 = .ok (.aload_n 1, 1) := by decide +kernel
theorem dJ0_init_db425_10 : decode cJ0_init_db425 10 = .ok (.invokevirtual 549, 3) := by decide +kernel
theorem dJ0_init_db425_13 : decode cJ0_init_db425 13 = .ok (.istore 4, 2) := by decide +kernel
theorem dJ0_init_db425_15 : decode cJ0_init_db425 15 = .ok (.aload_n 1, 1) := by decide +kernel
theorem dJ0_init_db425_16 : decode cJ0_init_db425 16 = .ok (.invokevirtual 1047, 3) := by decide +kernel
theorem dJ0_init_db425_19 : decode cJ0_init_db425 19 = .ok (.ifCond .eq 22, 3) := by decide +kernel
theorem dJ0_init_db425_22 : decode cJ0_init_db425 22 = .ok (.aload_n 0, 1) := by decide +kernel
theorem dJ0_init_db425_23 : decode cJ0_init_db425 23 = .ok (.iconst 0, 1) := by decide +kernel
theorem dJ0_init_db425_24 : decode cJ0_init_db425 24 = .ok (.putfield 15, 3) := by decide +kernel
theorem dJ0_init_db425_27 : decode cJ0_init_db425 27 = .ok (.aload_n 0, 1) := by decide +kernel
theorem dJ0_init_db425_28 : decode cJ0_init_db425 28 = .ok (.aload_n 3, 1) := by decide +kernel
theorem dJ0_init_db425_29 : decode cJ0_init_db425 29 = .ok (.iconst 0, 1) := by decide +kernel
theorem dJ0_init_db425_30 : decode cJ0_init_db425 30 = .ok (.iload 4, 2) := by decide +kernel
theorem dJ0_init_db425_32 : decode cJ0_init_db425 32 = .ok (.invokestatic 54, 3) := by decide +kernel
theorem dJ0_init_db425_35 : decode cJ0_init_db425 35 = .ok (.putfield 9, 3) := by decide +kernel
theorem dJ0_init_db425_38 : decode cJ0_init_db425 38 = .ok (.goto 59, 3) := by decide +kernel
theorem dJ0_init_db425_41 : decode cJ0_init_db425 41 = .ok (.getstatic 38, 3) := by decide +kernel
theorem dJ0_init_db425_44 : decode cJ0_init_db425 44 = .ok (.ifCond .eq 35, 3) := by decide +kernel
theorem dJ0_init_db425_47 : decode cJ0_init_db425 47 = .ok (.aload_n 1, 1) := by decide +kernel
theorem dJ0_init_db425_48 : decode cJ0_init_db425 48 = .ok (.getfield 1048, 3) := by decide +kernel
theorem dJ0_init_db425_51 : decode cJ0_init_db425 51 = .ok (.ifCond .eq 28, 3) := by decide +kernel
theorem dJ0_init_db425_54 : decode cJ0_init_db425 54 = .ok (.aload_n 0, 1) := by decide +kernel
theorem dJ0_init_db425_55 : decode cJ0_init_db425 55 = .ok (.aload_n 3, 1) := by decide +kernel
theorem dJ0_init_db425_56 : decode cJ0_init_db425 56 = .ok (.iconst 0, 1) := by decide +kernel
theorem dJ0_init_db425_57 : decode cJ0_init_db425 57 = .ok (.iload 4, 2) := by decide +kernel
theorem dJ0_init_db425_59 : decode cJ0_init_db425 59 = .ok (.invokestatic 1051, 3) := by decide +kernel
theorem dJ0_init_db425_62 : decode cJ0_init_db425 62 = .ok (.putfield 9, 3) := by decide +kernel
theorem dJ0_init_db425_65 : decode cJ0_init_db425 65 = .ok (.aload_n 0, 1) := by decide +kernel
theorem dJ0_init_db425_66 : decode cJ0_init_db425 66 = .ok (.aload_n 0, 1) := by decide +kernel
theorem dJ0_init_db425_67 : decode cJ0_init_db425 67 = .ok (.getfield 9, 3) := by decide +kernel
theorem dJ0_init_db425_70 : decode cJ0_init_db425 70 = .ok (.iload 4, 2) := by decide +kernel
theorem dJ0_init_db425_72 : decode cJ0_init_db425 72 = .ok (.invokestatic 47, 3) := by decide +kernel
theorem dJ0_init_db425_75 : decode cJ0_init_db425 75 = .ok (.putfield 15, 3) := by decide +kernel
theorem dJ0_init_db425_78 : decode cJ0_init_db425 78 = .ok (.return_, 1) := by decide +kernel
theorem dJ0_init_db425_79 : decode cJ0_init_db425 79 = .ok (.aload_n 0, 1) := by decide +kernel
theorem dJ0_init_db425_80 : decode cJ0_init_db425 80 = .ok (.iconst 1, 1) := by decide +kernel
theorem dJ0_init_db425_81 : decode cJ0_init_db425 81 = .ok (.putfield 15, 3) := by decide +kernel
theorem dJ0_init_db425_84 : decode cJ0_init_db425 84 = .ok (.aload_n 0, 1) := by decide +kernel
theorem dJ0_init_db425_85 : decode cJ0_init_db425 85 = .ok (.aload_n 3, 1) := by decide +kernel
theorem dJ0_init_db425_86 : decode cJ0_init_db425 86 = .ok (.iconst 0, 1) := by decide +kernel
theorem dJ0_init_db425_87 : decode cJ0_init_db425 87 = .ok (.iload 4, 2) := by decide +kernel
theorem dJ0_init_db425_89 : decode cJ0_init_db425 89 = .ok (.iconst 1, 1) := by decide +kernel
theorem dJ0_init_db425_90 : decode cJ0_init_db425 90 = .ok (.ishl, 1) := by decide +kernel
theorem dJ0_init_db425_91 : decode cJ0_init_db425 91 = .ok (.invokestatic 54, 3) := by decide +kernel
theorem dJ0_init_db425_94 : decode cJ0_init_db425 94 = .ok (.putfield 9, 3) := by decide +kernel
theorem dJ0_init_db425_97 : decode cJ0_init_db425 97 = .ok (.return_, 1) := by decide +kernel
theorem dJ0_coder_7d493_0 : decode cJ0_coder_7d493 0 = .ok (.getstatic 38, 3) := by decide +kernel
theorem dJ0_coder_7d493_3 : decode cJ0_coder_7d493 3 = .ok (.ifCond .eq 10, 3) := by decide +kernel
theorem dJ0_coder_7d493_6 : decode cJ0_coder_7d493 6 = .ok (.aload_n 0, 1) := by decide +kernel
theorem dJ0_coder_7d493_7 : decode cJ0_coder_7d493 7 = .ok (.getfield 15, 3) := by decide +kernel
theorem dJ0_coder_7d493_10 : decode cJ0_coder_7d493 10 = .ok (.goto 4, 3) := by decide +kernel
theorem dJ0_coder_7d493_14 : decode cJ0_coder_7d493 14 = .ok (.ireturn, 1) := by decide +kernel
theorem dJ0_isLatin1_aae02_0 : decode cJ0_isLatin1_aae02 0 = .ok (.getstatic 38, 3) := by decide +kernel
theorem dJ0_isLatin1_aae02_3 : decode cJ0_isLatin1_aae02 3 = .ok (.ifCond .eq 14, 3) := by decide +kernel
theorem dJ0_isLatin1_aae02_6 : decode cJ0_isLatin1_aae02 6 = .ok (.aload_n 0, 1) := by decide +kernel
theorem dJ0_isLatin1_aae02_7 : decode cJ0_isLatin1_aae02 7 = .ok (.getfield 15, 3) := by decide +kernel
theorem dJ0_isLatin1_aae02_10 : decode cJ0_isLatin1_aae02 10 = .ok (.ifCond .ne 7, 3) := by decide +kernel
theorem dJ0_isLatin1_aae02_13 : decode cJ0_isLatin1_aae02 13 = .ok (.iconst 1, 1) := by decide +kernel
theorem dJ0_isLatin1_aae02_14 : decode cJ0_isLatin1_aae02 14 = .ok (.goto 4, 3) := by decide +kernel
theorem dJ0_isLatin1_aae02_18 : decode cJ0_isLatin1_aae02 18 = .ok (.ireturn, 1) := by decide +kernel
theorem dJ0_checkIndex_df160_0 : decode cJ0_checkIndex_df160 0 = .ok (.iload_n 0, 1) := by decide +kernel
theorem dJ0_checkIndex_df160_1 : decode cJ0_checkIndex_df160 1 = .ok (.iload_n 1, 1) := by decide +kernel
theorem dJ0_checkIndex_df160_2 : decode cJ0_checkIndex_df160 2 = .ok (.getstatic 1053, 3) := by decide +kernel
theorem dJ0_checkIndex_df160_5 : decode cJ0_checkIndex_df160 5 = .ok (.invokestatic 1059, 3) := by decide +kernel
theorem dJ0_checkIndex_df160_8 : decode cJ0_checkIndex_df160 8 = .ok (.pop, 1) := by decide +kernel
theorem dJ0_checkIndex_df160_9 : decode cJ0_checkIndex_df160 9 = .ok (.return_, 1) := by decide +kernel
theorem dJ4_init_da8c8_0 : decode cJ4_init_da8c8 0 = .ok (.aload_n 0, 1) := by decide +kernel
theorem dJ4_init_da8c8_1 : decode cJ4_init_da8c8 1 = .ok (.bipush 16, 2) := by decide +kernel
theorem dJ4_init_da8c8_3 : decode cJ4_init_da8c8 3 = .ok (.invokespecial 1, 3) := by decide +kernel
theorem dJ4_init_da8c8_6 : decode cJ4_init_da8c8 6 = .ok (.return_, 1) := by decide +kernel
theorem dJ4_append_15ec4_0 : decode cJ4_append_15ec4 0 = .ok (.aload_n 0, 1) := by decide +kernel
theorem dJ4_append_15ec4_1 : decode cJ4_append_15ec4 1 = .ok (.aload_n 1, 1) := by decide +kernel
theorem dJ4_append_15ec4_2 : decode cJ4_append_15ec4 2 = .ok (.invokespecial 29, 3) := by decide +kernel
theorem dJ4_append_15ec4_5 : decode cJ4_append_15ec4 5 = .ok (.pop, 1) := by decide +kernel
theorem dJ4_append_15ec4_6 : decode cJ4_append_15ec4 6 = .ok (.aload_n 0, 1) := by decide +kernel
theorem dJ4_append_15ec4_7 : decode cJ4_append_15ec4 7 = .ok (.areturn, 1) := by decide +kernel
theorem dJ4_append_cf468_0 : decode cJ4_append_cf468 0 = .ok (.aload_n 0, 1) := by decide +kernel
theorem dJ4_append_cf468_1 : decode cJ4_append_cf468 1 = .ok (.iload_n 1, 1) := by decide +kernel
theorem dJ4_append_cf468_2 : decode cJ4_append_cf468 2 = .ok (.invokespecial 50, 3) := by decide +kernel
theorem dJ4_append_cf468_5 : decode cJ4_append_cf468 5 = .ok (.pop, 1) := by decide +kernel
theorem dJ4_append_cf468_6 : decode cJ4_append_cf468 6 = .ok (.aload_n 0, 1) := by decide +kernel
theorem dJ4_append_cf468_7 : decode cJ4_append_cf468 7 = .ok (.areturn, 1) := by decide +kernel
theorem dJ4_append_bf812_0 : decode cJ4_append_bf812 0 = .ok (.aload_n 0, 1) := by decide +kernel
theorem dJ4_append_bf812_1 : decode cJ4_append_bf812 1 = .ok (.iload_n 1, 1) := by decide +kernel
theorem dJ4_append_bf812_2 : decode cJ4_append_bf812 2 = .ok (.invokespecial 53, 3) := by decide +kernel
theorem dJ4_append_bf812_5 : decode cJ4_append_bf812 5 = .ok (.pop, 1) := by decide +kernel
theorem dJ4_append_bf812_6 : decode cJ4_append_bf812 6 = .ok (.aload_n 0, 1) := by decide +kernel
theorem dJ4_append_bf812_7 : decode cJ4_append_bf812 7 = .ok (.areturn, 1) := by decide +kernel
theorem dJ4_charAt_5068e_0 : decode cJ4_charAt_5068e 0 = .ok (.aload_n 0, 1) := by decide +kernel
theorem dJ4_charAt_5068e_1 : decode cJ4_charAt_5068e 1 = .ok (.iload_n 1, 1) := by decide +kernel
theorem dJ4_charAt_5068e_2 : decode cJ4_charAt_5068e 2 = .ok (.invokespecial 329, 3) := by decide +kernel
theorem dJ4_charAt_5068e_5 : decode cJ4_charAt_5068e 5 = .ok (.ireturn, 1) := by decide +kernel
theorem dJ4_setLength_d00df_0 : decode cJ4_setLength_d00df 0 = .ok (.aload_n 0, 1) := by decide +kernel
theorem dJ4_setLength_d00df_1 : decode cJ4_setLength_d00df 1 = .ok (.iload_n 1, 1) := by decide +kernel
theorem dJ4_setLength_d00df_2 : decode cJ4_setLength_d00df 2 = .ok (.invokespecial 333, 3) := by decide +kernel
theorem dJ4_setLength_d00df_5 : decode cJ4_setLength_d00df 5 = .ok (.return_, 1) := by decide +kernel
theorem dJ4_length_8abf5_0 : decode cJ4_length_8abf5 0 = .ok (.aload_n 0, 1) := by decide +kernel
theorem dJ4_length_8abf5_1 : decode cJ4_length_8abf5 1 = .ok (.invokespecial 343, 3) := by decide +kernel
theorem dJ4_length_8abf5_4 : decode cJ4_length_8abf5 4 = .ok (.ireturn, 1) := by decide +kernel
theorem dJx7c733_init_d00df_0 : decode cJx7c733_init_d00df 0 = .ok (.aload_n 0, 1) := by decide +kernel
theorem dJx7c733_init_d00df_1 : decode cJx7c733_init_d00df 1 = .ok (.new 10, 3) := by decide +kernel
theorem dJx7c733_init_d00df_4 : decode cJx7c733_init_d00df 4 = .ok (.dup, 1) := by decide +kernel
theorem dJx7c733_init_d00df_5 : decode cJx7c733_init_d00df 5 = .ok (.invokespecial 12, 3) := by decide +kernel
theorem dJx7c733_init_d00df_8 : decode cJx7c733_init_d00df 8 = .ok (.ldc 13, 2) := by decide +kernel
theorem dJx7c733_init_d00df_10 : decode cJx7c733_init_d00df 10 = .ok (.invokevirtual 15, 3) := by decide +kernel
theorem dJx7c733_init_d00df_13 : decode cJx7c733_init_d00df 13 = .ok (.iload_n 1, 1) := by decide +kernel
theorem dJx7c733_init_d00df_14 : decode cJx7c733_init_d00df 14 = .ok (.invokevirtual 19, 3) := by decide +kernel
theorem dJx7c733_init_d00df_17 : decode cJx7c733_init_d00df 17 = .ok (.invokevirtual 22, 3) := by decide +kernel
theorem dJx7c733_init_d00df_20 : decode cJx7c733_init_d00df 20 = .ok (.invokespecial 7, 3) := by decide +kernel
theorem dJx7c733_init_d00df_23 : decode cJx7c733_init_d00df 23 = .ok (.return_, 1) := by decide +kernel
theorem dJ1_charAt_3b067_0 : decode cJ1_charAt_3b067 0 = .ok (.iload_n 1, 1) := by decide +kernel
theorem dJ1_charAt_3b067_1 : decode cJ1_charAt_3b067 1 = .ok (.aload_n 0, 1) := by decide +kernel
theorem dJ1_charAt_3b067_2 : decode cJ1_charAt_3b067 2 = .ok (.arraylength, 1) := by decide +kernel
theorem dJ1_charAt_3b067_3 : decode cJ1_charAt_3b067 3 = .ok (.invokestatic 9, 3) := by decide +kernel
theorem dJ1_charAt_3b067_6 : decode cJ1_charAt_3b067 6 = .ok (.aload_n 0, 1) := by decide +kernel
theorem dJ1_charAt_3b067_7 : decode cJ1_charAt_3b067 7 = .ok (.iload_n 1, 1) := by decide +kernel
theorem dJ1_charAt_3b067_8 : decode cJ1_charAt_3b067 8 = .ok (.baload, 1) := by decide +kernel
theorem dJ1_charAt_3b067_9 : decode cJ1_charAt_3b067 9 = .ok (.sipush 255, 3) := by decide +kernel
theorem dJ1_charAt_3b067_12 : decode cJ1_charAt_3b067 12 = .ok (.iand, 1) := by decide +kernel
theorem dJ1_charAt_3b067_13 : decode cJ1_charAt_3b067 13 = .ok (.i2c, 1) := by decide +kernel
theorem dJ1_charAt_3b067_14 : decode cJ1_charAt_3b067 14 = .ok (.ireturn, 1) := by decide +kernel
theorem dJ1_canEncode_fc78d_0 : decode cJ1_canEncode_fc78d 0 = .ok (.iload_n 0, 1) := by decide +kernel
theorem dJ1_canEncode_fc78d_1 : decode cJ1_canEncode_fc78d 1 = .ok (.sipush 255, 3) := by decide +kernel
theorem dJ1_canEncode_fc78d_4 : decode cJ1_canEncode_fc78d 4 = .ok (.if_icmp .gt 7, 3) := by decide +kernel
theorem dJ1_canEncode_fc78d_7 : decode cJ1_canEncode_fc78d 7 = .ok (.iconst 1, 1) := by decide +kernel
theorem dJ1_canEncode_fc78d_8 : decode cJ1_canEncode_fc78d 8 = .ok (.goto 4, 3) := by decide +kernel
theorem dJ1_canEncode_fc78d_11 : decode cJ1_canEncode_fc78d 11 = .ok (.iconst 0, 1) := by decide +kernel
theorem dJ1_canEncode_fc78d_12 : decode cJ1_canEncode_fc78d 12 = .ok (.ireturn, 1) := by decide +kernel
theorem dJ7_fill_53178_0 : decode cJ7_fill_53178 0 = .ok (.iconst 0, 1) := by decide +kernel
theorem dJ7_fill_53178_1 : decode cJ7_fill_53178 1 = .ok (.istore_n 2, 1) := by decide +kernel
theorem dJ7_fill_53178_2 : decode cJ7_fill_53178 2 = .ok (.aload_n 0, 1) := by decide +kernel
theorem dJ7_fill_53178_3 : decode cJ7_fill_53178 3 = .ok (.arraylength, 1) := by decide +kernel
theorem dJ7_fill_53178_4 : decode cJ7_fill_53178 4 = .ok (.istore_n 3, 1) := by decide +kernel
theorem dJ7_fill_53178_5 : decode cJ7_fill_53178 5 = .ok (.iload_n 2, 1) := by decide +kernel
theorem dJ7_fill_53178_6 : decode cJ7_fill_53178 6 = .ok (.iload_n 3, 1) := by decide +kernel
theorem dJ7_fill_53178_7 : decode cJ7_fill_53178 7 = .ok (.if_icmp .ge 13, 3) := by decide +kernel
theorem dJ7_fill_53178_10 : decode cJ7_fill_53178 10 = .ok (.aload_n 0, 1) := by decide +kernel
theorem dJ7_fill_53178_11 : decode cJ7_fill_53178 11 = .ok (.iload_n 2, 1) := by decide +kernel
theorem dJ7_fill_53178_12 : decode cJ7_fill_53178 12 = .ok (.iload_n 1, 1) := by decide +kernel
theorem dJ7_fill_53178_13 : decode cJ7_fill_53178 13 = .ok (.iastore, 1) := by decide +kernel
theorem dJ7_fill_53178_14 : decode cJ7_fill_53178 14 = .ok (.iinc 2 1, 3) := by decide +kernel
theorem dJ7_fill_53178_17 : decode cJ7_fill_53178 17 = .ok (.goto (-12), 3) := by decide +kernel
theorem dJ7_fill_53178_20 : decode cJ7_fill_53178 20 = .ok (.return_, 1) := by decide +kernel
theorem dJ3_checkIndex_8e157_0 : decode cJ3_checkIndex_8e157 0 = .ok (.iload_n 0, 1) := by decide +kernel
theorem dJ3_checkIndex_8e157_1 : decode cJ3_checkIndex_8e157 1 = .ok (.ifCond .lt 8, 3) := by decide +kernel
theorem dJ3_checkIndex_8e157_4 : decode cJ3_checkIndex_8e157 4 = .ok (.iload_n 0, 1) := by decide +kernel
theorem dJ3_checkIndex_8e157_5 : decode cJ3_checkIndex_8e157 5 = .ok (.iload_n 1, 1) := by decide +kernel
theorem dJ3_checkIndex_8e157_6 : decode cJ3_checkIndex_8e157 6 = .ok (.if_icmp .lt 10, 3) := by decide +kernel
theorem dJ3_checkIndex_8e157_16 : decode cJ3_checkIndex_8e157 16 = .ok (.iload_n 0, 1) := by decide +kernel
theorem dJ3_checkIndex_8e157_17 : decode cJ3_checkIndex_8e157 17 = .ok (.ireturn, 1) := by decide +kernel
theorem dL_hedge_0 : decode cL_hedge 0 = .ok (.aload 4, 2) := by decide +kernel
theorem dL_hedge_2 : decode cL_hedge 2 = .ok (.iconst 0, 1) := by decide +kernel
theorem dL_hedge_3 : decode cL_hedge 3 = .ok (.aload_n 0, 1) := by decide +kernel
theorem dL_hedge_4 : decode cL_hedge 4 = .ok (.iload_n 1, 1) := by decide +kernel
theorem dL_hedge_5 : decode cL_hedge 5 = .ok (.iload_n 2, 1) := by decide +kernel
theorem dL_hedge_6 : decode cL_hedge 6 = .ok (.iload_n 3, 1) := by decide +kernel
theorem dL_hedge_7 : decode cL_hedge 7 = .ok (.invokevirtual 7, 3) := by decide +kernel
theorem dL_hedge_10 : decode cL_hedge 10 = .ok (.i2l, 1) := by decide +kernel
theorem dL_hedge_11 : decode cL_hedge 11 = .ok (.lastore, 1) := by decide +kernel
theorem dL_hedge_12 : decode cL_hedge 12 = .ok (.goto 7, 3) := by decide +kernel
theorem dL_hedge_15 : decode cL_hedge 15 = .ok (.astore 5, 2) := by decide +kernel
theorem dL_hedge_17 : decode cL_hedge 17 = .ok (.iconst 1, 1) := by decide +kernel
theorem dL_hedge_18 : decode cL_hedge 18 = .ok (.ireturn, 1) := by decide +kernel
theorem dL_hedge_19 : decode cL_hedge 19 = .ok (.iconst 0, 1) := by decide +kernel
theorem dL_hedge_20 : decode cL_hedge 20 = .ok (.ireturn, 1) := by decide +kernel
theorem dL_trim_0 : decode cL_trim 0 = .ok (.aload 4, 2) := by decide +kernel
theorem dL_trim_2 : decode cL_trim 2 = .ok (.iconst 0, 1) := by decide +kernel
theorem dL_trim_3 : decode cL_trim 3 = .ok (.aload_n 0, 1) := by decide +kernel
theorem dL_trim_4 : decode cL_trim 4 = .ok (.iload_n 1, 1) := by decide +kernel
theorem dL_trim_5 : decode cL_trim 5 = .ok (.iload_n 2, 1) := by decide +kernel
theorem dL_trim_6 : decode cL_trim 6 = .ok (.iload_n 3, 1) := by decide +kernel
theorem dL_trim_7 : decode cL_trim 7 = .ok (.invokevirtual 15, 3) := by decide +kernel
theorem dL_trim_10 : decode cL_trim 10 = .ok (.i2l, 1) := by decide +kernel
theorem dL_trim_11 : decode cL_trim 11 = .ok (.lastore, 1) := by decide +kernel
theorem dL_trim_12 : decode cL_trim 12 = .ok (.goto 7, 3) := by decide +kernel
theorem dL_trim_15 : decode cL_trim 15 = .ok (.astore 5, 2) := by decide +kernel
theorem dL_trim_17 : decode cL_trim 17 = .ok (.iconst 1, 1) := by decide +kernel
theorem dL_trim_18 : decode cL_trim 18 = .ok (.ireturn, 1) := by decide +kernel
theorem dL_trim_19 : decode cL_trim 19 = .ok (.iconst 0, 1) := by decide +kernel
theorem dL_trim_20 : decode cL_trim 20 = .ok (.ireturn, 1) := by decide +kernel
theorem dL_minotaur_0 : decode cL_minotaur 0 = .ok (.aload_n 2, 1) := by decide +kernel
theorem dL_minotaur_1 : decode cL_minotaur 1 = .ok (.iconst 0, 1) := by decide +kernel
theorem dL_minotaur_2 : decode cL_minotaur 2 = .ok (.aload_n 0, 1) := by decide +kernel
theorem dL_minotaur_3 : decode cL_minotaur 3 = .ok (.iload_n 1, 1) := by decide +kernel
theorem dL_minotaur_4 : decode cL_minotaur 4 = .ok (.invokevirtual 18, 3) := by decide +kernel
theorem dL_minotaur_7 : decode cL_minotaur 7 = .ok (.i2l, 1) := by decide +kernel
theorem dL_minotaur_8 : decode cL_minotaur 8 = .ok (.lastore, 1) := by decide +kernel
theorem dL_minotaur_9 : decode cL_minotaur 9 = .ok (.goto 6, 3) := by decide +kernel
theorem dL_minotaur_12 : decode cL_minotaur 12 = .ok (.astore_n 3, 1) := by decide +kernel
theorem dL_minotaur_13 : decode cL_minotaur 13 = .ok (.iconst 1, 1) := by decide +kernel
theorem dL_minotaur_14 : decode cL_minotaur 14 = .ok (.ireturn, 1) := by decide +kernel
theorem dL_minotaur_15 : decode cL_minotaur 15 = .ok (.iconst 0, 1) := by decide +kernel
theorem dL_minotaur_16 : decode cL_minotaur 16 = .ok (.ireturn, 1) := by decide +kernel
theorem dL_gardener_0 : decode cL_gardener 0 = .ok (.aload_n 2, 1) := by decide +kernel
theorem dL_gardener_1 : decode cL_gardener 1 = .ok (.iconst 0, 1) := by decide +kernel
theorem dL_gardener_2 : decode cL_gardener 2 = .ok (.aload_n 0, 1) := by decide +kernel
theorem dL_gardener_3 : decode cL_gardener 3 = .ok (.iload_n 1, 1) := by decide +kernel
theorem dL_gardener_4 : decode cL_gardener 4 = .ok (.invokevirtual 22, 3) := by decide +kernel
theorem dL_gardener_7 : decode cL_gardener 7 = .ok (.i2l, 1) := by decide +kernel
theorem dL_gardener_8 : decode cL_gardener 8 = .ok (.lastore, 1) := by decide +kernel
theorem dL_gardener_9 : decode cL_gardener 9 = .ok (.goto 6, 3) := by decide +kernel
theorem dL_gardener_12 : decode cL_gardener 12 = .ok (.astore_n 3, 1) := by decide +kernel
theorem dL_gardener_13 : decode cL_gardener 13 = .ok (.iconst 1, 1) := by decide +kernel
theorem dL_gardener_14 : decode cL_gardener 14 = .ok (.ireturn, 1) := by decide +kernel
theorem dL_gardener_15 : decode cL_gardener 15 = .ok (.iconst 0, 1) := by decide +kernel
theorem dL_gardener_16 : decode cL_gardener 16 = .ok (.ireturn, 1) := by decide +kernel
theorem dL_visitor_0 : decode cL_visitor 0 = .ok (.aload_n 2, 1) := by decide +kernel
theorem dL_visitor_1 : decode cL_visitor 1 = .ok (.iconst 0, 1) := by decide +kernel
theorem dL_visitor_2 : decode cL_visitor 2 = .ok (.aload_n 0, 1) := by decide +kernel
theorem dL_visitor_3 : decode cL_visitor 3 = .ok (.iload_n 1, 1) := by decide +kernel
theorem dL_visitor_4 : decode cL_visitor 4 = .ok (.invokevirtual 25, 3) := by decide +kernel
theorem dL_visitor_7 : decode cL_visitor 7 = .ok (.i2l, 1) := by decide +kernel
theorem dL_visitor_8 : decode cL_visitor 8 = .ok (.lastore, 1) := by decide +kernel
theorem dL_visitor_9 : decode cL_visitor 9 = .ok (.goto 6, 3) := by decide +kernel
theorem dL_visitor_12 : decode cL_visitor 12 = .ok (.astore_n 3, 1) := by decide +kernel
theorem dL_visitor_13 : decode cL_visitor 13 = .ok (.iconst 1, 1) := by decide +kernel
theorem dL_visitor_14 : decode cL_visitor 14 = .ok (.ireturn, 1) := by decide +kernel
theorem dL_visitor_15 : decode cL_visitor 15 = .ok (.iconst 0, 1) := by decide +kernel
theorem dL_visitor_16 : decode cL_visitor 16 = .ok (.ireturn, 1) := by decide +kernel
theorem dL_bond_0 : decode cL_bond 0 = .ok (.aload 4, 2) := by decide +kernel
