theorem dX0_init_0 : decode cX0_init 0 = .ok (.aload_n 0, 1) := by decide +kernel
theorem dX0_init_1 : decode cX0_init 1 = .ok (.invokespecial 3, 3) := by decide +kernel
theorem dX0_init_4 : decode cX0_init 4 = .ok (.aload_n 0, 1) := by decide +kernel
theorem dX0_init_5 : decode cX0_init 5 = .ok (.bipush 60, 2) := by decide +kernel
theorem dX0_init_7 : decode cX0_init 7 = .ok (.newarray .char, 2) := by decide +kernel
theorem dX0_init_9 : decode cX0_init 9 = .ok (.putfield 9, 3) := by decide +kernel
theorem dX0_init_12 : decode cX0_init 12 = .ok (.aload_n 0, 1) := by decide +kernel
theorem dX0_init_13 : decode cX0_init 13 = .ok (.bipush 30, 2) := by decide +kernel
theorem dX0_init_15 : decode cX0_init 15 = .ok (.newarray .char, 2) := by decide +kernel
theorem dX0_init_17 : decode cX0_init 17 = .ok (.putfield 15, 3) := by decide +kernel
theorem dX0_init_20 : decode cX0_init 20 = .ok (.aload_n 0, 1) := by decide +kernel
theorem dX0_init_21 : decode cX0_init 21 = .ok (.bipush 30, 2) := by decide +kernel
theorem dX0_init_23 : decode cX0_init 23 = .ok (.iconst 3, 1) := by decide +kernel
theorem dX0_init_24 : decode cX0_init 24 = .ok (.multianewarray 18 2, 4) := by decide +kernel
theorem dX0_init_28 : decode cX0_init 28 = .ok (.putfield 20, 3) := by decide +kernel
theorem dX0_init_31 : decode cX0_init 31 = .ok (.aload_n 0, 1) := by decide +kernel
theorem dX0_init_32 : decode cX0_init 32 = .ok (.iconst (-1), 1) := by decide +kernel
theorem dX0_init_33 : decode cX0_init 33 = .ok (.putfield 23, 3) := by decide +kernel
theorem dX0_init_36 : decode cX0_init 36 = .ok (.return_, 1) := by decide +kernel
theorem dX0_add_0 : decode cX0_add 0 = .ok (.aload_n 0, 1) := by decide +kernel
theorem dX0_add_1 : decode cX0_add 1 = .ok (.getfield 27, 3) := by decide +kernel
theorem dX0_add_4 : decode cX0_add 4 = .ok (.bipush 60, 2) := by decide +kernel
theorem dX0_add_6 : decode cX0_add 6 = .ok (.if_icmp .ge 23, 3) := by decide +kernel
theorem dX0_add_9 : decode cX0_add 9 = .ok (.aload_n 0, 1) := by decide +kernel
theorem dX0_add_10 : decode cX0_add 10 = .ok (.getfield 9, 3) := by decide +kernel
theorem dX0_add_13 : decode cX0_add 13 = .ok (.aload_n 0, 1) := by decide +kernel
theorem dX0_add_14 : decode cX0_add 14 = .ok (.getfield 27, 3) := by decide +kernel
theorem dX0_add_17 : decode cX0_add 17 = .ok (.iload_n 1, 1) := by decide +kernel
theorem dX0_add_18 : decode cX0_add 18 = .ok (.castore, 1) := by decide +kernel
theorem dX0_add_19 : decode cX0_add 19 = .ok (.aload_n 0, 1) := by decide +kernel
theorem dX0_add_20 : decode cX0_add 20 = .ok (.dup, 1) := by decide +kernel
theorem dX0_add_21 : decode cX0_add 21 = .ok (.getfield 27, 3) := by decide +kernel
theorem dX0_add_24 : decode cX0_add 24 = .ok (.iconst 1, 1) := by decide +kernel
theorem dX0_add_25 : decode cX0_add 25 = .ok (.iadd, 1) := by decide +kernel
theorem dX0_add_26 : decode cX0_add 26 = .ok (.putfield 27, 3) := by decide +kernel
theorem dX0_add_29 : decode cX0_add 29 = .ok (.return_, 1) := by decide +kernel
theorem dX0_kindOf_0 : decode cX0_kindOf 0 = .ok (.iload_n 1, 1) := by decide +kernel
theorem dX0_kindOf_1 : decode cX0_kindOf 1 = .ok (.ifCond .lt 20, 3) := by decide +kernel
theorem dX0_kindOf_4 : decode cX0_kindOf 4 = .ok (.iload_n 1, 1) := by decide +kernel
theorem dX0_kindOf_5 : decode cX0_kindOf 5 = .ok (.aload_n 0, 1) := by decide +kernel
theorem dX0_kindOf_6 : decode cX0_kindOf 6 = .ok (.getfield 30, 3) := by decide +kernel
theorem dX0_kindOf_9 : decode cX0_kindOf 9 = .ok (.if_icmp .ge 12, 3) := by decide +kernel
theorem dX0_kindOf_12 : decode cX0_kindOf 12 = .ok (.aload_n 0, 1) := by decide +kernel
theorem dX0_kindOf_13 : decode cX0_kindOf 13 = .ok (.getfield 15, 3) := by decide +kernel
theorem dX0_kindOf_16 : decode cX0_kindOf 16 = .ok (.iload_n 1, 1) := by decide +kernel
theorem dX0_kindOf_17 : decode cX0_kindOf 17 = .ok (.caload, 1) := by decide +kernel
theorem dX0_kindOf_18 : decode cX0_kindOf 18 = .ok (.goto 5, 3) := by decide +kernel
theorem dX0_kindOf_21 : decode cX0_kindOf 21 = .ok (.bipush 32, 2) := by decide +kernel
theorem dX0_kindOf_23 : decode cX0_kindOf 23 = .ok (.ireturn, 1) := by decide +kernel
theorem dX0_numberOf_0 : decode cX0_numberOf 0 = .ok (.iload_n 1, 1) := by decide +kernel
theorem dX0_numberOf_1 : decode cX0_numberOf 1 = .ok (.ifCond .lt 24, 3) := by decide +kernel
theorem dX0_numberOf_4 : decode cX0_numberOf 4 = .ok (.iload_n 1, 1) := by decide +kernel
theorem dX0_numberOf_5 : decode cX0_numberOf 5 = .ok (.aload_n 0, 1) := by decide +kernel
theorem dX0_numberOf_6 : decode cX0_numberOf 6 = .ok (.getfield 30, 3) := by decide +kernel
theorem dX0_numberOf_9 : decode cX0_numberOf 9 = .ok (.if_icmp .ge 16, 3) := by decide +kernel
theorem dX0_numberOf_12 : decode cX0_numberOf 12 = .ok (.iload_n 2, 1) := by decide +kernel
theorem dX0_numberOf_13 : decode cX0_numberOf 13 = .ok (.ifCond .lt 12, 3) := by decide +kernel
theorem dX0_numberOf_16 : decode cX0_numberOf 16 = .ok (.iload_n 2, 1) := by decide +kernel
theorem dX0_numberOf_17 : decode cX0_numberOf 17 = .ok (.iconst 3, 1) := by decide +kernel
theorem dX0_numberOf_18 : decode cX0_numberOf 18 = .ok (.if_icmp .ge 7, 3) := by decide +kernel
theorem dX0_numberOf_21 : decode cX0_numberOf 21 = .ok (.iconst 1, 1) := by decide +kernel
theorem dX0_numberOf_22 : decode cX0_numberOf 22 = .ok (.goto 4, 3) := by decide +kernel
theorem dX0_numberOf_25 : decode cX0_numberOf 25 = .ok (.iconst 0, 1) := by decide +kernel
theorem dX0_numberOf_26 : decode cX0_numberOf 26 = .ok (.istore_n 3, 1) := by decide +kernel
theorem dX0_numberOf_27 : decode cX0_numberOf 27 = .ok (.iload_n 3, 1) := by decide +kernel
theorem dX0_numberOf_28 : decode cX0_numberOf 28 = .ok (.ifCond .eq 14, 3) := by decide +kernel
theorem dX0_numberOf_31 : decode cX0_numberOf 31 = .ok (.aload_n 0, 1) := by decide +kernel
theorem dX0_numberOf_32 : decode cX0_numberOf 32 = .ok (.getfield 20, 3) := by decide +kernel
theorem dX0_numberOf_35 : decode cX0_numberOf 35 = .ok (.iload_n 1, 1) := by decide +kernel
theorem dX0_numberOf_36 : decode cX0_numberOf 36 = .ok (.aaload, 1) := by decide +kernel
theorem dX0_numberOf_37 : decode cX0_numberOf 37 = .ok (.iload_n 2, 1) := by decide +kernel
theorem dX0_numberOf_38 : decode cX0_numberOf 38 = .ok (.iaload, 1) := by decide +kernel
theorem dX0_numberOf_39 : decode cX0_numberOf 39 = .ok (.goto 4, 3) := by decide +kernel
theorem dX0_numberOf_42 : decode cX0_numberOf 42 = .ok (.iconst (-1), 1) := by decide +kernel
theorem dX0_numberOf_43 : decode cX0_numberOf 43 = .ok (.ireturn, 1) := by decide +kernel
theorem dX0_takeCommands_0 : decode cX0_takeCommands 0 = .ok (.aload_n 0, 1) := by decide +kernel
theorem dX0_takeCommands_1 : decode cX0_takeCommands 1 = .ok (.iconst 0, 1) := by decide +kernel
theorem dX0_takeCommands_2 : decode cX0_takeCommands 2 = .ok (.putfield 33, 3) := by decide +kernel
theorem dX0_takeCommands_5 : decode cX0_takeCommands 5 = .ok (.aload_n 0, 1) := by decide +kernel
theorem dX0_takeCommands_6 : decode cX0_takeCommands 6 = .ok (.iconst 0, 1) := by decide +kernel
theorem dX0_takeCommands_7 : decode cX0_takeCommands 7 = .ok (.putfield 30, 3) := by decide +kernel
theorem dX0_takeCommands_10 : decode cX0_takeCommands 10 = .ok (.aload_n 0, 1) := by decide +kernel
theorem dX0_takeCommands_11 : decode cX0_takeCommands 11 = .ok (.invokevirtual 36, 3) := by decide +kernel
theorem dX0_takeCommands_14 : decode cX0_takeCommands 14 = .ok (.istore_n 1, 1) := by decide +kernel
theorem dX0_takeCommands_15 : decode cX0_takeCommands 15 = .ok (.iconst 0, 1) := by decide +kernel
theorem dX0_takeCommands_16 : decode cX0_takeCommands 16 = .ok (.istore_n 2, 1) := by decide +kernel
theorem dX0_takeCommands_17 : decode cX0_takeCommands 17 = .ok (.iload_n 2, 1) := by decide +kernel
theorem dX0_takeCommands_18 : decode cX0_takeCommands 18 = .ok (.bipush 60, 2) := by decide +kernel
theorem dX0_takeCommands_20 : decode cX0_takeCommands 20 = .ok (.if_icmp .ge 46, 3) := by decide +kernel
theorem dX0_takeCommands_23 : decode cX0_takeCommands 23 = .ok (.iload_n 1, 1) := by decide +kernel
theorem dX0_takeCommands_24 : decode cX0_takeCommands 24 = .ok (.ifCond .eq 42, 3) := by decide +kernel
theorem dX0_takeCommands_27 : decode cX0_takeCommands 27 = .ok (.aload_n 0, 1) := by decide +kernel
theorem dX0_takeCommands_28 : decode cX0_takeCommands 28 = .ok (.getfield 33, 3) := by decide +kernel
theorem dX0_takeCommands_31 : decode cX0_takeCommands 31 = .ok (.aload_n 0, 1) := by decide +kernel
theorem dX0_takeCommands_32 : decode cX0_takeCommands 32 = .ok (.getfield 27, 3) := by decide +kernel
theorem dX0_takeCommands_35 : decode cX0_takeCommands 35 = .ok (.if_icmp .ge 31, 3) := by decide +kernel
theorem dX0_takeCommands_38 : decode cX0_takeCommands 38 = .ok (.aload_n 0, 1) := by decide +kernel
theorem dX0_takeCommands_39 : decode cX0_takeCommands 39 = .ok (.bipush 59, 2) := by decide +kernel
theorem dX0_takeCommands_41 : decode cX0_takeCommands 41 = .ok (.invokevirtual 40, 3) := by decide +kernel
theorem dX0_takeCommands_44 : decode cX0_takeCommands 44 = .ok (.ifCond .eq 14, 3) := by decide +kernel
theorem dX0_takeCommands_47 : decode cX0_takeCommands 47 = .ok (.aload_n 0, 1) := by decide +kernel
theorem dX0_takeCommands_48 : decode cX0_takeCommands 48 = .ok (.invokevirtual 36, 3) := by decide +kernel
theorem dX0_takeCommands_51 : decode cX0_takeCommands 51 = .ok (.ifCond .eq 7, 3) := by decide +kernel
theorem dX0_takeCommands_54 : decode cX0_takeCommands 54 = .ok (.iconst 1, 1) := by decide +kernel
theorem dX0_takeCommands_55 : decode cX0_takeCommands 55 = .ok (.goto 4, 3) := by decide +kernel
theorem dX0_takeCommands_58 : decode cX0_takeCommands 58 = .ok (.iconst 0, 1) := by decide +kernel
theorem dX0_takeCommands_59 : decode cX0_takeCommands 59 = .ok (.istore_n 1, 1) := by decide +kernel
theorem dX0_takeCommands_60 : decode cX0_takeCommands 60 = .ok (.iinc 2 1, 3) := by decide +kernel
theorem dX0_takeCommands_63 : decode cX0_takeCommands 63 = .ok (.goto (-46), 3) := by decide +kernel
theorem dX0_takeCommands_66 : decode cX0_takeCommands 66 = .ok (.aload_n 0, 1) := by decide +kernel
theorem dX0_takeCommands_67 : decode cX0_takeCommands 67 = .ok (.iload_n 1, 1) := by decide +kernel
theorem dX0_takeCommands_68 : decode cX0_takeCommands 68 = .ok (.ifCond .eq 7, 3) := by decide +kernel
theorem dX0_takeCommands_71 : decode cX0_takeCommands 71 = .ok (.iconst (-1), 1) := by decide +kernel
theorem dX0_takeCommands_72 : decode cX0_takeCommands 72 = .ok (.goto 7, 3) := by decide +kernel
theorem dX0_takeCommands_75 : decode cX0_takeCommands 75 = .ok (.aload_n 0, 1) := by decide +kernel
theorem dX0_takeCommands_76 : decode cX0_takeCommands 76 = .ok (.getfield 33, 3) := by decide +kernel
theorem dX0_takeCommands_79 : decode cX0_takeCommands 79 = .ok (.putfield 23, 3) := by decide +kernel
theorem dX0_takeCommands_82 : decode cX0_takeCommands 82 = .ok (.aload_n 0, 1) := by decide +kernel
theorem dX0_takeCommands_83 : decode cX0_takeCommands 83 = .ok (.iconst 0, 1) := by decide +kernel
theorem dX0_takeCommands_84 : decode cX0_takeCommands 84 = .ok (.putfield 27, 3) := by decide +kernel
theorem dX0_takeCommands_87 : decode cX0_takeCommands 87 = .ok (.iload_n 1, 1) := by decide +kernel
theorem dX0_takeCommands_88 : decode cX0_takeCommands 88 = .ok (.ireturn, 1) := by decide +kernel
theorem dX0_readCommand_0 : decode cX0_readCommand 0 = .ok (.aload_n 0, 1) := by decide +kernel
theorem dX0_readCommand_1 : decode cX0_readCommand 1 = .ok (.getfield 33, 3) := by decide +kernel
theorem dX0_readCommand_4 : decode cX0_readCommand 4 = .ok (.aload_n 0, 1) := by decide +kernel
theorem dX0_readCommand_5 : decode cX0_readCommand 5 = .ok (.getfield 27, 3) := by decide +kernel
theorem dX0_readCommand_8 : decode cX0_readCommand 8 = .ok (.if_icmp .ge 12, 3) := by decide +kernel
theorem dX0_readCommand_11 : decode cX0_readCommand 11 = .ok (.aload_n 0, 1) := by decide +kernel
theorem dX0_readCommand_12 : decode cX0_readCommand 12 = .ok (.getfield 30, 3) := by decide +kernel
theorem dX0_readCommand_15 : decode cX0_readCommand 15 = .ok (.bipush 30, 2) := by decide +kernel
theorem dX0_readCommand_17 : decode cX0_readCommand 17 = .ok (.if_icmp .lt 5, 3) := by decide +kernel
theorem dX0_readCommand_20 : decode cX0_readCommand 20 = .ok (.iconst 0, 1) := by decide +kernel
theorem dX0_readCommand_21 : decode cX0_readCommand 21 = .ok (.ireturn, 1) := by decide +kernel
theorem dX0_readCommand_22 : decode cX0_readCommand 22 = .ok (.aload_n 0, 1) := by decide +kernel
theorem dX0_readCommand_23 : decode cX0_readCommand 23 = .ok (.getfield 9, 3) := by decide +kernel
theorem dX0_readCommand_26 : decode cX0_readCommand 26 = .ok (.aload_n 0, 1) := by decide +kernel
theorem dX0_readCommand_27 : decode cX0_readCommand 27 = .ok (.getfield 33, 3) := by decide +kernel
theorem dX0_readCommand_30 : decode cX0_readCommand 30 = .ok (.caload, 1) := by decide +kernel
theorem dX0_readCommand_31 : decode cX0_readCommand 31 = .ok (.istore_n 1, 1) := by decide +kernel
theorem dX0_readCommand_32 : decode cX0_readCommand 32 = .ok (.iload_n 1, 1) := by decide +kernel
theorem dX0_readCommand_33 : decode cX0_readCommand 33 = .ok (.invokestatic 44, 3) := by decide +kernel
theorem dX0_readCommand_36 : decode cX0_readCommand 36 = .ok (.astore_n 2, 1) := by decide +kernel
theorem dX0_readCommand_37 : decode cX0_readCommand 37 = .ok (.aload_n 2, 1) := by decide +kernel
theorem dX0_readCommand_38 : decode cX0_readCommand 38 = .ok (.ifnonnull 5, 3) := by decide +kernel
theorem dX0_readCommand_41 : decode cX0_readCommand 41 = .ok (.iconst 0, 1) := by decide +kernel
theorem dX0_readCommand_42 : decode cX0_readCommand 42 = .ok (.ireturn, 1) := by decide +kernel
theorem dX0_readCommand_43 : decode cX0_readCommand 43 = .ok (.aload_n 0, 1) := by decide +kernel
theorem dX0_readCommand_44 : decode cX0_readCommand 44 = .ok (.getfield 15, 3) := by decide +kernel
theorem dX0_readCommand_47 : decode cX0_readCommand 47 = .ok (.aload_n 0, 1) := by decide +kernel
theorem dX0_readCommand_48 : decode cX0_readCommand 48 = .ok (.getfield 30, 3) := by decide +kernel
theorem dX0_readCommand_51 : decode cX0_readCommand 51 = .ok (.iload_n 1, 1) := by decide +kernel
theorem dX0_readCommand_52 : decode cX0_readCommand 52 = .ok (.castore, 1) := by decide +kernel
theorem dX0_readCommand_53 : decode cX0_readCommand 53 = .ok (.aload_n 0, 1) := by decide +kernel
theorem dX0_readCommand_54 : decode cX0_readCommand 54 = .ok (.iconst 0, 1) := by decide +kernel
theorem dX0_readCommand_55 : decode cX0_readCommand 55 = .ok (.putfield 48, 3) := by decide +kernel
theorem dX0_readCommand_58 : decode cX0_readCommand 58 = .ok (.aload_n 0, 1) := by decide +kernel
theorem dX0_readCommand_59 : decode cX0_readCommand 59 = .ok (.dup, 1) := by decide +kernel
theorem dX0_readCommand_60 : decode cX0_readCommand 60 = .ok (.getfield 33, 3) := by decide +kernel
theorem dX0_readCommand_63 : decode cX0_readCommand 63 = .ok (.iconst 1, 1) := by decide +kernel
theorem dX0_readCommand_64 : decode cX0_readCommand 64 = .ok (.iadd, 1) := by decide +kernel
theorem dX0_readCommand_65 : decode cX0_readCommand 65 = .ok (.putfield 33, 3) := by decide +kernel
theorem dX0_readCommand_68 : decode cX0_readCommand 68 = .ok (.iconst 0, 1) := by decide +kernel
theorem dX0_readCommand_69 : decode cX0_readCommand 69 = .ok (.istore_n 3, 1) := by decide +kernel
theorem dX0_readCommand_70 : decode cX0_readCommand 70 = .ok (.iload_n 3, 1) := by decide +kernel
theorem dX0_readCommand_71 : decode cX0_readCommand 71 = .ok (.aload_n 2, 1) := by decide +kernel
theorem dX0_readCommand_72 : decode cX0_readCommand 72 = .ok (.invokevirtual 51, 3) := by decide +kernel
theorem dX0_readCommand_75 : decode cX0_readCommand 75 = .ok (.if_icmp .ge 23, 3) := by decide +kernel
theorem dX0_readCommand_78 : decode cX0_readCommand 78 = .ok (.aload_n 0, 1) := by decide +kernel
theorem dX0_readCommand_79 : decode cX0_readCommand 79 = .ok (.aload_n 2, 1) := by decide +kernel
theorem dX0_readCommand_80 : decode cX0_readCommand 80 = .ok (.iload_n 3, 1) := by decide +kernel
theorem dX0_readCommand_81 : decode cX0_readCommand 81 = .ok (.invokevirtual 56, 3) := by decide +kernel
theorem dX0_readCommand_84 : decode cX0_readCommand 84 = .ok (.invokevirtual 60, 3) := by decide +kernel
theorem dX0_readCommand_87 : decode cX0_readCommand 87 = .ok (.ifCond .ne 5, 3) := by decide +kernel
theorem dX0_readCommand_90 : decode cX0_readCommand 90 = .ok (.iconst 0, 1) := by decide +kernel
theorem dX0_readCommand_91 : decode cX0_readCommand 91 = .ok (.ireturn, 1) := by decide +kernel
theorem dX0_readCommand_92 : decode cX0_readCommand 92 = .ok (.iinc 3 1, 3) := by decide +kernel
theorem dX0_readCommand_95 : decode cX0_readCommand 95 = .ok (.goto (-25), 3) := by decide +kernel
theorem dX0_readCommand_98 : decode cX0_readCommand 98 = .ok (.aload_n 0, 1) := by decide +kernel
theorem dX0_readCommand_99 : decode cX0_readCommand 99 = .ok (.dup, 1) := by decide +kernel
theorem dX0_readCommand_100 : decode cX0_readCommand 100 = .ok (.getfield 30, 3) := by decide +kernel
theorem dX0_readCommand_103 : decode cX0_readCommand 103 = .ok (.iconst 1, 1) := by decide +kernel
theorem dX0_readCommand_104 : decode cX0_readCommand 104 = .ok (.iadd, 1) := by decide +kernel
theorem dX0_readCommand_105 : decode cX0_readCommand 105 = .ok (.putfield 30, 3) := by decide +kernel
theorem dX0_readCommand_108 : decode cX0_readCommand 108 = .ok (.iconst 1, 1) := by decide +kernel
theorem dX0_readCommand_109 : decode cX0_readCommand 109 = .ok (.ireturn, 1) := by decide +kernel
theorem dX0_formOf_0 : decode cX0_formOf 0 = .ok (.iload_n 0, 1) := by decide +kernel
theorem dX0_formOf_1 : decode cX0_formOf 1 = .ok (.tableswitch 127 98 119 #[118, 127, 127, 127, 127, 115, 103, 127, 127, 127, 127, 112, 127, 127, 127, 127, 124, 106, 109, 127, 115, 121], 103) := by decide +kernel
theorem dX0_formOf_104 : decode cX0_formOf 104 = .ok (.ldc 63, 2) := by decide +kernel
theorem dX0_formOf_106 : decode cX0_formOf 106 = .ok (.areturn, 1) := by decide +kernel
theorem dX0_formOf_107 : decode cX0_formOf 107 = .ok (.ldc 65, 2) := by decide +kernel
theorem dX0_formOf_109 : decode cX0_formOf 109 = .ok (.areturn, 1) := by decide +kernel
theorem dX0_formOf_110 : decode cX0_formOf 110 = .ok (.ldc 67, 2) := by decide +kernel
theorem dX0_formOf_112 : decode cX0_formOf 112 = .ok (.areturn, 1) := by decide +kernel
theorem dX0_formOf_113 : decode cX0_formOf 113 = .ok (.ldc 69, 2) := by decide +kernel
theorem dX0_formOf_115 : decode cX0_formOf 115 = .ok (.areturn, 1) := by decide +kernel
theorem dX0_formOf_116 : decode cX0_formOf 116 = .ok (.ldc 71, 2) := by decide +kernel
theorem dX0_formOf_118 : decode cX0_formOf 118 = .ok (.areturn, 1) := by decide +kernel
theorem dX0_formOf_119 : decode cX0_formOf 119 = .ok (.ldc 73, 2) := by decide +kernel
theorem dX0_formOf_121 : decode cX0_formOf 121 = .ok (.areturn, 1) := by decide +kernel
theorem dX0_formOf_122 : decode cX0_formOf 122 = .ok (.ldc 75, 2) := by decide +kernel
theorem dX0_formOf_124 : decode cX0_formOf 124 = .ok (.areturn, 1) := by decide +kernel
theorem dX0_formOf_125 : decode cX0_formOf 125 = .ok (.ldc 77, 2) := by decide +kernel
theorem dX0_formOf_127 : decode cX0_formOf 127 = .ok (.areturn, 1) := by decide +kernel
theorem dX0_formOf_128 : decode cX0_formOf 128 = .ok (.aconst_null, 1) := by decide +kernel
theorem dX0_formOf_129 : decode cX0_formOf 129 = .ok (.areturn, 1) := by decide +kernel
theorem dX0_readPart_0 : decode cX0_readPart 0 = .ok (.iload_n 1, 1) := by decide +kernel
theorem dX0_readPart_1 : decode cX0_readPart 1 = .ok (.lookupswitch 83 #[(68, 49), (78, 43), (87, 78), (88, 55)], 43) := by decide +kernel
theorem dX0_readPart_44 : decode cX0_readPart 44 = .ok (.aload_n 0, 1) := by decide +kernel
theorem dX0_readPart_45 : decode cX0_readPart 45 = .ok (.iconst 2, 1) := by decide +kernel
theorem dX0_readPart_46 : decode cX0_readPart 46 = .ok (.invokevirtual 79, 3) := by decide +kernel
theorem dX0_readPart_49 : decode cX0_readPart 49 = .ok (.ireturn, 1) := by decide +kernel
theorem dX0_readPart_50 : decode cX0_readPart 50 = .ok (.aload_n 0, 1) := by decide +kernel
theorem dX0_readPart_51 : decode cX0_readPart 51 = .ok (.iconst 1, 1) := by decide +kernel
theorem dX0_readPart_52 : decode cX0_readPart 52 = .ok (.invokevirtual 79, 3) := by decide +kernel
theorem dX0_readPart_55 : decode cX0_readPart 55 = .ok (.ireturn, 1) := by decide +kernel
theorem dX0_readPart_56 : decode cX0_readPart 56 = .ok (.aload_n 0, 1) := by decide +kernel
theorem dX0_readPart_57 : decode cX0_readPart 57 = .ok (.bipush 120, 2) := by decide +kernel
theorem dX0_readPart_59 : decode cX0_readPart 59 = .ok (.invokevirtual 40, 3) := by decide +kernel
theorem dX0_readPart_62 : decode cX0_readPart 62 = .ok (.ifCond .eq 11, 3) := by decide +kernel
theorem dX0_readPart_65 : decode cX0_readPart 65 = .ok (.aload_n 0, 1) := by decide +kernel
theorem dX0_readPart_66 : decode cX0_readPart 66 = .ok (.iconst (-1), 1) := by decide +kernel
theorem dX0_readPart_67 : decode cX0_readPart 67 = .ok (.invokevirtual 83, 3) := by decide +kernel
theorem dX0_readPart_70 : decode cX0_readPart 70 = .ok (.goto 8, 3) := by decide +kernel
theorem dX0_readPart_73 : decode cX0_readPart 73 = .ok (.aload_n 0, 1) := by decide +kernel
theorem dX0_readPart_74 : decode cX0_readPart 74 = .ok (.iconst 2, 1) := by decide +kernel
theorem dX0_readPart_75 : decode cX0_readPart 75 = .ok (.invokevirtual 79, 3) := by decide +kernel
theorem dX0_readPart_78 : decode cX0_readPart 78 = .ok (.ireturn, 1) := by decide +kernel
theorem dX0_readPart_79 : decode cX0_readPart 79 = .ok (.aload_n 0, 1) := by decide +kernel
theorem dX0_readPart_80 : decode cX0_readPart 80 = .ok (.invokevirtual 86, 3) := by decide +kernel
theorem dX0_readPart_83 : decode cX0_readPart 83 = .ok (.ireturn, 1) := by decide +kernel
theorem dX0_readPart_84 : decode cX0_readPart 84 = .ok (.aload_n 0, 1) := by decide +kernel
theorem dX0_readPart_85 : decode cX0_readPart 85 = .ok (.iload_n 1, 1) := by decide +kernel
theorem dX0_readPart_86 : decode cX0_readPart 86 = .ok (.invokevirtual 40, 3) := by decide +kernel
theorem dX0_readPart_89 : decode cX0_readPart 89 = .ok (.ireturn, 1) := by decide +kernel
theorem dX0_takeSign_0 : decode cX0_takeSign 0 = .ok (.aload_n 0, 1) := by decide +kernel
theorem dX0_takeSign_1 : decode cX0_takeSign 1 = .ok (.getfield 33, 3) := by decide +kernel
theorem dX0_takeSign_4 : decode cX0_takeSign 4 = .ok (.aload_n 0, 1) := by decide +kernel
theorem dX0_takeSign_5 : decode cX0_takeSign 5 = .ok (.getfield 27, 3) := by decide +kernel
theorem dX0_takeSign_8 : decode cX0_takeSign 8 = .ok (.if_icmp .ge 16, 3) := by decide +kernel
theorem dX0_takeSign_11 : decode cX0_takeSign 11 = .ok (.aload_n 0, 1) := by decide +kernel
theorem dX0_takeSign_12 : decode cX0_takeSign 12 = .ok (.getfield 9, 3) := by decide +kernel
theorem dX0_takeSign_15 : decode cX0_takeSign 15 = .ok (.aload_n 0, 1) := by decide +kernel
theorem dX0_takeSign_16 : decode cX0_takeSign 16 = .ok (.getfield 33, 3) := by decide +kernel
theorem dX0_takeSign_19 : decode cX0_takeSign 19 = .ok (.caload, 1) := by decide +kernel
theorem dX0_takeSign_20 : decode cX0_takeSign 20 = .ok (.iload_n 1, 1) := by decide +kernel
theorem dX0_takeSign_21 : decode cX0_takeSign 21 = .ok (.if_icmp .eq 5, 3) := by decide +kernel
theorem dX0_takeSign_24 : decode cX0_takeSign 24 = .ok (.iconst 0, 1) := by decide +kernel
theorem dX0_takeSign_25 : decode cX0_takeSign 25 = .ok (.ireturn, 1) := by decide +kernel
theorem dX0_takeSign_26 : decode cX0_takeSign 26 = .ok (.aload_n 0, 1) := by decide +kernel
theorem dX0_takeSign_27 : decode cX0_takeSign 27 = .ok (.dup, 1) := by decide +kernel
theorem dX0_takeSign_28 : decode cX0_takeSign 28 = .ok (.getfield 33, 3) := by decide +kernel
theorem dX0_takeSign_31 : decode cX0_takeSign 31 = .ok (.iconst 1, 1) := by decide +kernel
theorem dX0_takeSign_32 : decode cX0_takeSign 32 = .ok (.iadd, 1) := by decide +kernel
theorem dX0_takeSign_33 : decode cX0_takeSign 33 = .ok (.putfield 33, 3) := by decide +kernel
theorem dX0_takeSign_36 : decode cX0_takeSign 36 = .ok (.iconst 1, 1) := by decide +kernel
theorem dX0_takeSign_37 : decode cX0_takeSign 37 = .ok (.ireturn, 1) := by decide +kernel
theorem dX0_isAtDigit_0 : decode cX0_isAtDigit 0 = .ok (.aload_n 0, 1) := by decide +kernel
theorem dX0_isAtDigit_1 : decode cX0_isAtDigit 1 = .ok (.getfield 33, 3) := by decide +kernel
theorem dX0_isAtDigit_4 : decode cX0_isAtDigit 4 = .ok (.aload_n 0, 1) := by decide +kernel
theorem dX0_isAtDigit_5 : decode cX0_isAtDigit 5 = .ok (.getfield 27, 3) := by decide +kernel
theorem dX0_isAtDigit_8 : decode cX0_isAtDigit 8 = .ok (.if_icmp .ge 35, 3) := by decide +kernel
theorem dX0_isAtDigit_11 : decode cX0_isAtDigit 11 = .ok (.aload_n 0, 1) := by decide +kernel
theorem dX0_isAtDigit_12 : decode cX0_isAtDigit 12 = .ok (.getfield 9, 3) := by decide +kernel
theorem dX0_isAtDigit_15 : decode cX0_isAtDigit 15 = .ok (.aload_n 0, 1) := by decide +kernel
theorem dX0_isAtDigit_16 : decode cX0_isAtDigit 16 = .ok (.getfield 33, 3) := by decide +kernel
theorem dX0_isAtDigit_19 : decode cX0_isAtDigit 19 = .ok (.caload, 1) := by decide +kernel
theorem dX0_isAtDigit_20 : decode cX0_isAtDigit 20 = .ok (.bipush 48, 2) := by decide +kernel
theorem dX0_isAtDigit_22 : decode cX0_isAtDigit 22 = .ok (.if_icmp .lt 21, 3) := by decide +kernel
theorem dX0_isAtDigit_25 : decode cX0_isAtDigit 25 = .ok (.aload_n 0, 1) := by decide +kernel
theorem dX0_isAtDigit_26 : decode cX0_isAtDigit 26 = .ok (.getfield 9, 3) := by decide +kernel
theorem dX0_isAtDigit_29 : decode cX0_isAtDigit 29 = .ok (.aload_n 0, 1) := by decide +kernel
theorem dX0_isAtDigit_30 : decode cX0_isAtDigit 30 = .ok (.getfield 33, 3) := by decide +kernel
theorem dX0_isAtDigit_33 : decode cX0_isAtDigit 33 = .ok (.caload, 1) := by decide +kernel
theorem dX0_isAtDigit_34 : decode cX0_isAtDigit 34 = .ok (.bipush 57, 2) := by decide +kernel
theorem dX0_isAtDigit_36 : decode cX0_isAtDigit 36 = .ok (.if_icmp .gt 7, 3) := by decide +kernel
theorem dX0_isAtDigit_39 : decode cX0_isAtDigit 39 = .ok (.iconst 1, 1) := by decide +kernel
theorem dX0_isAtDigit_40 : decode cX0_isAtDigit 40 = .ok (.goto 4, 3) := by decide +kernel
theorem dX0_isAtDigit_43 : decode cX0_isAtDigit 43 = .ok (.iconst 0, 1) := by decide +kernel
theorem dX0_isAtDigit_44 : decode cX0_isAtDigit 44 = .ok (.ireturn, 1) := by decide +kernel
theorem dX0_readNumber_0 : decode cX0_readNumber 0 = .ok (.aload_n 0, 1) := by decide +kernel
theorem dX0_readNumber_1 : decode cX0_readNumber 1 = .ok (.invokevirtual 89, 3) := by decide +kernel
theorem dX0_readNumber_4 : decode cX0_readNumber 4 = .ok (.ifCond .ne 5, 3) := by decide +kernel
theorem dX0_readNumber_7 : decode cX0_readNumber 7 = .ok (.iconst 0, 1) := by decide +kernel
theorem dX0_readNumber_8 : decode cX0_readNumber 8 = .ok (.ireturn, 1) := by decide +kernel
theorem dX0_readNumber_9 : decode cX0_readNumber 9 = .ok (.iconst 0, 1) := by decide +kernel
theorem dX0_readNumber_10 : decode cX0_readNumber 10 = .ok (.istore_n 2, 1) := by decide +kernel
theorem dX0_readNumber_11 : decode cX0_readNumber 11 = .ok (.iconst 0, 1) := by decide +kernel
theorem dX0_readNumber_12 : decode cX0_readNumber 12 = .ok (.istore_n 3, 1) := by decide +kernel
theorem dX0_readNumber_13 : decode cX0_readNumber 13 = .ok (.iload_n 3, 1) := by decide +kernel
theorem dX0_readNumber_14 : decode cX0_readNumber 14 = .ok (.iload_n 1, 1) := by decide +kernel
theorem dX0_readNumber_15 : decode cX0_readNumber 15 = .ok (.if_icmp .ge 44, 3) := by decide +kernel
theorem dX0_readNumber_18 : decode cX0_readNumber 18 = .ok (.aload_n 0, 1) := by decide +kernel
theorem dX0_readNumber_19 : decode cX0_readNumber 19 = .ok (.invokevirtual 89, 3) := by decide +kernel
theorem dX0_readNumber_22 : decode cX0_readNumber 22 = .ok (.ifCond .eq 37, 3) := by decide +kernel
theorem dX0_readNumber_25 : decode cX0_readNumber 25 = .ok (.iload_n 2, 1) := by decide +kernel
theorem dX0_readNumber_26 : decode cX0_readNumber 26 = .ok (.bipush 10, 2) := by decide +kernel
theorem dX0_readNumber_28 : decode cX0_readNumber 28 = .ok (.imul, 1) := by decide +kernel
theorem dX0_readNumber_29 : decode cX0_readNumber 29 = .ok (.aload_n 0, 1) := by decide +kernel
theorem dX0_readNumber_30 : decode cX0_readNumber 30 = .ok (.getfield 9, 3) := by decide +kernel
theorem dX0_readNumber_33 : decode cX0_readNumber 33 = .ok (.aload_n 0, 1) := by decide +kernel
theorem dX0_readNumber_34 : decode cX0_readNumber 34 = .ok (.getfield 33, 3) := by decide +kernel
theorem dX0_readNumber_37 : decode cX0_readNumber 37 = .ok (.caload, 1) := by decide +kernel
theorem dX0_readNumber_38 : decode cX0_readNumber 38 = .ok (.iadd, 1) := by decide +kernel
theorem dX0_readNumber_39 : decode cX0_readNumber 39 = .ok (.bipush 48, 2) := by decide +kernel
theorem dX0_readNumber_41 : decode cX0_readNumber 41 = .ok (.isub, 1) := by decide +kernel
theorem dX0_readNumber_42 : decode cX0_readNumber 42 = .ok (.istore_n 2, 1) := by decide +kernel
theorem dX0_readNumber_43 : decode cX0_readNumber 43 = .ok (.aload_n 0, 1) := by decide +kernel
theorem dX0_readNumber_44 : decode cX0_readNumber 44 = .ok (.dup, 1) := by decide +kernel
theorem dX0_readNumber_45 : decode cX0_readNumber 45 = .ok (.getfield 33, 3) := by decide +kernel
theorem dX0_readNumber_48 : decode cX0_readNumber 48 = .ok (.iconst 1, 1) := by decide +kernel
theorem dX0_readNumber_49 : decode cX0_readNumber 49 = .ok (.iadd, 1) := by decide +kernel
theorem dX0_readNumber_50 : decode cX0_readNumber 50 = .ok (.putfield 33, 3) := by decide +kernel
theorem dX0_readNumber_53 : decode cX0_readNumber 53 = .ok (.iinc 3 1, 3) := by decide +kernel
theorem dX0_readNumber_56 : decode cX0_readNumber 56 = .ok (.goto (-43), 3) := by decide +kernel
theorem dX0_readNumber_59 : decode cX0_readNumber 59 = .ok (.aload_n 0, 1) := by decide +kernel
theorem dX0_readNumber_60 : decode cX0_readNumber 60 = .ok (.iload_n 2, 1) := by decide +kernel
theorem dX0_readNumber_61 : decode cX0_readNumber 61 = .ok (.invokevirtual 83, 3) := by decide +kernel
theorem dX0_readNumber_64 : decode cX0_readNumber 64 = .ok (.ireturn, 1) := by decide +kernel
theorem dX0_readDirection_0 : decode cX0_readDirection 0 = .ok (.aload_n 0, 1) := by decide +kernel
theorem dX0_readDirection_1 : decode cX0_readDirection 1 = .ok (.bipush 110, 2) := by decide +kernel
theorem dX0_readDirection_3 : decode cX0_readDirection 3 = .ok (.invokevirtual 40, 3) := by decide +kernel
theorem dX0_readDirection_6 : decode cX0_readDirection 6 = .ok (.ifCond .eq 9, 3) := by decide +kernel
theorem dX0_readDirection_9 : decode cX0_readDirection 9 = .ok (.aload_n 0, 1) := by decide +kernel
theorem dX0_readDirection_10 : decode cX0_readDirection 10 = .ok (.iconst 0, 1) := by decide +kernel
theorem dX0_readDirection_11 : decode cX0_readDirection 11 = .ok (.invokevirtual 83, 3) := by decide +kernel
theorem dX0_readDirection_14 : decode cX0_readDirection 14 = .ok (.ireturn, 1) := by decide +kernel
theorem dX0_readDirection_15 : decode cX0_readDirection 15 = .ok (.aload_n 0, 1) := by decide +kernel
theorem dX0_readDirection_16 : decode cX0_readDirection 16 = .ok (.bipush 101, 2) := by decide +kernel
theorem dX0_readDirection_18 : decode cX0_readDirection 18 = .ok (.invokevirtual 40, 3) := by decide +kernel
theorem dX0_readDirection_21 : decode cX0_readDirection 21 = .ok (.ifCond .eq 9, 3) := by decide +kernel
theorem dX0_readDirection_24 : decode cX0_readDirection 24 = .ok (.aload_n 0, 1) := by decide +kernel
theorem dX0_readDirection_25 : decode cX0_readDirection 25 = .ok (.iconst 1, 1) := by decide +kernel
theorem dX0_readDirection_26 : decode cX0_readDirection 26 = .ok (.invokevirtual 83, 3) := by decide +kernel
theorem dX0_readDirection_29 : decode cX0_readDirection 29 = .ok (.ireturn, 1) := by decide +kernel
theorem dX0_readDirection_30 : decode cX0_readDirection 30 = .ok (.aload_n 0, 1) := by decide +kernel
theorem dX0_readDirection_31 : decode cX0_readDirection 31 = .ok (.bipush 115, 2) := by decide +kernel
theorem dX0_readDirection_33 : decode cX0_readDirection 33 = .ok (.invokevirtual 40, 3) := by decide +kernel
theorem dX0_readDirection_36 : decode cX0_readDirection 36 = .ok (.ifCond .eq 9, 3) := by decide +kernel
theorem dX0_readDirection_39 : decode cX0_readDirection 39 = .ok (.aload_n 0, 1) := by decide +kernel
theorem dX0_readDirection_40 : decode cX0_readDirection 40 = .ok (.iconst 2, 1) := by decide +kernel
theorem dX0_readDirection_41 : decode cX0_readDirection 41 = .ok (.invokevirtual 83, 3) := by decide +kernel
theorem dX0_readDirection_44 : decode cX0_readDirection 44 = .ok (.ireturn, 1) := by decide +kernel
theorem dX0_readDirection_45 : decode cX0_readDirection 45 = .ok (.aload_n 0, 1) := by decide +kernel
theorem dX0_readDirection_46 : decode cX0_readDirection 46 = .ok (.bipush 119, 2) := by decide +kernel
theorem dX0_readDirection_48 : decode cX0_readDirection 48 = .ok (.invokevirtual 40, 3) := by decide +kernel
theorem dX0_readDirection_51 : decode cX0_readDirection 51 = .ok (.ifCond .eq 15, 3) := by decide +kernel
theorem dX0_readDirection_54 : decode cX0_readDirection 54 = .ok (.aload_n 0, 1) := by decide +kernel
theorem dX0_readDirection_55 : decode cX0_readDirection 55 = .ok (.iconst 3, 1) := by decide +kernel
theorem dX0_readDirection_56 : decode cX0_readDirection 56 = .ok (.invokevirtual 83, 3) := by decide +kernel
theorem dX0_readDirection_59 : decode cX0_readDirection 59 = .ok (.ifCond .eq 7, 3) := by decide +kernel
theorem dX0_readDirection_62 : decode cX0_readDirection 62 = .ok (.iconst 1, 1) := by decide +kernel
theorem dX0_readDirection_63 : decode cX0_readDirection 63 = .ok (.goto 4, 3) := by decide +kernel
theorem dX0_readDirection_66 : decode cX0_readDirection 66 = .ok (.iconst 0, 1) := by decide +kernel
theorem dX0_readDirection_67 : decode cX0_readDirection 67 = .ok (.ireturn, 1) := by decide +kernel
theorem dX0_keepNumber_0 : decode cX0_keepNumber 0 = .ok (.aload_n 0, 1) := by decide +kernel
theorem dX0_keepNumber_1 : decode cX0_keepNumber 1 = .ok (.getfield 30, 3) := by decide +kernel
theorem dX0_keepNumber_4 : decode cX0_keepNumber 4 = .ok (.bipush 30, 2) := by decide +kernel
theorem dX0_keepNumber_6 : decode cX0_keepNumber 6 = .ok (.if_icmp .ge 11, 3) := by decide +kernel
theorem dX0_keepNumber_9 : decode cX0_keepNumber 9 = .ok (.aload_n 0, 1) := by decide +kernel
theorem dX0_keepNumber_10 : decode cX0_keepNumber 10 = .ok (.getfield 48, 3) := by decide +kernel
theorem dX0_keepNumber_13 : decode cX0_keepNumber 13 = .ok (.iconst 3, 1) := by decide +kernel
theorem dX0_keepNumber_14 : decode cX0_keepNumber 14 = .ok (.if_icmp .lt 5, 3) := by decide +kernel
theorem dX0_keepNumber_17 : decode cX0_keepNumber 17 = .ok (.iconst 0, 1) := by decide +kernel
theorem dX0_keepNumber_18 : decode cX0_keepNumber 18 = .ok (.ireturn, 1) := by decide +kernel
theorem dX0_keepNumber_19 : decode cX0_keepNumber 19 = .ok (.aload_n 0, 1) := by decide +kernel
theorem dX0_keepNumber_20 : decode cX0_keepNumber 20 = .ok (.getfield 20, 3) := by decide +kernel
theorem dX0_keepNumber_23 : decode cX0_keepNumber 23 = .ok (.aload_n 0, 1) := by decide +kernel
theorem dX0_keepNumber_24 : decode cX0_keepNumber 24 = .ok (.getfield 30, 3) := by decide +kernel
theorem dX0_keepNumber_27 : decode cX0_keepNumber 27 = .ok (.aaload, 1) := by decide +kernel
theorem dX0_keepNumber_28 : decode cX0_keepNumber 28 = .ok (.aload_n 0, 1) := by decide +kernel
theorem dX0_keepNumber_29 : decode cX0_keepNumber 29 = .ok (.getfield 48, 3) := by decide +kernel
theorem dX0_keepNumber_32 : decode cX0_keepNumber 32 = .ok (.iload_n 1, 1) := by decide +kernel
theorem dX0_keepNumber_33 : decode cX0_keepNumber 33 = .ok (.iastore, 1) := by decide +kernel
theorem dX0_keepNumber_34 : decode cX0_keepNumber 34 = .ok (.aload_n 0, 1) := by decide +kernel
theorem dX0_keepNumber_35 : decode cX0_keepNumber 35 = .ok (.dup, 1) := by decide +kernel
theorem dX0_keepNumber_36 : decode cX0_keepNumber 36 = .ok (.getfield 48, 3) := by decide +kernel
theorem dX0_keepNumber_39 : decode cX0_keepNumber 39 = .ok (.iconst 1, 1) := by decide +kernel
theorem dX0_keepNumber_40 : decode cX0_keepNumber 40 = .ok (.iadd, 1) := by decide +kernel
theorem dX0_keepNumber_41 : decode cX0_keepNumber 41 = .ok (.putfield 48, 3) := by decide +kernel
theorem dX0_keepNumber_44 : decode cX0_keepNumber 44 = .ok (.iconst 1, 1) := by decide +kernel
theorem dX0_keepNumber_45 : decode cX0_keepNumber 45 = .ok (.ireturn, 1) := by decide +kernel
theorem dX1_init_0 : decode cX1_init 0 = .ok (.aload_n 0, 1) := by decide +kernel
theorem dX1_init_1 : decode cX1_init 1 = .ok (.invokespecial 1, 3) := by decide +kernel
theorem dX1_init_4 : decode cX1_init 4 = .ok (.return_, 1) := by decide +kernel
theorem dX1_copyFrom_0 : decode cX1_copyFrom 0 = .ok (.aload_n 0, 1) := by decide +kernel
theorem dX1_copyFrom_1 : decode cX1_copyFrom 1 = .ok (.aload_n 1, 1) := by decide +kernel
theorem dX1_copyFrom_2 : decode cX1_copyFrom 2 = .ok (.getfield 7, 3) := by decide +kernel
theorem dX1_copyFrom_5 : decode cX1_copyFrom 5 = .ok (.putfield 7, 3) := by decide +kernel
theorem dX1_copyFrom_8 : decode cX1_copyFrom 8 = .ok (.aload_n 0, 1) := by decide +kernel
theorem dX1_copyFrom_9 : decode cX1_copyFrom 9 = .ok (.aload_n 1, 1) := by decide +kernel
theorem dX1_copyFrom_10 : decode cX1_copyFrom 10 = .ok (.getfield 13, 3) := by decide +kernel
theorem dX1_copyFrom_13 : decode cX1_copyFrom 13 = .ok (.putfield 13, 3) := by decide +kernel
theorem dX1_copyFrom_16 : decode cX1_copyFrom 16 = .ok (.aload_n 0, 1) := by decide +kernel
theorem dX1_copyFrom_17 : decode cX1_copyFrom 17 = .ok (.aload_n 1, 1) := by decide +kernel
theorem dX1_copyFrom_18 : decode cX1_copyFrom 18 = .ok (.getfield 16, 3) := by decide +kernel
theorem dX1_copyFrom_21 : decode cX1_copyFrom 21 = .ok (.putfield 16, 3) := by decide +kernel
theorem dX1_copyFrom_24 : decode cX1_copyFrom 24 = .ok (.aload_n 0, 1) := by decide +kernel
theorem dX1_copyFrom_25 : decode cX1_copyFrom 25 = .ok (.aload_n 1, 1) := by decide +kernel
theorem dX1_copyFrom_26 : decode cX1_copyFrom 26 = .ok (.getfield 19, 3) := by decide +kernel
theorem dX1_copyFrom_29 : decode cX1_copyFrom 29 = .ok (.putfield 19, 3) := by decide +kernel
theorem dX1_copyFrom_32 : decode cX1_copyFrom 32 = .ok (.return_, 1) := by decide +kernel
theorem dX1_arrive_0 : decode cX1_arrive 0 = .ok (.aload_n 0, 1) := by decide +kernel
theorem dX1_arrive_1 : decode cX1_arrive 1 = .ok (.iload_n 1, 1) := by decide +kernel
theorem dX1_arrive_2 : decode cX1_arrive 2 = .ok (.putfield 7, 3) := by decide +kernel
theorem dX1_arrive_5 : decode cX1_arrive 5 = .ok (.aload_n 0, 1) := by decide +kernel
theorem dX1_arrive_6 : decode cX1_arrive 6 = .ok (.iconst 0, 1) := by decide +kernel
theorem dX1_arrive_7 : decode cX1_arrive 7 = .ok (.putfield 13, 3) := by decide +kernel
theorem dX1_arrive_10 : decode cX1_arrive 10 = .ok (.aload_n 0, 1) := by decide +kernel
theorem dX1_arrive_11 : decode cX1_arrive 11 = .ok (.iconst 0, 1) := by decide +kernel
theorem dX1_arrive_12 : decode cX1_arrive 12 = .ok (.putfield 16, 3) := by decide +kernel
theorem dX1_arrive_15 : decode cX1_arrive 15 = .ok (.aload_n 0, 1) := by decide +kernel
theorem dX1_arrive_16 : decode cX1_arrive 16 = .ok (.iconst 0, 1) := by decide +kernel
theorem dX1_arrive_17 : decode cX1_arrive 17 = .ok (.putfield 19, 3) := by decide +kernel
theorem dX1_arrive_20 : decode cX1_arrive 20 = .ok (.return_, 1) := by decide +kernel
theorem dX2_init_0 : decode cX2_init 0 = .ok (.aload_n 0, 1) := by decide +kernel
theorem dX2_init_1 : decode cX2_init 1 = .ok (.invokespecial 3, 3) := by decide +kernel
theorem dX2_init_4 : decode cX2_init 4 = .ok (.aload_n 0, 1) := by decide +kernel
theorem dX2_init_5 : decode cX2_init 5 = .ok (.bipush 8, 2) := by decide +kernel
theorem dX2_init_7 : decode cX2_init 7 = .ok (.anewarray 9, 3) := by decide +kernel
theorem dX2_init_10 : decode cX2_init 10 = .ok (.putfield 11, 3) := by decide +kernel
theorem dX2_init_13 : decode cX2_init 13 = .ok (.iconst 0, 1) := by decide +kernel
theorem dX2_init_14 : decode cX2_init 14 = .ok (.istore_n 1, 1) := by decide +kernel
theorem dX2_init_15 : decode cX2_init 15 = .ok (.iload_n 1, 1) := by decide +kernel
theorem dX2_init_16 : decode cX2_init 16 = .ok (.bipush 8, 2) := by decide +kernel
theorem dX2_init_18 : decode cX2_init 18 = .ok (.if_icmp .ge 22, 3) := by decide +kernel
theorem dX2_init_21 : decode cX2_init 21 = .ok (.aload_n 0, 1) := by decide +kernel
theorem dX2_init_22 : decode cX2_init 22 = .ok (.getfield 11, 3) := by decide +kernel
theorem dX2_init_25 : decode cX2_init 25 = .ok (.iload_n 1, 1) := by decide +kernel
theorem dX2_init_26 : decode cX2_init 26 = .ok (.new 9, 3) := by decide +kernel
theorem dX2_init_29 : decode cX2_init 29 = .ok (.dup, 1) := by decide +kernel
theorem dX2_init_30 : decode cX2_init 30 = .ok (.invokespecial 17, 3) := by decide +kernel
theorem dX2_init_33 : decode cX2_init 33 = .ok (.aastore, 1) := by decide +kernel
theorem dX2_init_34 : decode cX2_init 34 = .ok (.iinc 1 1, 3) := by decide +kernel
theorem dX2_init_37 : decode cX2_init 37 = .ok (.goto (-22), 3) := by decide +kernel
theorem dX2_init_40 : decode cX2_init 40 = .ok (.return_, 1) := by decide +kernel
theorem dX2_keep_0 : decode cX2_keep 0 = .ok (.aload_n 0, 1) := by decide +kernel
theorem dX2_keep_1 : decode cX2_keep 1 = .ok (.aload_n 0, 1) := by decide +kernel
theorem dX2_keep_2 : decode cX2_keep 2 = .ok (.getfield 18, 3) := by decide +kernel
theorem dX2_keep_5 : decode cX2_keep 5 = .ok (.iconst 1, 1) := by decide +kernel
theorem dX2_keep_6 : decode cX2_keep 6 = .ok (.iadd, 1) := by decide +kernel
theorem dX2_keep_7 : decode cX2_keep 7 = .ok (.bipush 8, 2) := by decide +kernel
theorem dX2_keep_9 : decode cX2_keep 9 = .ok (.irem, 1) := by decide +kernel
theorem dX2_keep_10 : decode cX2_keep 10 = .ok (.putfield 18, 3) := by decide +kernel
theorem dX2_keep_13 : decode cX2_keep 13 = .ok (.aload_n 0, 1) := by decide +kernel
theorem dX2_keep_14 : decode cX2_keep 14 = .ok (.getfield 11, 3) := by decide +kernel
theorem dX2_keep_17 : decode cX2_keep 17 = .ok (.aload_n 0, 1) := by decide +kernel
theorem dX2_keep_18 : decode cX2_keep 18 = .ok (.getfield 18, 3) := by decide +kernel
theorem dX2_keep_21 : decode cX2_keep 21 = .ok (.aaload, 1) := by decide +kernel
theorem dX2_keep_22 : decode cX2_keep 22 = .ok (.aload_n 1, 1) := by decide +kernel
theorem dX2_keep_23 : decode cX2_keep 23 = .ok (.invokevirtual 22, 3) := by decide +kernel
theorem dX2_keep_26 : decode cX2_keep 26 = .ok (.aload_n 0, 1) := by decide +kernel
theorem dX2_keep_27 : decode cX2_keep 27 = .ok (.bipush 8, 2) := by decide +kernel
theorem dX2_keep_29 : decode cX2_keep 29 = .ok (.aload_n 0, 1) := by decide +kernel
theorem dX2_keep_30 : decode cX2_keep 30 = .ok (.getfield 26, 3) := by decide +kernel
theorem dX2_keep_33 : decode cX2_keep 33 = .ok (.iconst 1, 1) := by decide +kernel
theorem dX2_keep_34 : decode cX2_keep 34 = .ok (.iadd, 1) := by decide +kernel
theorem dX2_keep_35 : decode cX2_keep 35 = .ok (.invokestatic 29, 3) := by decide +kernel
theorem dX2_keep_38 : decode cX2_keep 38 = .ok (.putfield 26, 3) := by decide +kernel
theorem dX2_keep_41 : decode cX2_keep 41 = .ok (.return_, 1) := by decide +kernel
theorem dX2_takeBack_0 : decode cX2_takeBack 0 = .ok (.aload_n 0, 1) := by decide +kernel
theorem dX2_takeBack_1 : decode cX2_takeBack 1 = .ok (.getfield 26, 3) := by decide +kernel
theorem dX2_takeBack_4 : decode cX2_takeBack 4 = .ok (.ifCond .le 42, 3) := by decide +kernel
theorem dX2_takeBack_7 : decode cX2_takeBack 7 = .ok (.aload_n 1, 1) := by decide +kernel
theorem dX2_takeBack_8 : decode cX2_takeBack 8 = .ok (.aload_n 0, 1) := by decide +kernel
theorem dX2_takeBack_9 : decode cX2_takeBack 9 = .ok (.getfield 11, 3) := by decide +kernel
theorem dX2_takeBack_12 : decode cX2_takeBack 12 = .ok (.aload_n 0, 1) := by decide +kernel
theorem dX2_takeBack_13 : decode cX2_takeBack 13 = .ok (.getfield 18, 3) := by decide +kernel
theorem dX2_takeBack_16 : decode cX2_takeBack 16 = .ok (.aaload, 1) := by decide +kernel
theorem dX2_takeBack_17 : decode cX2_takeBack 17 = .ok (.invokevirtual 22, 3) := by decide +kernel
theorem dX2_takeBack_20 : decode cX2_takeBack 20 = .ok (.aload_n 0, 1) := by decide +kernel
theorem dX2_takeBack_21 : decode cX2_takeBack 21 = .ok (.aload_n 0, 1) := by decide +kernel
theorem dX2_takeBack_22 : decode cX2_takeBack 22 = .ok (.getfield 18, 3) := by decide +kernel
theorem dX2_takeBack_25 : decode cX2_takeBack 25 = .ok (.bipush 8, 2) := by decide +kernel
theorem dX2_takeBack_27 : decode cX2_takeBack 27 = .ok (.iadd, 1) := by decide +kernel
theorem dX2_takeBack_28 : decode cX2_takeBack 28 = .ok (.iconst 1, 1) := by decide +kernel
theorem dX2_takeBack_29 : decode cX2_takeBack 29 = .ok (.isub, 1) := by decide +kernel
theorem dX2_takeBack_30 : decode cX2_takeBack 30 = .ok (.bipush 8, 2) := by decide +kernel
theorem dX2_takeBack_32 : decode cX2_takeBack 32 = .ok (.irem, 1) := by decide +kernel
theorem dX2_takeBack_33 : decode cX2_takeBack 33 = .ok (.putfield 18, 3) := by decide +kernel
theorem dX2_takeBack_36 : decode cX2_takeBack 36 = .ok (.aload_n 0, 1) := by decide +kernel
theorem dX2_takeBack_37 : decode cX2_takeBack 37 = .ok (.dup, 1) := by decide +kernel
theorem dX2_takeBack_38 : decode cX2_takeBack 38 = .ok (.getfield 26, 3) := by decide +kernel
theorem dX2_takeBack_41 : decode cX2_takeBack 41 = .ok (.iconst 1, 1) := by decide +kernel
theorem dX2_takeBack_42 : decode cX2_takeBack 42 = .ok (.isub, 1) := by decide +kernel
theorem dX2_takeBack_43 : decode cX2_takeBack 43 = .ok (.putfield 26, 3) := by decide +kernel
theorem dX2_takeBack_46 : decode cX2_takeBack 46 = .ok (.return_, 1) := by decide +kernel
theorem dX2_forget_0 : decode cX2_forget 0 = .ok (.aload_n 0, 1) := by decide +kernel
theorem dX2_forget_1 : decode cX2_forget 1 = .ok (.iconst 0, 1) := by decide +kernel
theorem dX2_forget_2 : decode cX2_forget 2 = .ok (.putfield 26, 3) := by decide +kernel
theorem dX2_forget_5 : decode cX2_forget 5 = .ok (.return_, 1) := by decide +kernel
theorem dX3_init_0 : decode cX3_init 0 = .ok (.aload_n 0, 1) := by decide +kernel
theorem dX3_init_1 : decode cX3_init 1 = .ok (.invokespecial 3, 3) := by decide +kernel
theorem dX3_init_4 : decode cX3_init 4 = .ok (.aload_n 0, 1) := by decide +kernel
theorem dX3_init_5 : decode cX3_init 5 = .ok (.aload_n 1, 1) := by decide +kernel
theorem dX3_init_6 : decode cX3_init 6 = .ok (.putfield 9, 3) := by decide +kernel
theorem dX3_init_9 : decode cX3_init 9 = .ok (.aload_n 0, 1) := by decide +kernel
theorem dX3_init_10 : decode cX3_init 10 = .ok (.aload_n 2, 1) := by decide +kernel
theorem dX3_init_11 : decode cX3_init 11 = .ok (.putfield 15, 3) := by decide +kernel
theorem dX3_init_14 : decode cX3_init 14 = .ok (.aload_n 0, 1) := by decide +kernel
theorem dX3_init_15 : decode cX3_init 15 = .ok (.aload_n 3, 1) := by decide +kernel
theorem dX3_init_16 : decode cX3_init 16 = .ok (.putfield 19, 3) := by decide +kernel
theorem dX3_init_19 : decode cX3_init 19 = .ok (.return_, 1) := by decide +kernel
theorem dX3_carryOut_0 : decode cX3_carryOut 0 = .ok (.aload_n 1, 1) := by decide +kernel
theorem dX3_carryOut_1 : decode cX3_carryOut 1 = .ok (.iload_n 2, 1) := by decide +kernel
theorem dX3_carryOut_2 : decode cX3_carryOut 2 = .ok (.iconst 0, 1) := by decide +kernel
theorem dX3_carryOut_3 : decode cX3_carryOut 3 = .ok (.invokevirtual 23, 3) := by decide +kernel
theorem dX3_carryOut_6 : decode cX3_carryOut 6 = .ok (.istore_n 3, 1) := by decide +kernel
theorem dX3_carryOut_7 : decode cX3_carryOut 7 = .ok (.aload_n 1, 1) := by decide +kernel
theorem dX3_carryOut_8 : decode cX3_carryOut 8 = .ok (.iload_n 2, 1) := by decide +kernel
theorem dX3_carryOut_9 : decode cX3_carryOut 9 = .ok (.iconst 1, 1) := by decide +kernel
theorem dX3_carryOut_10 : decode cX3_carryOut 10 = .ok (.invokevirtual 23, 3) := by decide +kernel
theorem dX3_carryOut_13 : decode cX3_carryOut 13 = .ok (.istore 4, 2) := by decide +kernel
theorem dX3_carryOut_15 : decode cX3_carryOut 15 = .ok (.aload_n 1, 1) := by decide +kernel
theorem dX3_carryOut_16 : decode cX3_carryOut 16 = .ok (.iload_n 2, 1) := by decide +kernel
theorem dX3_carryOut_17 : decode cX3_carryOut 17 = .ok (.iconst 2, 1) := by decide +kernel
theorem dX3_carryOut_18 : decode cX3_carryOut 18 = .ok (.invokevirtual 23, 3) := by decide +kernel
theorem dX3_carryOut_21 : decode cX3_carryOut 21 = .ok (.istore 5, 2) := by decide +kernel
theorem dX3_carryOut_23 : decode cX3_carryOut 23 = .ok (.aload_n 1, 1) := by decide +kernel
theorem dX3_carryOut_24 : decode cX3_carryOut 24 = .ok (.iload_n 2, 1) := by decide +kernel
theorem dX3_carryOut_25 : decode cX3_carryOut 25 = .ok (.invokevirtual 29, 3) := by decide +kernel
theorem dX3_carryOut_28 : decode cX3_carryOut 28 = .ok (.tableswitch 165 98 119 #[147, 165, 165, 165, 165, 135, 104, 165, 165, 165, 165, 129, 165, 165, 165, 165, 165, 114, 119, 165, 141, 157], 104) := by decide +kernel
theorem dX3_carryOut_132 : decode cX3_carryOut 132 = .ok (.aload_n 0, 1) := by decide +kernel
theorem dX3_carryOut_133 : decode cX3_carryOut 133 = .ok (.iload_n 3, 1) := by decide +kernel
theorem dX3_carryOut_134 : decode cX3_carryOut 134 = .ok (.iload 4, 2) := by decide +kernel
theorem dX3_carryOut_136 : decode cX3_carryOut 136 = .ok (.iload 5, 2) := by decide +kernel
theorem dX3_carryOut_138 : decode cX3_carryOut 138 = .ok (.invokevirtual 33, 3) := by decide +kernel
theorem dX3_carryOut_141 : decode cX3_carryOut 141 = .ok (.ireturn, 1) := by decide +kernel
theorem dX3_carryOut_142 : decode cX3_carryOut 142 = .ok (.aload_n 0, 1) := by decide +kernel
theorem dX3_carryOut_143 : decode cX3_carryOut 143 = .ok (.invokevirtual 37, 3) := by decide +kernel
theorem dX3_carryOut_146 : decode cX3_carryOut 146 = .ok (.ireturn, 1) := by decide +kernel
theorem dX3_carryOut_147 : decode cX3_carryOut 147 = .ok (.aload_n 0, 1) := by decide +kernel
theorem dX3_carryOut_148 : decode cX3_carryOut 148 = .ok (.iload_n 3, 1) := by decide +kernel
theorem dX3_carryOut_149 : decode cX3_carryOut 149 = .ok (.iload 4, 2) := by decide +kernel
theorem dX3_carryOut_151 : decode cX3_carryOut 151 = .ok (.iload 5, 2) := by decide +kernel
theorem dX3_carryOut_153 : decode cX3_carryOut 153 = .ok (.invokevirtual 41, 3) := by decide +kernel
theorem dX3_carryOut_156 : decode cX3_carryOut 156 = .ok (.ireturn, 1) := by decide +kernel
theorem dX3_carryOut_157 : decode cX3_carryOut 157 = .ok (.aload_n 0, 1) := by decide +kernel
theorem dX3_carryOut_158 : decode cX3_carryOut 158 = .ok (.iload_n 3, 1) := by decide +kernel
theorem dX3_carryOut_159 : decode cX3_carryOut 159 = .ok (.invokevirtual 44, 3) := by decide +kernel
theorem dX3_carryOut_162 : decode cX3_carryOut 162 = .ok (.ireturn, 1) := by decide +kernel
theorem dX3_carryOut_163 : decode cX3_carryOut 163 = .ok (.aload_n 0, 1) := by decide +kernel
theorem dX3_carryOut_164 : decode cX3_carryOut 164 = .ok (.iload_n 3, 1) := by decide +kernel
theorem dX3_carryOut_165 : decode cX3_carryOut 165 = .ok (.invokevirtual 48, 3) := by decide +kernel
theorem dX3_carryOut_168 : decode cX3_carryOut 168 = .ok (.ireturn, 1) := by decide +kernel
theorem dX3_carryOut_169 : decode cX3_carryOut 169 = .ok (.aload_n 0, 1) := by decide +kernel
theorem dX3_carryOut_170 : decode cX3_carryOut 170 = .ok (.iload_n 3, 1) := by decide +kernel
theorem dX3_carryOut_171 : decode cX3_carryOut 171 = .ok (.invokevirtual 51, 3) := by decide +kernel
theorem dX3_carryOut_174 : decode cX3_carryOut 174 = .ok (.ireturn, 1) := by decide +kernel
theorem dX3_carryOut_175 : decode cX3_carryOut 175 = .ok (.aload_n 0, 1) := by decide +kernel
theorem dX3_carryOut_176 : decode cX3_carryOut 176 = .ok (.iload_n 3, 1) := by decide +kernel
theorem dX3_carryOut_177 : decode cX3_carryOut 177 = .ok (.iload 4, 2) := by decide +kernel
theorem dX3_carryOut_179 : decode cX3_carryOut 179 = .ok (.iload 5, 2) := by decide +kernel
theorem dX3_carryOut_181 : decode cX3_carryOut 181 = .ok (.invokevirtual 54, 3) := by decide +kernel
theorem dX3_carryOut_184 : decode cX3_carryOut 184 = .ok (.ireturn, 1) := by decide +kernel
theorem dX3_carryOut_185 : decode cX3_carryOut 185 = .ok (.aload_n 0, 1) := by decide +kernel
theorem dX3_carryOut_186 : decode cX3_carryOut 186 = .ok (.iload_n 3, 1) := by decide +kernel
theorem dX3_carryOut_187 : decode cX3_carryOut 187 = .ok (.iload 4, 2) := by decide +kernel
theorem dX3_carryOut_189 : decode cX3_carryOut 189 = .ok (.invokevirtual 57, 3) := by decide +kernel
theorem dX3_carryOut_192 : decode cX3_carryOut 192 = .ok (.ireturn, 1) := by decide +kernel
theorem dX3_carryOut_193 : decode cX3_carryOut 193 = .ok (.aload_n 0, 1) := by decide +kernel
theorem dX3_carryOut_194 : decode cX3_carryOut 194 = .ok (.iload_n 3, 1) := by decide +kernel
theorem dX3_carryOut_195 : decode cX3_carryOut 195 = .ok (.iload 4, 2) := by decide +kernel
theorem dX3_carryOut_197 : decode cX3_carryOut 197 = .ok (.invokevirtual 60, 3) := by decide +kernel
theorem dX3_carryOut_200 : decode cX3_carryOut 200 = .ok (.ireturn, 1) := by decide +kernel
theorem dX3_tellLeaves_0 : decode cX3_tellLeaves 0 = .ok (.iload_n 3, 1) := by decide +kernel
theorem dX3_tellLeaves_1 : decode cX3_tellLeaves 1 = .ok (.ifCond .lt 9, 3) := by decide +kernel
theorem dX3_tellLeaves_4 : decode cX3_tellLeaves 4 = .ok (.iload_n 3, 1) := by decide +kernel
theorem dX3_tellLeaves_5 : decode cX3_tellLeaves 5 = .ok (.bipush 9, 2) := by decide +kernel
theorem dX3_tellLeaves_7 : decode cX3_tellLeaves 7 = .ok (.if_icmp .le 13, 3) := by decide +kernel
theorem dX3_tellLeaves_10 : decode cX3_tellLeaves 10 = .ok (.aload_n 0, 1) := by decide +kernel
theorem dX3_tellLeaves_11 : decode cX3_tellLeaves 11 = .ok (.getfield 19, 3) := by decide +kernel
theorem dX3_tellLeaves_14 : decode cX3_tellLeaves 14 = .ok (.iconst 1, 1) := by decide +kernel
theorem dX3_tellLeaves_15 : decode cX3_tellLeaves 15 = .ok (.iconst 0, 1) := by decide +kernel
theorem dX3_tellLeaves_16 : decode cX3_tellLeaves 16 = .ok (.invokevirtual 63, 3) := by decide +kernel
theorem dX3_tellLeaves_19 : decode cX3_tellLeaves 19 = .ok (.ireturn, 1) := by decide +kernel
theorem dX3_tellLeaves_20 : decode cX3_tellLeaves 20 = .ok (.aload_n 0, 1) := by decide +kernel
theorem dX3_tellLeaves_21 : decode cX3_tellLeaves 21 = .ok (.iload_n 1, 1) := by decide +kernel
theorem dX3_tellLeaves_22 : decode cX3_tellLeaves 22 = .ok (.iload_n 2, 1) := by decide +kernel
theorem dX3_tellLeaves_23 : decode cX3_tellLeaves 23 = .ok (.invokevirtual 68, 3) := by decide +kernel
theorem dX3_tellLeaves_26 : decode cX3_tellLeaves 26 = .ok (.istore 4, 2) := by decide +kernel
theorem dX3_tellLeaves_28 : decode cX3_tellLeaves 28 = .ok (.iload 4, 2) := by decide +kernel
theorem dX3_tellLeaves_30 : decode cX3_tellLeaves 30 = .ok (.iconst (-1), 1) := by decide +kernel
theorem dX3_tellLeaves_31 : decode cX3_tellLeaves 31 = .ok (.if_icmp .ne 5, 3) := by decide +kernel
theorem dX3_tellLeaves_34 : decode cX3_tellLeaves 34 = .ok (.iconst (-1), 1) := by decide +kernel
theorem dX3_tellLeaves_35 : decode cX3_tellLeaves 35 = .ok (.ireturn, 1) := by decide +kernel
theorem dX3_tellLeaves_36 : decode cX3_tellLeaves 36 = .ok (.aload_n 0, 1) := by decide +kernel
theorem dX3_tellLeaves_37 : decode cX3_tellLeaves 37 = .ok (.getfield 9, 3) := by decide +kernel
theorem dX3_tellLeaves_40 : decode cX3_tellLeaves 40 = .ok (.getfield 71, 3) := by decide +kernel
theorem dX3_tellLeaves_43 : decode cX3_tellLeaves 43 = .ok (.iload 4, 2) := by decide +kernel
theorem dX3_tellLeaves_45 : decode cX3_tellLeaves 45 = .ok (.invokevirtual 77, 3) := by decide +kernel
theorem dX3_tellLeaves_48 : decode cX3_tellLeaves 48 = .ok (.istore 5, 2) := by decide +kernel
theorem dX3_tellLeaves_50 : decode cX3_tellLeaves 50 = .ok (.iload 5, 2) := by decide +kernel
theorem dX3_tellLeaves_52 : decode cX3_tellLeaves 52 = .ok (.iload_n 3, 1) := by decide +kernel
theorem dX3_tellLeaves_53 : decode cX3_tellLeaves 53 = .ok (.if_icmp .ne 13, 3) := by decide +kernel
theorem dX3_tellLeaves_56 : decode cX3_tellLeaves 56 = .ok (.aload_n 0, 1) := by decide +kernel
theorem dX3_tellLeaves_57 : decode cX3_tellLeaves 57 = .ok (.getfield 19, 3) := by decide +kernel
theorem dX3_tellLeaves_60 : decode cX3_tellLeaves 60 = .ok (.iconst 3, 1) := by decide +kernel
theorem dX3_tellLeaves_61 : decode cX3_tellLeaves 61 = .ok (.iload_n 3, 1) := by decide +kernel
theorem dX3_tellLeaves_62 : decode cX3_tellLeaves 62 = .ok (.invokevirtual 63, 3) := by decide +kernel
theorem dX3_tellLeaves_65 : decode cX3_tellLeaves 65 = .ok (.ireturn, 1) := by decide +kernel
theorem dX3_tellLeaves_66 : decode cX3_tellLeaves 66 = .ok (.aload_n 0, 1) := by decide +kernel
theorem dX3_tellLeaves_67 : decode cX3_tellLeaves 67 = .ok (.getfield 9, 3) := by decide +kernel
theorem dX3_tellLeaves_70 : decode cX3_tellLeaves 70 = .ok (.getfield 71, 3) := by decide +kernel
theorem dX3_tellLeaves_73 : decode cX3_tellLeaves 73 = .ok (.iload 4, 2) := by decide +kernel
theorem dX3_tellLeaves_75 : decode cX3_tellLeaves 75 = .ok (.iload_n 3, 1) := by decide +kernel
theorem dX3_tellLeaves_76 : decode cX3_tellLeaves 76 = .ok (.invokevirtual 82, 3) := by decide +kernel
theorem dX3_tellLeaves_79 : decode cX3_tellLeaves 79 = .ok (.iload 5, 2) := by decide +kernel
theorem dX3_tellLeaves_81 : decode cX3_tellLeaves 81 = .ok (.ireturn, 1) := by decide +kernel
theorem dX3_hedgeOrRefusal_0 : decode cX3_hedgeOrRefusal 0 = .ok (.iload_n 1, 1) := by decide +kernel
theorem dX3_hedgeOrRefusal_1 : decode cX3_hedgeOrRefusal 1 = .ok (.invokestatic 86, 3) := by decide +kernel
theorem dX3_hedgeOrRefusal_4 : decode cX3_hedgeOrRefusal 4 = .ok (.ifCond .eq 10, 3) := by decide +kernel
theorem dX3_hedgeOrRefusal_7 : decode cX3_hedgeOrRefusal 7 = .ok (.iload_n 2, 1) := by decide +kernel
theorem dX3_hedgeOrRefusal_8 : decode cX3_hedgeOrRefusal 8 = .ok (.invokestatic 86, 3) := by decide +kernel
theorem dX3_hedgeOrRefusal_11 : decode cX3_hedgeOrRefusal 11 = .ok (.ifCond .ne 15, 3) := by decide +kernel
theorem dX3_hedgeOrRefusal_14 : decode cX3_hedgeOrRefusal 14 = .ok (.aload_n 0, 1) := by decide +kernel
theorem dX3_hedgeOrRefusal_15 : decode cX3_hedgeOrRefusal 15 = .ok (.getfield 19, 3) := by decide +kernel
theorem dX3_hedgeOrRefusal_18 : decode cX3_hedgeOrRefusal 18 = .ok (.iconst 1, 1) := by decide +kernel
theorem dX3_hedgeOrRefusal_19 : decode cX3_hedgeOrRefusal 19 = .ok (.iconst 0, 1) := by decide +kernel
theorem dX3_hedgeOrRefusal_20 : decode cX3_hedgeOrRefusal 20 = .ok (.invokevirtual 63, 3) := by decide +kernel
theorem dX3_hedgeOrRefusal_23 : decode cX3_hedgeOrRefusal 23 = .ok (.pop, 1) := by decide +kernel
theorem dX3_hedgeOrRefusal_24 : decode cX3_hedgeOrRefusal 24 = .ok (.iconst (-1), 1) := by decide +kernel
theorem dX3_hedgeOrRefusal_25 : decode cX3_hedgeOrRefusal 25 = .ok (.ireturn, 1) := by decide +kernel
theorem dX3_hedgeOrRefusal_26 : decode cX3_hedgeOrRefusal 26 = .ok (.iload_n 1, 1) := by decide +kernel
theorem dX3_hedgeOrRefusal_27 : decode cX3_hedgeOrRefusal 27 = .ok (.iload_n 2, 1) := by decide +kernel
theorem dX3_hedgeOrRefusal_28 : decode cX3_hedgeOrRefusal 28 = .ok (.invokestatic 90, 3) := by decide +kernel
theorem dX3_hedgeOrRefusal_31 : decode cX3_hedgeOrRefusal 31 = .ok (.istore_n 3, 1) := by decide +kernel
theorem dX3_hedgeOrRefusal_32 : decode cX3_hedgeOrRefusal 32 = .ok (.iload_n 3, 1) := by decide +kernel
theorem dX3_hedgeOrRefusal_33 : decode cX3_hedgeOrRefusal 33 = .ok (.iconst (-1), 1) := by decide +kernel
theorem dX3_hedgeOrRefusal_34 : decode cX3_hedgeOrRefusal 34 = .ok (.if_icmp .ne 17, 3) := by decide +kernel
theorem dX3_hedgeOrRefusal_37 : decode cX3_hedgeOrRefusal 37 = .ok (.aload_n 0, 1) := by decide +kernel
theorem dX3_hedgeOrRefusal_38 : decode cX3_hedgeOrRefusal 38 = .ok (.getfield 19, 3) := by decide +kernel
theorem dX3_hedgeOrRefusal_41 : decode cX3_hedgeOrRefusal 41 = .ok (.iconst 2, 1) := by decide +kernel
theorem dX3_hedgeOrRefusal_42 : decode cX3_hedgeOrRefusal 42 = .ok (.iload_n 1, 1) := by decide +kernel
theorem dX3_hedgeOrRefusal_43 : decode cX3_hedgeOrRefusal 43 = .ok (.iload_n 2, 1) := by decide +kernel
theorem dX3_hedgeOrRefusal_44 : decode cX3_hedgeOrRefusal 44 = .ok (.invokestatic 93, 3) := by decide +kernel
theorem dX3_hedgeOrRefusal_47 : decode cX3_hedgeOrRefusal 47 = .ok (.invokevirtual 63, 3) := by decide +kernel
theorem dX3_hedgeOrRefusal_50 : decode cX3_hedgeOrRefusal 50 = .ok (.pop, 1) := by decide +kernel
theorem dX3_hedgeOrRefusal_51 : decode cX3_hedgeOrRefusal 51 = .ok (.iload_n 3, 1) := by decide +kernel
theorem dX3_hedgeOrRefusal_52 : decode cX3_hedgeOrRefusal 52 = .ok (.ireturn, 1) := by decide +kernel
theorem dX3_passSummer_0 : decode cX3_passSummer 0 = .ok (.aload_n 0, 1) := by decide +kernel
theorem dX3_passSummer_1 : decode cX3_passSummer 1 = .ok (.getfield 9, 3) := by decide +kernel
theorem dX3_passSummer_4 : decode cX3_passSummer 4 = .ok (.getfield 71, 3) := by decide +kernel
theorem dX3_passSummer_7 : decode cX3_passSummer 7 = .ok (.invokevirtual 98, 3) := by decide +kernel
theorem dX3_passSummer_10 : decode cX3_passSummer 10 = .ok (.istore_n 1, 1) := by decide +kernel
theorem dX3_passSummer_11 : decode cX3_passSummer 11 = .ok (.aload_n 0, 1) := by decide +kernel
theorem dX3_passSummer_12 : decode cX3_passSummer 12 = .ok (.getfield 9, 3) := by decide +kernel
theorem dX3_passSummer_15 : decode cX3_passSummer 15 = .ok (.getfield 71, 3) := by decide +kernel
theorem dX3_passSummer_18 : decode cX3_passSummer 18 = .ok (.invokevirtual 101, 3) := by decide +kernel
theorem dX3_passSummer_21 : decode cX3_passSummer 21 = .ok (.aload_n 0, 1) := by decide +kernel
theorem dX3_passSummer_22 : decode cX3_passSummer 22 = .ok (.getfield 9, 3) := by decide +kernel
theorem dX3_passSummer_25 : decode cX3_passSummer 25 = .ok (.dup, 1) := by decide +kernel
theorem dX3_passSummer_26 : decode cX3_passSummer 26 = .ok (.getfield 104, 3) := by decide +kernel
theorem dX3_passSummer_29 : decode cX3_passSummer 29 = .ok (.iconst 1, 1) := by decide +kernel
theorem dX3_passSummer_30 : decode cX3_passSummer 30 = .ok (.iadd, 1) := by decide +kernel
theorem dX3_passSummer_31 : decode cX3_passSummer 31 = .ok (.putfield 104, 3) := by decide +kernel
theorem dX3_passSummer_34 : decode cX3_passSummer 34 = .ok (.iload_n 1, 1) := by decide +kernel
theorem dX3_passSummer_35 : decode cX3_passSummer 35 = .ok (.aload_n 0, 1) := by decide +kernel
theorem dX3_passSummer_36 : decode cX3_passSummer 36 = .ok (.getfield 9, 3) := by decide +kernel
theorem dX3_passSummer_39 : decode cX3_passSummer 39 = .ok (.getfield 71, 3) := by decide +kernel
theorem dX3_passSummer_42 : decode cX3_passSummer 42 = .ok (.invokevirtual 98, 3) := by decide +kernel
theorem dX3_passSummer_45 : decode cX3_passSummer 45 = .ok (.isub, 1) := by decide +kernel
theorem dX3_passSummer_46 : decode cX3_passSummer 46 = .ok (.ireturn, 1) := by decide +kernel
theorem dX3_trimHedge_0 : decode cX3_trimHedge 0 = .ok (.aload_n 0, 1) := by decide +kernel
theorem dX3_trimHedge_1 : decode cX3_trimHedge 1 = .ok (.getfield 9, 3) := by decide +kernel
theorem dX3_trimHedge_4 : decode cX3_trimHedge 4 = .ok (.iload_n 1, 1) := by decide +kernel
theorem dX3_trimHedge_5 : decode cX3_trimHedge 5 = .ok (.invokevirtual 108, 3) := by decide +kernel
theorem dX3_trimHedge_8 : decode cX3_trimHedge 8 = .ok (.astore 4, 2) := by decide +kernel
theorem dX3_trimHedge_10 : decode cX3_trimHedge 10 = .ok (.aload 4, 2) := by decide +kernel
theorem dX3_trimHedge_12 : decode cX3_trimHedge 12 = .ok (.ifnonnull 19, 3) := by decide +kernel
theorem dX3_trimHedge_15 : decode cX3_trimHedge 15 = .ok (.aload_n 0, 1) := by decide +kernel
theorem dX3_trimHedge_16 : decode cX3_trimHedge 16 = .ok (.getfield 19, 3) := by decide +kernel
theorem dX3_trimHedge_19 : decode cX3_trimHedge 19 = .ok (.iconst 4, 1) := by decide +kernel
theorem dX3_trimHedge_20 : decode cX3_trimHedge 20 = .ok (.aload_n 0, 1) := by decide +kernel
theorem dX3_trimHedge_21 : decode cX3_trimHedge 21 = .ok (.getfield 9, 3) := by decide +kernel
theorem dX3_trimHedge_24 : decode cX3_trimHedge 24 = .ok (.getfield 112, 3) := by decide +kernel
theorem dX3_trimHedge_27 : decode cX3_trimHedge 27 = .ok (.invokevirtual 63, 3) := by decide +kernel
theorem dX3_trimHedge_30 : decode cX3_trimHedge 30 = .ok (.ireturn, 1) := by decide +kernel
theorem dX3_trimHedge_31 : decode cX3_trimHedge 31 = .ok (.aload_n 0, 1) := by decide +kernel
theorem dX3_trimHedge_32 : decode cX3_trimHedge 32 = .ok (.iload_n 2, 1) := by decide +kernel
theorem dX3_trimHedge_33 : decode cX3_trimHedge 33 = .ok (.iload_n 3, 1) := by decide +kernel
theorem dX3_trimHedge_34 : decode cX3_trimHedge 34 = .ok (.invokevirtual 68, 3) := by decide +kernel
theorem dX3_trimHedge_37 : decode cX3_trimHedge 37 = .ok (.istore 5, 2) := by decide +kernel
theorem dX3_trimHedge_39 : decode cX3_trimHedge 39 = .ok (.iload 5, 2) := by decide +kernel
theorem dX3_trimHedge_41 : decode cX3_trimHedge 41 = .ok (.iconst (-1), 1) := by decide +kernel
theorem dX3_trimHedge_42 : decode cX3_trimHedge 42 = .ok (.if_icmp .ne 5, 3) := by decide +kernel
theorem dX3_trimHedge_45 : decode cX3_trimHedge 45 = .ok (.iconst (-1), 1) := by decide +kernel
theorem dX3_trimHedge_46 : decode cX3_trimHedge 46 = .ok (.ireturn, 1) := by decide +kernel
theorem dX3_trimHedge_47 : decode cX3_trimHedge 47 = .ok (.aload_n 0, 1) := by decide +kernel
theorem dX3_trimHedge_48 : decode cX3_trimHedge 48 = .ok (.getfield 9, 3) := by decide +kernel
theorem dX3_trimHedge_51 : decode cX3_trimHedge 51 = .ok (.getfield 71, 3) := by decide +kernel
theorem dX3_trimHedge_54 : decode cX3_trimHedge 54 = .ok (.iload 5, 2) := by decide +kernel
theorem dX3_trimHedge_56 : decode cX3_trimHedge 56 = .ok (.invokevirtual 77, 3) := by decide +kernel
theorem dX3_trimHedge_59 : decode cX3_trimHedge 59 = .ok (.ifCond .ne 13, 3) := by decide +kernel
theorem dX3_trimHedge_62 : decode cX3_trimHedge 62 = .ok (.aload_n 0, 1) := by decide +kernel
theorem dX3_trimHedge_63 : decode cX3_trimHedge 63 = .ok (.getfield 19, 3) := by decide +kernel
theorem dX3_trimHedge_66 : decode cX3_trimHedge 66 = .ok (.iconst 3, 1) := by decide +kernel
theorem dX3_trimHedge_67 : decode cX3_trimHedge 67 = .ok (.iconst 0, 1) := by decide +kernel
theorem dX3_trimHedge_68 : decode cX3_trimHedge 68 = .ok (.invokevirtual 63, 3) := by decide +kernel
theorem dX3_trimHedge_71 : decode cX3_trimHedge 71 = .ok (.ireturn, 1) := by decide +kernel
theorem dX3_trimHedge_72 : decode cX3_trimHedge 72 = .ok (.aload 4, 2) := by decide +kernel
theorem dX3_trimHedge_74 : decode cX3_trimHedge 74 = .ok (.getfield 115, 3) := by decide +kernel
theorem dX3_trimHedge_77 : decode cX3_trimHedge 77 = .ok (.iconst 2, 1) := by decide +kernel
theorem dX3_trimHedge_78 : decode cX3_trimHedge 78 = .ok (.if_icmp .ge 19, 3) := by decide +kernel
theorem dX3_trimHedge_81 : decode cX3_trimHedge 81 = .ok (.aload_n 0, 1) := by decide +kernel
theorem dX3_trimHedge_82 : decode cX3_trimHedge 82 = .ok (.getfield 19, 3) := by decide +kernel
theorem dX3_trimHedge_85 : decode cX3_trimHedge 85 = .ok (.iconst 5, 1) := by decide +kernel
theorem dX3_trimHedge_86 : decode cX3_trimHedge 86 = .ok (.iconst 2, 1) := by decide +kernel
theorem dX3_trimHedge_87 : decode cX3_trimHedge 87 = .ok (.aload 4, 2) := by decide +kernel
theorem dX3_trimHedge_89 : decode cX3_trimHedge 89 = .ok (.getfield 115, 3) := by decide +kernel
theorem dX3_trimHedge_92 : decode cX3_trimHedge 92 = .ok (.isub, 1) := by decide +kernel
theorem dX3_trimHedge_93 : decode cX3_trimHedge 93 = .ok (.invokevirtual 63, 3) := by decide +kernel
theorem dX3_trimHedge_96 : decode cX3_trimHedge 96 = .ok (.ireturn, 1) := by decide +kernel
theorem dX3_trimHedge_97 : decode cX3_trimHedge 97 = .ok (.aload_n 0, 1) := by decide +kernel
theorem dX3_trimHedge_98 : decode cX3_trimHedge 98 = .ok (.getfield 9, 3) := by decide +kernel
theorem dX3_trimHedge_101 : decode cX3_trimHedge 101 = .ok (.getfield 71, 3) := by decide +kernel
theorem dX3_trimHedge_104 : decode cX3_trimHedge 104 = .ok (.iload 5, 2) := by decide +kernel
theorem dX3_trimHedge_106 : decode cX3_trimHedge 106 = .ok (.iconst 0, 1) := by decide +kernel
theorem dX3_trimHedge_107 : decode cX3_trimHedge 107 = .ok (.invokevirtual 82, 3) := by decide +kernel
theorem dX3_trimHedge_110 : decode cX3_trimHedge 110 = .ok (.aload 4, 2) := by decide +kernel
theorem dX3_trimHedge_112 : decode cX3_trimHedge 112 = .ok (.dup, 1) := by decide +kernel
theorem dX3_trimHedge_113 : decode cX3_trimHedge 113 = .ok (.getfield 115, 3) := by decide +kernel
theorem dX3_trimHedge_116 : decode cX3_trimHedge 116 = .ok (.iconst 2, 1) := by decide +kernel
theorem dX3_trimHedge_117 : decode cX3_trimHedge 117 = .ok (.isub, 1) := by decide +kernel
theorem dX3_trimHedge_118 : decode cX3_trimHedge 118 = .ok (.putfield 115, 3) := by decide +kernel
theorem dX3_trimHedge_121 : decode cX3_trimHedge 121 = .ok (.aload 4, 2) := by decide +kernel
theorem dX3_trimHedge_123 : decode cX3_trimHedge 123 = .ok (.dup, 1) := by decide +kernel
theorem dX3_trimHedge_124 : decode cX3_trimHedge 124 = .ok (.getfield 120, 3) := by decide +kernel
theorem dX3_trimHedge_127 : decode cX3_trimHedge 127 = .ok (.iconst 1, 1) := by decide +kernel
theorem dX3_trimHedge_128 : decode cX3_trimHedge 128 = .ok (.iadd, 1) := by decide +kernel
theorem dX3_trimHedge_129 : decode cX3_trimHedge 129 = .ok (.putfield 120, 3) := by decide +kernel
theorem dX3_trimHedge_132 : decode cX3_trimHedge 132 = .ok (.aload_n 0, 1) := by decide +kernel
theorem dX3_trimHedge_133 : decode cX3_trimHedge 133 = .ok (.getfield 9, 3) := by decide +kernel
theorem dX3_trimHedge_136 : decode cX3_trimHedge 136 = .ok (.dup, 1) := by decide +kernel
theorem dX3_trimHedge_137 : decode cX3_trimHedge 137 = .ok (.getfield 123, 3) := by decide +kernel
theorem dX3_trimHedge_140 : decode cX3_trimHedge 140 = .ok (.iconst 2, 1) := by decide +kernel
theorem dX3_trimHedge_141 : decode cX3_trimHedge 141 = .ok (.iadd, 1) := by decide +kernel
theorem dX3_trimHedge_142 : decode cX3_trimHedge 142 = .ok (.putfield 123, 3) := by decide +kernel
theorem dX3_trimHedge_145 : decode cX3_trimHedge 145 = .ok (.aload 4, 2) := by decide +kernel
theorem dX3_trimHedge_147 : decode cX3_trimHedge 147 = .ok (.getfield 115, 3) := by decide +kernel
theorem dX3_trimHedge_150 : decode cX3_trimHedge 150 = .ok (.ireturn, 1) := by decide +kernel
theorem dX3_placeMinotaur_0 : decode cX3_placeMinotaur 0 = .ok (.iload_n 1, 1) := by decide +kernel
theorem dX3_placeMinotaur_1 : decode cX3_placeMinotaur 1 = .ok (.iconst (-1), 1) := by decide +kernel
theorem dX3_placeMinotaur_2 : decode cX3_placeMinotaur 2 = .ok (.if_icmp .eq 20, 3) := by decide +kernel
theorem dX3_placeMinotaur_5 : decode cX3_placeMinotaur 5 = .ok (.iload_n 1, 1) := by decide +kernel
theorem dX3_placeMinotaur_6 : decode cX3_placeMinotaur 6 = .ok (.invokestatic 86, 3) := by decide +kernel
theorem dX3_placeMinotaur_9 : decode cX3_placeMinotaur 9 = .ok (.ifCond .ne 13, 3) := by decide +kernel
theorem dX3_placeMinotaur_12 : decode cX3_placeMinotaur 12 = .ok (.aload_n 0, 1) := by decide +kernel
theorem dX3_placeMinotaur_13 : decode cX3_placeMinotaur 13 = .ok (.getfield 19, 3) := by decide +kernel
theorem dX3_placeMinotaur_16 : decode cX3_placeMinotaur 16 = .ok (.iconst 1, 1) := by decide +kernel
theorem dX3_placeMinotaur_17 : decode cX3_placeMinotaur 17 = .ok (.iconst 0, 1) := by decide +kernel
theorem dX3_placeMinotaur_18 : decode cX3_placeMinotaur 18 = .ok (.invokevirtual 63, 3) := by decide +kernel
theorem dX3_placeMinotaur_21 : decode cX3_placeMinotaur 21 = .ok (.ireturn, 1) := by decide +kernel
theorem dX3_placeMinotaur_22 : decode cX3_placeMinotaur 22 = .ok (.iload_n 1, 1) := by decide +kernel
theorem dX3_placeMinotaur_23 : decode cX3_placeMinotaur 23 = .ok (.aload_n 0, 1) := by decide +kernel
theorem dX3_placeMinotaur_24 : decode cX3_placeMinotaur 24 = .ok (.getfield 9, 3) := by decide +kernel
theorem dX3_placeMinotaur_27 : decode cX3_placeMinotaur 27 = .ok (.getfield 126, 3) := by decide +kernel
theorem dX3_placeMinotaur_30 : decode cX3_placeMinotaur 30 = .ok (.if_icmp .ne 13, 3) := by decide +kernel
theorem dX3_placeMinotaur_33 : decode cX3_placeMinotaur 33 = .ok (.aload_n 0, 1) := by decide +kernel
theorem dX3_placeMinotaur_34 : decode cX3_placeMinotaur 34 = .ok (.getfield 19, 3) := by decide +kernel
theorem dX3_placeMinotaur_37 : decode cX3_placeMinotaur 37 = .ok (.iconst 3, 1) := by decide +kernel
theorem dX3_placeMinotaur_38 : decode cX3_placeMinotaur 38 = .ok (.iload_n 1, 1) := by decide +kernel
theorem dX3_placeMinotaur_39 : decode cX3_placeMinotaur 39 = .ok (.invokevirtual 63, 3) := by decide +kernel
theorem dX3_placeMinotaur_42 : decode cX3_placeMinotaur 42 = .ok (.ireturn, 1) := by decide +kernel
theorem dX3_placeMinotaur_43 : decode cX3_placeMinotaur 43 = .ok (.aload_n 0, 1) := by decide +kernel
theorem dX3_placeMinotaur_44 : decode cX3_placeMinotaur 44 = .ok (.getfield 9, 3) := by decide +kernel
theorem dX3_placeMinotaur_47 : decode cX3_placeMinotaur 47 = .ok (.iload_n 1, 1) := by decide +kernel
theorem dX3_placeMinotaur_48 : decode cX3_placeMinotaur 48 = .ok (.putfield 126, 3) := by decide +kernel
theorem dX3_placeMinotaur_51 : decode cX3_placeMinotaur 51 = .ok (.iconst 0, 1) := by decide +kernel
theorem dX3_placeMinotaur_52 : decode cX3_placeMinotaur 52 = .ok (.istore_n 2, 1) := by decide +kernel
theorem dX3_placeMinotaur_53 : decode cX3_placeMinotaur 53 = .ok (.iload_n 2, 1) := by decide +kernel
theorem dX3_placeMinotaur_54 : decode cX3_placeMinotaur 54 = .ok (.aload_n 0, 1) := by decide +kernel
theorem dX3_placeMinotaur_55 : decode cX3_placeMinotaur 55 = .ok (.getfield 9, 3) := by decide +kernel
theorem dX3_placeMinotaur_58 : decode cX3_placeMinotaur 58 = .ok (.getfield 129, 3) := by decide +kernel
theorem dX3_placeMinotaur_61 : decode cX3_placeMinotaur 61 = .ok (.if_icmp .ge 22, 3) := by decide +kernel
theorem dX3_placeMinotaur_64 : decode cX3_placeMinotaur 64 = .ok (.aload_n 0, 1) := by decide +kernel
theorem dX3_placeMinotaur_65 : decode cX3_placeMinotaur 65 = .ok (.aload_n 0, 1) := by decide +kernel
theorem dX3_placeMinotaur_66 : decode cX3_placeMinotaur 66 = .ok (.getfield 9, 3) := by decide +kernel
theorem dX3_placeMinotaur_69 : decode cX3_placeMinotaur 69 = .ok (.getfield 132, 3) := by decide +kernel
theorem dX3_placeMinotaur_72 : decode cX3_placeMinotaur 72 = .ok (.iload_n 2, 1) := by decide +kernel
theorem dX3_placeMinotaur_73 : decode cX3_placeMinotaur 73 = .ok (.aaload, 1) := by decide +kernel
theorem dX3_placeMinotaur_74 : decode cX3_placeMinotaur 74 = .ok (.invokevirtual 136, 3) := by decide +kernel
theorem dX3_placeMinotaur_77 : decode cX3_placeMinotaur 77 = .ok (.iinc 2 1, 3) := by decide +kernel
theorem dX3_placeMinotaur_80 : decode cX3_placeMinotaur 80 = .ok (.goto (-27), 3) := by decide +kernel
theorem dX3_placeMinotaur_83 : decode cX3_placeMinotaur 83 = .ok (.aload_n 0, 1) := by decide +kernel
theorem dX3_placeMinotaur_84 : decode cX3_placeMinotaur 84 = .ok (.getfield 9, 3) := by decide +kernel
theorem dX3_placeMinotaur_87 : decode cX3_placeMinotaur 87 = .ok (.iload_n 1, 1) := by decide +kernel
theorem dX3_placeMinotaur_88 : decode cX3_placeMinotaur 88 = .ok (.invokevirtual 140, 3) := by decide +kernel
theorem dX3_placeMinotaur_91 : decode cX3_placeMinotaur 91 = .ok (.ireturn, 1) := by decide +kernel
theorem dX3_meetIfThere_0 : decode cX3_meetIfThere 0 = .ok (.aload_n 1, 1) := by decide +kernel
theorem dX3_meetIfThere_1 : decode cX3_meetIfThere 1 = .ok (.aload_n 0, 1) := by decide +kernel
theorem dX3_meetIfThere_2 : decode cX3_meetIfThere 2 = .ok (.getfield 9, 3) := by decide +kernel
theorem dX3_meetIfThere_5 : decode cX3_meetIfThere 5 = .ok (.getfield 126, 3) := by decide +kernel
theorem dX3_meetIfThere_8 : decode cX3_meetIfThere 8 = .ok (.invokevirtual 143, 3) := by decide +kernel
theorem dX3_meetIfThere_11 : decode cX3_meetIfThere 11 = .ok (.ifCond .eq 7, 3) := by decide +kernel
theorem dX3_meetIfThere_14 : decode cX3_meetIfThere 14 = .ok (.aload_n 1, 1) := by decide +kernel
theorem dX3_meetIfThere_15 : decode cX3_meetIfThere 15 = .ok (.invokevirtual 148, 3) := by decide +kernel
theorem dX3_meetIfThere_18 : decode cX3_meetIfThere 18 = .ok (.return_, 1) := by decide +kernel
theorem dX3_admitGardener_0 : decode cX3_admitGardener 0 = .ok (.iload_n 1, 1) := by decide +kernel
theorem dX3_admitGardener_1 : decode cX3_admitGardener 1 = .ok (.ifCond .lt 9, 3) := by decide +kernel
theorem dX3_admitGardener_4 : decode cX3_admitGardener 4 = .ok (.iload_n 1, 1) := by decide +kernel
theorem dX3_admitGardener_5 : decode cX3_admitGardener 5 = .ok (.bipush 99, 2) := by decide +kernel
theorem dX3_admitGardener_7 : decode cX3_admitGardener 7 = .ok (.if_icmp .le 13, 3) := by decide +kernel
theorem dX3_admitGardener_10 : decode cX3_admitGardener 10 = .ok (.aload_n 0, 1) := by decide +kernel
theorem dX3_admitGardener_11 : decode cX3_admitGardener 11 = .ok (.getfield 19, 3) := by decide +kernel
theorem dX3_admitGardener_14 : decode cX3_admitGardener 14 = .ok (.iconst 1, 1) := by decide +kernel
theorem dX3_admitGardener_15 : decode cX3_admitGardener 15 = .ok (.iconst 0, 1) := by decide +kernel
theorem dX3_admitGardener_16 : decode cX3_admitGardener 16 = .ok (.invokevirtual 63, 3) := by decide +kernel
theorem dX3_admitGardener_19 : decode cX3_admitGardener 19 = .ok (.ireturn, 1) := by decide +kernel
theorem dX3_admitGardener_20 : decode cX3_admitGardener 20 = .ok (.aload_n 0, 1) := by decide +kernel
theorem dX3_admitGardener_21 : decode cX3_admitGardener 21 = .ok (.getfield 9, 3) := by decide +kernel
theorem dX3_admitGardener_24 : decode cX3_admitGardener 24 = .ok (.getfield 112, 3) := by decide +kernel
theorem dX3_admitGardener_27 : decode cX3_admitGardener 27 = .ok (.istore_n 2, 1) := by decide +kernel
theorem dX3_admitGardener_28 : decode cX3_admitGardener 28 = .ok (.iload_n 2, 1) := by decide +kernel
theorem dX3_admitGardener_29 : decode cX3_admitGardener 29 = .ok (.iconst 4, 1) := by decide +kernel
theorem dX3_admitGardener_30 : decode cX3_admitGardener 30 = .ok (.if_icmp .lt 14, 3) := by decide +kernel
theorem dX3_admitGardener_33 : decode cX3_admitGardener 33 = .ok (.aload_n 0, 1) := by decide +kernel
theorem dX3_admitGardener_34 : decode cX3_admitGardener 34 = .ok (.getfield 19, 3) := by decide +kernel
theorem dX3_admitGardener_37 : decode cX3_admitGardener 37 = .ok (.bipush 13, 2) := by decide +kernel
theorem dX3_admitGardener_39 : decode cX3_admitGardener 39 = .ok (.iconst 4, 1) := by decide +kernel
theorem dX3_admitGardener_40 : decode cX3_admitGardener 40 = .ok (.invokevirtual 63, 3) := by decide +kernel
theorem dX3_admitGardener_43 : decode cX3_admitGardener 43 = .ok (.ireturn, 1) := by decide +kernel
theorem dX3_admitGardener_44 : decode cX3_admitGardener 44 = .ok (.aload_n 0, 1) := by decide +kernel
theorem dX3_admitGardener_45 : decode cX3_admitGardener 45 = .ok (.getfield 9, 3) := by decide +kernel
theorem dX3_admitGardener_48 : decode cX3_admitGardener 48 = .ok (.getfield 151, 3) := by decide +kernel
theorem dX3_admitGardener_51 : decode cX3_admitGardener 51 = .ok (.iload_n 2, 1) := by decide +kernel
theorem dX3_admitGardener_52 : decode cX3_admitGardener 52 = .ok (.aaload, 1) := by decide +kernel
theorem dX3_admitGardener_53 : decode cX3_admitGardener 53 = .ok (.iload_n 1, 1) := by decide +kernel
theorem dX3_admitGardener_54 : decode cX3_admitGardener 54 = .ok (.invokevirtual 155, 3) := by decide +kernel
theorem dX3_admitGardener_57 : decode cX3_admitGardener 57 = .ok (.aload_n 0, 1) := by decide +kernel
theorem dX3_admitGardener_58 : decode cX3_admitGardener 58 = .ok (.getfield 9, 3) := by decide +kernel
theorem dX3_admitGardener_61 : decode cX3_admitGardener 61 = .ok (.dup, 1) := by decide +kernel
theorem dX3_admitGardener_62 : decode cX3_admitGardener 62 = .ok (.getfield 112, 3) := by decide +kernel
theorem dX3_admitGardener_65 : decode cX3_admitGardener 65 = .ok (.iconst 1, 1) := by decide +kernel
theorem dX3_admitGardener_66 : decode cX3_admitGardener 66 = .ok (.iadd, 1) := by decide +kernel
theorem dX3_admitGardener_67 : decode cX3_admitGardener 67 = .ok (.putfield 112, 3) := by decide +kernel
theorem dX3_admitGardener_70 : decode cX3_admitGardener 70 = .ok (.aload_n 0, 1) := by decide +kernel
theorem dX3_admitGardener_71 : decode cX3_admitGardener 71 = .ok (.getfield 9, 3) := by decide +kernel
theorem dX3_admitGardener_74 : decode cX3_admitGardener 74 = .ok (.dup, 1) := by decide +kernel
theorem dX3_admitGardener_75 : decode cX3_admitGardener 75 = .ok (.getfield 159, 3) := by decide +kernel
theorem dX3_admitGardener_78 : decode cX3_admitGardener 78 = .ok (.iload_n 1, 1) := by decide +kernel
theorem dX3_admitGardener_79 : decode cX3_admitGardener 79 = .ok (.iadd, 1) := by decide +kernel
theorem dX3_admitGardener_80 : decode cX3_admitGardener 80 = .ok (.putfield 159, 3) := by decide +kernel
theorem dX3_admitGardener_83 : decode cX3_admitGardener 83 = .ok (.iload_n 2, 1) := by decide +kernel
theorem dX3_admitGardener_84 : decode cX3_admitGardener 84 = .ok (.ireturn, 1) := by decide +kernel
theorem dX3_admitVisitor_0 : decode cX3_admitVisitor 0 = .ok (.iload_n 1, 1) := by decide +kernel
theorem dX3_admitVisitor_1 : decode cX3_admitVisitor 1 = .ok (.ifCond .lt 9, 3) := by decide +kernel
theorem dX3_admitVisitor_4 : decode cX3_admitVisitor 4 = .ok (.iload_n 1, 1) := by decide +kernel
theorem dX3_admitVisitor_5 : decode cX3_admitVisitor 5 = .ok (.bipush 99, 2) := by decide +kernel
theorem dX3_admitVisitor_7 : decode cX3_admitVisitor 7 = .ok (.if_icmp .le 13, 3) := by decide +kernel
theorem dX3_admitVisitor_10 : decode cX3_admitVisitor 10 = .ok (.aload_n 0, 1) := by decide +kernel
theorem dX3_admitVisitor_11 : decode cX3_admitVisitor 11 = .ok (.getfield 19, 3) := by decide +kernel
theorem dX3_admitVisitor_14 : decode cX3_admitVisitor 14 = .ok (.iconst 1, 1) := by decide +kernel
theorem dX3_admitVisitor_15 : decode cX3_admitVisitor 15 = .ok (.iconst 0, 1) := by decide +kernel
theorem dX3_admitVisitor_16 : decode cX3_admitVisitor 16 = .ok (.invokevirtual 63, 3) := by decide +kernel
theorem dX3_admitVisitor_19 : decode cX3_admitVisitor 19 = .ok (.ireturn, 1) := by decide +kernel
theorem dX3_admitVisitor_20 : decode cX3_admitVisitor 20 = .ok (.aload_n 0, 1) := by decide +kernel
theorem dX3_admitVisitor_21 : decode cX3_admitVisitor 21 = .ok (.getfield 9, 3) := by decide +kernel
theorem dX3_admitVisitor_24 : decode cX3_admitVisitor 24 = .ok (.getfield 129, 3) := by decide +kernel
theorem dX3_admitVisitor_27 : decode cX3_admitVisitor 27 = .ok (.istore_n 2, 1) := by decide +kernel
theorem dX3_admitVisitor_28 : decode cX3_admitVisitor 28 = .ok (.iload_n 2, 1) := by decide +kernel
theorem dX3_admitVisitor_29 : decode cX3_admitVisitor 29 = .ok (.iconst 5, 1) := by decide +kernel
theorem dX3_admitVisitor_30 : decode cX3_admitVisitor 30 = .ok (.if_icmp .lt 14, 3) := by decide +kernel
theorem dX3_admitVisitor_33 : decode cX3_admitVisitor 33 = .ok (.aload_n 0, 1) := by decide +kernel
theorem dX3_admitVisitor_34 : decode cX3_admitVisitor 34 = .ok (.getfield 19, 3) := by decide +kernel
theorem dX3_admitVisitor_37 : decode cX3_admitVisitor 37 = .ok (.bipush 13, 2) := by decide +kernel
theorem dX3_admitVisitor_39 : decode cX3_admitVisitor 39 = .ok (.iconst 5, 1) := by decide +kernel
theorem dX3_admitVisitor_40 : decode cX3_admitVisitor 40 = .ok (.invokevirtual 63, 3) := by decide +kernel
theorem dX3_admitVisitor_43 : decode cX3_admitVisitor 43 = .ok (.ireturn, 1) := by decide +kernel
theorem dX3_admitVisitor_44 : decode cX3_admitVisitor 44 = .ok (.aload_n 0, 1) := by decide +kernel
theorem dX3_admitVisitor_45 : decode cX3_admitVisitor 45 = .ok (.getfield 15, 3) := by decide +kernel
theorem dX3_admitVisitor_48 : decode cX3_admitVisitor 48 = .ok (.iconst 0, 1) := by decide +kernel
theorem dX3_admitVisitor_49 : decode cX3_admitVisitor 49 = .ok (.bipush 15, 2) := by decide +kernel
theorem dX3_admitVisitor_51 : decode cX3_admitVisitor 51 = .ok (.invokevirtual 162, 3) := by decide +kernel
theorem dX3_admitVisitor_54 : decode cX3_admitVisitor 54 = .ok (.istore_n 3, 1) := by decide +kernel
theorem dX3_admitVisitor_55 : decode cX3_admitVisitor 55 = .ok (.iload_n 3, 1) := by decide +kernel
theorem dX3_admitVisitor_56 : decode cX3_admitVisitor 56 = .ok (.sipush 1000, 3) := by decide +kernel
theorem dX3_admitVisitor_59 : decode cX3_admitVisitor 59 = .ok (.if_icmp .lt 24, 3) := by decide +kernel
theorem dX3_admitVisitor_62 : decode cX3_admitVisitor 62 = .ok (.aload_n 0, 1) := by decide +kernel
theorem dX3_admitVisitor_63 : decode cX3_admitVisitor 63 = .ok (.getfield 19, 3) := by decide +kernel
theorem dX3_admitVisitor_66 : decode cX3_admitVisitor 66 = .ok (.bipush 6, 2) := by decide +kernel
theorem dX3_admitVisitor_68 : decode cX3_admitVisitor 68 = .ok (.aload_n 0, 1) := by decide +kernel
theorem dX3_admitVisitor_69 : decode cX3_admitVisitor 69 = .ok (.getfield 15, 3) := by decide +kernel
theorem dX3_admitVisitor_72 : decode cX3_admitVisitor 72 = .ok (.iconst 0, 1) := by decide +kernel
theorem dX3_admitVisitor_73 : decode cX3_admitVisitor 73 = .ok (.invokevirtual 167, 3) := by decide +kernel
theorem dX3_admitVisitor_76 : decode cX3_admitVisitor 76 = .ok (.invokestatic 170, 3) := by decide +kernel
theorem dX3_admitVisitor_79 : decode cX3_admitVisitor 79 = .ok (.invokevirtual 63, 3) := by decide +kernel
theorem dX3_admitVisitor_82 : decode cX3_admitVisitor 82 = .ok (.ireturn, 1) := by decide +kernel
theorem dX3_admitVisitor_83 : decode cX3_admitVisitor 83 = .ok (.aload_n 0, 1) := by decide +kernel
theorem dX3_admitVisitor_84 : decode cX3_admitVisitor 84 = .ok (.getfield 9, 3) := by decide +kernel
theorem dX3_admitVisitor_87 : decode cX3_admitVisitor 87 = .ok (.getfield 132, 3) := by decide +kernel
theorem dX3_admitVisitor_90 : decode cX3_admitVisitor 90 = .ok (.iload_n 2, 1) := by decide +kernel
theorem dX3_admitVisitor_91 : decode cX3_admitVisitor 91 = .ok (.aaload, 1) := by decide +kernel
theorem dX3_admitVisitor_92 : decode cX3_admitVisitor 92 = .ok (.iload_n 1, 1) := by decide +kernel
theorem dX3_admitVisitor_93 : decode cX3_admitVisitor 93 = .ok (.iload_n 3, 1) := by decide +kernel
theorem dX3_admitVisitor_94 : decode cX3_admitVisitor 94 = .ok (.invokevirtual 175, 3) := by decide +kernel
theorem dX3_admitVisitor_97 : decode cX3_admitVisitor 97 = .ok (.aload_n 0, 1) := by decide +kernel
theorem dX3_admitVisitor_98 : decode cX3_admitVisitor 98 = .ok (.getfield 9, 3) := by decide +kernel
theorem dX3_admitVisitor_101 : decode cX3_admitVisitor 101 = .ok (.dup, 1) := by decide +kernel
theorem dX3_admitVisitor_102 : decode cX3_admitVisitor 102 = .ok (.getfield 129, 3) := by decide +kernel
theorem dX3_admitVisitor_105 : decode cX3_admitVisitor 105 = .ok (.iconst 1, 1) := by decide +kernel
theorem dX3_admitVisitor_106 : decode cX3_admitVisitor 106 = .ok (.iadd, 1) := by decide +kernel
theorem dX3_admitVisitor_107 : decode cX3_admitVisitor 107 = .ok (.putfield 129, 3) := by decide +kernel
theorem dX3_admitVisitor_110 : decode cX3_admitVisitor 110 = .ok (.aload_n 0, 1) := by decide +kernel
theorem dX3_admitVisitor_111 : decode cX3_admitVisitor 111 = .ok (.getfield 9, 3) := by decide +kernel
theorem dX3_admitVisitor_114 : decode cX3_admitVisitor 114 = .ok (.dup, 1) := by decide +kernel
theorem dX3_admitVisitor_115 : decode cX3_admitVisitor 115 = .ok (.getfield 159, 3) := by decide +kernel
theorem dX3_admitVisitor_118 : decode cX3_admitVisitor 118 = .ok (.iload_n 1, 1) := by decide +kernel
theorem dX3_admitVisitor_119 : decode cX3_admitVisitor 119 = .ok (.iadd, 1) := by decide +kernel
theorem dX3_admitVisitor_120 : decode cX3_admitVisitor 120 = .ok (.putfield 159, 3) := by decide +kernel
theorem dX3_admitVisitor_123 : decode cX3_admitVisitor 123 = .ok (.iload_n 2, 1) := by decide +kernel
theorem dX3_admitVisitor_124 : decode cX3_admitVisitor 124 = .ok (.ireturn, 1) := by decide +kernel
theorem dX3_giveBond_0 : decode cX3_giveBond 0 = .ok (.aload_n 0, 1) := by decide +kernel
theorem dX3_giveBond_1 : decode cX3_giveBond 1 = .ok (.getfield 9, 3) := by decide +kernel
theorem dX3_giveBond_4 : decode cX3_giveBond 4 = .ok (.iload_n 1, 1) := by decide +kernel
theorem dX3_giveBond_5 : decode cX3_giveBond 5 = .ok (.invokevirtual 108, 3) := by decide +kernel
theorem dX3_giveBond_8 : decode cX3_giveBond 8 = .ok (.astore 4, 2) := by decide +kernel
theorem dX3_giveBond_10 : decode cX3_giveBond 10 = .ok (.aload 4, 2) := by decide +kernel
theorem dX3_giveBond_12 : decode cX3_giveBond 12 = .ok (.ifnonnull 19, 3) := by decide +kernel
theorem dX3_giveBond_15 : decode cX3_giveBond 15 = .ok (.aload_n 0, 1) := by decide +kernel
theorem dX3_giveBond_16 : decode cX3_giveBond 16 = .ok (.getfield 19, 3) := by decide +kernel
theorem dX3_giveBond_19 : decode cX3_giveBond 19 = .ok (.iconst 4, 1) := by decide +kernel
theorem dX3_giveBond_20 : decode cX3_giveBond 20 = .ok (.aload_n 0, 1) := by decide +kernel
theorem dX3_giveBond_21 : decode cX3_giveBond 21 = .ok (.getfield 9, 3) := by decide +kernel
theorem dX3_giveBond_24 : decode cX3_giveBond 24 = .ok (.getfield 112, 3) := by decide +kernel
theorem dX3_giveBond_27 : decode cX3_giveBond 27 = .ok (.invokevirtual 63, 3) := by decide +kernel
theorem dX3_giveBond_30 : decode cX3_giveBond 30 = .ok (.ireturn, 1) := by decide +kernel
theorem dX3_giveBond_31 : decode cX3_giveBond 31 = .ok (.aload_n 0, 1) := by decide +kernel
theorem dX3_giveBond_32 : decode cX3_giveBond 32 = .ok (.getfield 9, 3) := by decide +kernel
theorem dX3_giveBond_35 : decode cX3_giveBond 35 = .ok (.iload_n 2, 1) := by decide +kernel
theorem dX3_giveBond_36 : decode cX3_giveBond 36 = .ok (.invokevirtual 177, 3) := by decide +kernel
theorem dX3_giveBond_39 : decode cX3_giveBond 39 = .ok (.astore 5, 2) := by decide +kernel
theorem dX3_giveBond_41 : decode cX3_giveBond 41 = .ok (.aload 5, 2) := by decide +kernel
theorem dX3_giveBond_43 : decode cX3_giveBond 43 = .ok (.ifnonnull 20, 3) := by decide +kernel
theorem dX3_giveBond_46 : decode cX3_giveBond 46 = .ok (.aload_n 0, 1) := by decide +kernel
theorem dX3_giveBond_47 : decode cX3_giveBond 47 = .ok (.getfield 19, 3) := by decide +kernel
theorem dX3_giveBond_50 : decode cX3_giveBond 50 = .ok (.bipush 7, 2) := by decide +kernel
theorem dX3_giveBond_52 : decode cX3_giveBond 52 = .ok (.aload_n 0, 1) := by decide +kernel
theorem dX3_giveBond_53 : decode cX3_giveBond 53 = .ok (.getfield 9, 3) := by decide +kernel
theorem dX3_giveBond_56 : decode cX3_giveBond 56 = .ok (.getfield 129, 3) := by decide +kernel
theorem dX3_giveBond_59 : decode cX3_giveBond 59 = .ok (.invokevirtual 63, 3) := by decide +kernel
theorem dX3_giveBond_62 : decode cX3_giveBond 62 = .ok (.ireturn, 1) := by decide +kernel
theorem dX3_giveBond_63 : decode cX3_giveBond 63 = .ok (.iload_n 3, 1) := by decide +kernel
theorem dX3_giveBond_64 : decode cX3_giveBond 64 = .ok (.iconst 1, 1) := by decide +kernel
theorem dX3_giveBond_65 : decode cX3_giveBond 65 = .ok (.if_icmp .lt 8, 3) := by decide +kernel
theorem dX3_giveBond_68 : decode cX3_giveBond 68 = .ok (.iload_n 3, 1) := by decide +kernel
theorem dX3_giveBond_69 : decode cX3_giveBond 69 = .ok (.iconst 5, 1) := by decide +kernel
theorem dX3_giveBond_70 : decode cX3_giveBond 70 = .ok (.if_icmp .le 13, 3) := by decide +kernel
theorem dX3_giveBond_73 : decode cX3_giveBond 73 = .ok (.aload_n 0, 1) := by decide +kernel
theorem dX3_giveBond_74 : decode cX3_giveBond 74 = .ok (.getfield 19, 3) := by decide +kernel
theorem dX3_giveBond_77 : decode cX3_giveBond 77 = .ok (.iconst 1, 1) := by decide +kernel
theorem dX3_giveBond_78 : decode cX3_giveBond 78 = .ok (.iconst 0, 1) := by decide +kernel
theorem dX3_giveBond_79 : decode cX3_giveBond 79 = .ok (.invokevirtual 63, 3) := by decide +kernel
theorem dX3_giveBond_82 : decode cX3_giveBond 82 = .ok (.ireturn, 1) := by decide +kernel
theorem dX3_giveBond_83 : decode cX3_giveBond 83 = .ok (.aload 5, 2) := by decide +kernel
theorem dX3_giveBond_85 : decode cX3_giveBond 85 = .ok (.getfield 181, 3) := by decide +kernel
theorem dX3_giveBond_88 : decode cX3_giveBond 88 = .ok (.ifCond .eq 18, 3) := by decide +kernel
theorem dX3_giveBond_91 : decode cX3_giveBond 91 = .ok (.aload_n 0, 1) := by decide +kernel
theorem dX3_giveBond_92 : decode cX3_giveBond 92 = .ok (.getfield 19, 3) := by decide +kernel
theorem dX3_giveBond_95 : decode cX3_giveBond 95 = .ok (.bipush 9, 2) := by decide +kernel
theorem dX3_giveBond_97 : decode cX3_giveBond 97 = .ok (.aload 5, 2) := by decide +kernel
theorem dX3_giveBond_99 : decode cX3_giveBond 99 = .ok (.getfield 185, 3) := by decide +kernel
theorem dX3_giveBond_102 : decode cX3_giveBond 102 = .ok (.invokevirtual 63, 3) := by decide +kernel
theorem dX3_giveBond_105 : decode cX3_giveBond 105 = .ok (.ireturn, 1) := by decide +kernel
theorem dX3_giveBond_106 : decode cX3_giveBond 106 = .ok (.aload 5, 2) := by decide +kernel
theorem dX3_giveBond_108 : decode cX3_giveBond 108 = .ok (.invokevirtual 188, 3) := by decide +kernel
theorem dX3_giveBond_111 : decode cX3_giveBond 111 = .ok (.ifCond .eq 18, 3) := by decide +kernel
theorem dX3_giveBond_114 : decode cX3_giveBond 114 = .ok (.aload_n 0, 1) := by decide +kernel
theorem dX3_giveBond_115 : decode cX3_giveBond 115 = .ok (.getfield 19, 3) := by decide +kernel
theorem dX3_giveBond_118 : decode cX3_giveBond 118 = .ok (.bipush 8, 2) := by decide +kernel
theorem dX3_giveBond_120 : decode cX3_giveBond 120 = .ok (.aload 5, 2) := by decide +kernel
theorem dX3_giveBond_122 : decode cX3_giveBond 122 = .ok (.getfield 192, 3) := by decide +kernel
theorem dX3_giveBond_125 : decode cX3_giveBond 125 = .ok (.invokevirtual 63, 3) := by decide +kernel
theorem dX3_giveBond_128 : decode cX3_giveBond 128 = .ok (.ireturn, 1) := by decide +kernel
theorem dX3_giveBond_129 : decode cX3_giveBond 129 = .ok (.aload 5, 2) := by decide +kernel
theorem dX3_giveBond_131 : decode cX3_giveBond 131 = .ok (.aload_n 0, 1) := by decide +kernel
theorem dX3_giveBond_132 : decode cX3_giveBond 132 = .ok (.getfield 9, 3) := by decide +kernel
theorem dX3_giveBond_135 : decode cX3_giveBond 135 = .ok (.getfield 126, 3) := by decide +kernel
theorem dX3_giveBond_138 : decode cX3_giveBond 138 = .ok (.invokevirtual 143, 3) := by decide +kernel
theorem dX3_giveBond_141 : decode cX3_giveBond 141 = .ok (.ifCond .eq 20, 3) := by decide +kernel
theorem dX3_giveBond_144 : decode cX3_giveBond 144 = .ok (.aload_n 0, 1) := by decide +kernel
theorem dX3_giveBond_145 : decode cX3_giveBond 145 = .ok (.getfield 19, 3) := by decide +kernel
theorem dX3_giveBond_148 : decode cX3_giveBond 148 = .ok (.bipush 10, 2) := by decide +kernel
theorem dX3_giveBond_150 : decode cX3_giveBond 150 = .ok (.aload_n 0, 1) := by decide +kernel
theorem dX3_giveBond_151 : decode cX3_giveBond 151 = .ok (.getfield 9, 3) := by decide +kernel
theorem dX3_giveBond_154 : decode cX3_giveBond 154 = .ok (.getfield 126, 3) := by decide +kernel
theorem dX3_giveBond_157 : decode cX3_giveBond 157 = .ok (.invokevirtual 63, 3) := by decide +kernel
theorem dX3_giveBond_160 : decode cX3_giveBond 160 = .ok (.ireturn, 1) := by decide +kernel
theorem dX3_giveBond_161 : decode cX3_giveBond 161 = .ok (.iconst 2, 1) := by decide +kernel
theorem dX3_giveBond_162 : decode cX3_giveBond 162 = .ok (.iload_n 3, 1) := by decide +kernel
theorem dX3_giveBond_163 : decode cX3_giveBond 163 = .ok (.imul, 1) := by decide +kernel
theorem dX3_giveBond_164 : decode cX3_giveBond 164 = .ok (.istore 6, 2) := by decide +kernel
theorem dX3_giveBond_166 : decode cX3_giveBond 166 = .ok (.aload 5, 2) := by decide +kernel
theorem dX3_giveBond_168 : decode cX3_giveBond 168 = .ok (.getfield 195, 3) := by decide +kernel
theorem dX3_giveBond_171 : decode cX3_giveBond 171 = .ok (.iload 6, 2) := by decide +kernel
theorem dX3_giveBond_173 : decode cX3_giveBond 173 = .ok (.if_icmp .ge 20, 3) := by decide +kernel
theorem dX3_giveBond_176 : decode cX3_giveBond 176 = .ok (.aload_n 0, 1) := by decide +kernel
theorem dX3_giveBond_177 : decode cX3_giveBond 177 = .ok (.getfield 19, 3) := by decide +kernel
theorem dX3_giveBond_180 : decode cX3_giveBond 180 = .ok (.iconst 5, 1) := by decide +kernel
theorem dX3_giveBond_181 : decode cX3_giveBond 181 = .ok (.iload 6, 2) := by decide +kernel
theorem dX3_giveBond_183 : decode cX3_giveBond 183 = .ok (.aload 5, 2) := by decide +kernel
theorem dX3_giveBond_185 : decode cX3_giveBond 185 = .ok (.getfield 195, 3) := by decide +kernel
theorem dX3_giveBond_188 : decode cX3_giveBond 188 = .ok (.isub, 1) := by decide +kernel
theorem dX3_giveBond_189 : decode cX3_giveBond 189 = .ok (.invokevirtual 63, 3) := by decide +kernel
theorem dX3_giveBond_192 : decode cX3_giveBond 192 = .ok (.ireturn, 1) := by decide +kernel
theorem dX3_giveBond_193 : decode cX3_giveBond 193 = .ok (.aload 5, 2) := by decide +kernel
theorem dX3_giveBond_195 : decode cX3_giveBond 195 = .ok (.dup, 1) := by decide +kernel
theorem dX3_giveBond_196 : decode cX3_giveBond 196 = .ok (.getfield 195, 3) := by decide +kernel
theorem dX3_giveBond_199 : decode cX3_giveBond 199 = .ok (.iload 6, 2) := by decide +kernel
theorem dX3_giveBond_201 : decode cX3_giveBond 201 = .ok (.isub, 1) := by decide +kernel
theorem dX3_giveBond_202 : decode cX3_giveBond 202 = .ok (.putfield 195, 3) := by decide +kernel
theorem dX3_giveBond_205 : decode cX3_giveBond 205 = .ok (.aload 5, 2) := by decide +kernel
theorem dX3_giveBond_207 : decode cX3_giveBond 207 = .ok (.iload_n 1, 1) := by decide +kernel
theorem dX3_giveBond_208 : decode cX3_giveBond 208 = .ok (.iload_n 3, 1) := by decide +kernel
theorem dX3_giveBond_209 : decode cX3_giveBond 209 = .ok (.invokevirtual 196, 3) := by decide +kernel
theorem dX3_giveBond_212 : decode cX3_giveBond 212 = .ok (.aload 4, 2) := by decide +kernel
theorem dX3_giveBond_214 : decode cX3_giveBond 214 = .ok (.dup, 1) := by decide +kernel
theorem dX3_giveBond_215 : decode cX3_giveBond 215 = .ok (.getfield 115, 3) := by decide +kernel
theorem dX3_giveBond_218 : decode cX3_giveBond 218 = .ok (.iload 6, 2) := by decide +kernel
theorem dX3_giveBond_220 : decode cX3_giveBond 220 = .ok (.iadd, 1) := by decide +kernel
theorem dX3_giveBond_221 : decode cX3_giveBond 221 = .ok (.putfield 115, 3) := by decide +kernel
theorem dX3_giveBond_224 : decode cX3_giveBond 224 = .ok (.aload 4, 2) := by decide +kernel
theorem dX3_giveBond_226 : decode cX3_giveBond 226 = .ok (.dup, 1) := by decide +kernel
theorem dX3_giveBond_227 : decode cX3_giveBond 227 = .ok (.getfield 199, 3) := by decide +kernel
theorem dX3_giveBond_230 : decode cX3_giveBond 230 = .ok (.iload 6, 2) := by decide +kernel
theorem dX3_giveBond_232 : decode cX3_giveBond 232 = .ok (.iadd, 1) := by decide +kernel
theorem dX3_giveBond_233 : decode cX3_giveBond 233 = .ok (.putfield 199, 3) := by decide +kernel
theorem dX3_giveBond_236 : decode cX3_giveBond 236 = .ok (.aload 5, 2) := by decide +kernel
theorem dX3_giveBond_238 : decode cX3_giveBond 238 = .ok (.getfield 195, 3) := by decide +kernel
theorem dX3_giveBond_241 : decode cX3_giveBond 241 = .ok (.ireturn, 1) := by decide +kernel
theorem dX3_moveVisitor_0 : decode cX3_moveVisitor 0 = .ok (.aload_n 0, 1) := by decide +kernel
theorem dX3_moveVisitor_1 : decode cX3_moveVisitor 1 = .ok (.getfield 9, 3) := by decide +kernel
theorem dX3_moveVisitor_4 : decode cX3_moveVisitor 4 = .ok (.iload_n 1, 1) := by decide +kernel
theorem dX3_moveVisitor_5 : decode cX3_moveVisitor 5 = .ok (.invokevirtual 177, 3) := by decide +kernel
theorem dX3_moveVisitor_8 : decode cX3_moveVisitor 8 = .ok (.astore_n 3, 1) := by decide +kernel
theorem dX3_moveVisitor_9 : decode cX3_moveVisitor 9 = .ok (.aload_n 3, 1) := by decide +kernel
theorem dX3_moveVisitor_10 : decode cX3_moveVisitor 10 = .ok (.ifnonnull 20, 3) := by decide +kernel
theorem dX3_moveVisitor_13 : decode cX3_moveVisitor 13 = .ok (.aload_n 0, 1) := by decide +kernel
theorem dX3_moveVisitor_14 : decode cX3_moveVisitor 14 = .ok (.getfield 19, 3) := by decide +kernel
theorem dX3_moveVisitor_17 : decode cX3_moveVisitor 17 = .ok (.bipush 7, 2) := by decide +kernel
theorem dX3_moveVisitor_19 : decode cX3_moveVisitor 19 = .ok (.aload_n 0, 1) := by decide +kernel
theorem dX3_moveVisitor_20 : decode cX3_moveVisitor 20 = .ok (.getfield 9, 3) := by decide +kernel
theorem dX3_moveVisitor_23 : decode cX3_moveVisitor 23 = .ok (.getfield 129, 3) := by decide +kernel
theorem dX3_moveVisitor_26 : decode cX3_moveVisitor 26 = .ok (.invokevirtual 63, 3) := by decide +kernel
theorem dX3_moveVisitor_29 : decode cX3_moveVisitor 29 = .ok (.ireturn, 1) := by decide +kernel
theorem dX3_moveVisitor_30 : decode cX3_moveVisitor 30 = .ok (.iload_n 2, 1) := by decide +kernel
theorem dX3_moveVisitor_31 : decode cX3_moveVisitor 31 = .ok (.ifCond .lt 8, 3) := by decide +kernel
theorem dX3_moveVisitor_34 : decode cX3_moveVisitor 34 = .ok (.iload_n 2, 1) := by decide +kernel
theorem dX3_moveVisitor_35 : decode cX3_moveVisitor 35 = .ok (.iconst 3, 1) := by decide +kernel
theorem dX3_moveVisitor_36 : decode cX3_moveVisitor 36 = .ok (.if_icmp .le 13, 3) := by decide +kernel
theorem dX3_moveVisitor_39 : decode cX3_moveVisitor 39 = .ok (.aload_n 0, 1) := by decide +kernel
theorem dX3_moveVisitor_40 : decode cX3_moveVisitor 40 = .ok (.getfield 19, 3) := by decide +kernel
theorem dX3_moveVisitor_43 : decode cX3_moveVisitor 43 = .ok (.iconst 1, 1) := by decide +kernel
theorem dX3_moveVisitor_44 : decode cX3_moveVisitor 44 = .ok (.iconst 0, 1) := by decide +kernel
theorem dX3_moveVisitor_45 : decode cX3_moveVisitor 45 = .ok (.invokevirtual 63, 3) := by decide +kernel
theorem dX3_moveVisitor_48 : decode cX3_moveVisitor 48 = .ok (.ireturn, 1) := by decide +kernel
theorem dX3_moveVisitor_49 : decode cX3_moveVisitor 49 = .ok (.aload_n 3, 1) := by decide +kernel
theorem dX3_moveVisitor_50 : decode cX3_moveVisitor 50 = .ok (.getfield 181, 3) := by decide +kernel
theorem dX3_moveVisitor_53 : decode cX3_moveVisitor 53 = .ok (.ifCond .eq 17, 3) := by decide +kernel
theorem dX3_moveVisitor_56 : decode cX3_moveVisitor 56 = .ok (.aload_n 0, 1) := by decide +kernel
theorem dX3_moveVisitor_57 : decode cX3_moveVisitor 57 = .ok (.getfield 19, 3) := by decide +kernel
theorem dX3_moveVisitor_60 : decode cX3_moveVisitor 60 = .ok (.bipush 9, 2) := by decide +kernel
theorem dX3_moveVisitor_62 : decode cX3_moveVisitor 62 = .ok (.aload_n 3, 1) := by decide +kernel
theorem dX3_moveVisitor_63 : decode cX3_moveVisitor 63 = .ok (.getfield 185, 3) := by decide +kernel
theorem dX3_moveVisitor_66 : decode cX3_moveVisitor 66 = .ok (.invokevirtual 63, 3) := by decide +kernel
theorem dX3_moveVisitor_69 : decode cX3_moveVisitor 69 = .ok (.ireturn, 1) := by decide +kernel
theorem dX3_moveVisitor_70 : decode cX3_moveVisitor 70 = .ok (.aload_n 3, 1) := by decide +kernel
theorem dX3_moveVisitor_71 : decode cX3_moveVisitor 71 = .ok (.getfield 202, 3) := by decide +kernel
theorem dX3_moveVisitor_74 : decode cX3_moveVisitor 74 = .ok (.iload_n 2, 1) := by decide +kernel
theorem dX3_moveVisitor_75 : decode cX3_moveVisitor 75 = .ok (.invokestatic 205, 3) := by decide +kernel
theorem dX3_moveVisitor_78 : decode cX3_moveVisitor 78 = .ok (.istore 4, 2) := by decide +kernel
theorem dX3_moveVisitor_80 : decode cX3_moveVisitor 80 = .ok (.iload 4, 2) := by decide +kernel
theorem dX3_moveVisitor_82 : decode cX3_moveVisitor 82 = .ok (.iconst (-1), 1) := by decide +kernel
theorem dX3_moveVisitor_83 : decode cX3_moveVisitor 83 = .ok (.if_icmp .ne 17, 3) := by decide +kernel
theorem dX3_moveVisitor_86 : decode cX3_moveVisitor 86 = .ok (.aload_n 0, 1) := by decide +kernel
theorem dX3_moveVisitor_87 : decode cX3_moveVisitor 87 = .ok (.getfield 19, 3) := by decide +kernel
theorem dX3_moveVisitor_90 : decode cX3_moveVisitor 90 = .ok (.bipush 11, 2) := by decide +kernel
theorem dX3_moveVisitor_92 : decode cX3_moveVisitor 92 = .ok (.aload_n 3, 1) := by decide +kernel
theorem dX3_moveVisitor_93 : decode cX3_moveVisitor 93 = .ok (.getfield 202, 3) := by decide +kernel
theorem dX3_moveVisitor_96 : decode cX3_moveVisitor 96 = .ok (.invokevirtual 63, 3) := by decide +kernel
theorem dX3_moveVisitor_99 : decode cX3_moveVisitor 99 = .ok (.ireturn, 1) := by decide +kernel
theorem dX3_moveVisitor_100 : decode cX3_moveVisitor 100 = .ok (.aload_n 3, 1) := by decide +kernel
theorem dX3_moveVisitor_101 : decode cX3_moveVisitor 101 = .ok (.getfield 202, 3) := by decide +kernel
theorem dX3_moveVisitor_104 : decode cX3_moveVisitor 104 = .ok (.iload 4, 2) := by decide +kernel
theorem dX3_moveVisitor_106 : decode cX3_moveVisitor 106 = .ok (.invokestatic 90, 3) := by decide +kernel
theorem dX3_moveVisitor_109 : decode cX3_moveVisitor 109 = .ok (.istore 5, 2) := by decide +kernel
theorem dX3_moveVisitor_111 : decode cX3_moveVisitor 111 = .ok (.aload_n 0, 1) := by decide +kernel
theorem dX3_moveVisitor_112 : decode cX3_moveVisitor 112 = .ok (.getfield 9, 3) := by decide +kernel
theorem dX3_moveVisitor_115 : decode cX3_moveVisitor 115 = .ok (.getfield 71, 3) := by decide +kernel
theorem dX3_moveVisitor_118 : decode cX3_moveVisitor 118 = .ok (.iload 5, 2) := by decide +kernel
theorem dX3_moveVisitor_120 : decode cX3_moveVisitor 120 = .ok (.invokevirtual 208, 3) := by decide +kernel
theorem dX3_moveVisitor_123 : decode cX3_moveVisitor 123 = .ok (.ifCond .ne 25, 3) := by decide +kernel
theorem dX3_moveVisitor_126 : decode cX3_moveVisitor 126 = .ok (.aload_n 0, 1) := by decide +kernel
theorem dX3_moveVisitor_127 : decode cX3_moveVisitor 127 = .ok (.getfield 19, 3) := by decide +kernel
theorem dX3_moveVisitor_130 : decode cX3_moveVisitor 130 = .ok (.bipush 12, 2) := by decide +kernel
theorem dX3_moveVisitor_132 : decode cX3_moveVisitor 132 = .ok (.aload_n 0, 1) := by decide +kernel
theorem dX3_moveVisitor_133 : decode cX3_moveVisitor 133 = .ok (.getfield 9, 3) := by decide +kernel
theorem dX3_moveVisitor_136 : decode cX3_moveVisitor 136 = .ok (.getfield 71, 3) := by decide +kernel
theorem dX3_moveVisitor_139 : decode cX3_moveVisitor 139 = .ok (.iload 5, 2) := by decide +kernel
theorem dX3_moveVisitor_141 : decode cX3_moveVisitor 141 = .ok (.invokevirtual 77, 3) := by decide +kernel
theorem dX3_moveVisitor_144 : decode cX3_moveVisitor 144 = .ok (.invokevirtual 63, 3) := by decide +kernel
theorem dX3_moveVisitor_147 : decode cX3_moveVisitor 147 = .ok (.ireturn, 1) := by decide +kernel
theorem dX3_moveVisitor_148 : decode cX3_moveVisitor 148 = .ok (.aload_n 3, 1) := by decide +kernel
theorem dX3_moveVisitor_149 : decode cX3_moveVisitor 149 = .ok (.iload 4, 2) := by decide +kernel
theorem dX3_moveVisitor_151 : decode cX3_moveVisitor 151 = .ok (.putfield 202, 3) := by decide +kernel
theorem dX3_moveVisitor_154 : decode cX3_moveVisitor 154 = .ok (.aload_n 3, 1) := by decide +kernel
theorem dX3_moveVisitor_155 : decode cX3_moveVisitor 155 = .ok (.dup, 1) := by decide +kernel
theorem dX3_moveVisitor_156 : decode cX3_moveVisitor 156 = .ok (.getfield 185, 3) := by decide +kernel
theorem dX3_moveVisitor_159 : decode cX3_moveVisitor 159 = .ok (.iconst 1, 1) := by decide +kernel
theorem dX3_moveVisitor_160 : decode cX3_moveVisitor 160 = .ok (.iadd, 1) := by decide +kernel
theorem dX3_moveVisitor_161 : decode cX3_moveVisitor 161 = .ok (.putfield 185, 3) := by decide +kernel
theorem dX3_moveVisitor_164 : decode cX3_moveVisitor 164 = .ok (.aload_n 0, 1) := by decide +kernel
theorem dX3_moveVisitor_165 : decode cX3_moveVisitor 165 = .ok (.aload_n 3, 1) := by decide +kernel
theorem dX3_moveVisitor_166 : decode cX3_moveVisitor 166 = .ok (.invokevirtual 136, 3) := by decide +kernel
theorem dX3_moveVisitor_169 : decode cX3_moveVisitor 169 = .ok (.iload 4, 2) := by decide +kernel
theorem dX3_moveVisitor_171 : decode cX3_moveVisitor 171 = .ok (.bipush 15, 2) := by decide +kernel
theorem dX3_moveVisitor_173 : decode cX3_moveVisitor 173 = .ok (.if_icmp .ne 8, 3) := by decide +kernel
theorem dX3_moveVisitor_176 : decode cX3_moveVisitor 176 = .ok (.aload_n 0, 1) := by decide +kernel
theorem dX3_moveVisitor_177 : decode cX3_moveVisitor 177 = .ok (.aload_n 3, 1) := by decide +kernel
theorem dX3_moveVisitor_178 : decode cX3_moveVisitor 178 = .ok (.invokevirtual 211, 3) := by decide +kernel
theorem dX3_moveVisitor_181 : decode cX3_moveVisitor 181 = .ok (.iload 4, 2) := by decide +kernel
theorem dX3_moveVisitor_183 : decode cX3_moveVisitor 183 = .ok (.ireturn, 1) := by decide +kernel
theorem dX3_leaveMaze_0 : decode cX3_leaveMaze 0 = .ok (.aload_n 0, 1) := by decide +kernel
theorem dX3_leaveMaze_1 : decode cX3_leaveMaze 1 = .ok (.getfield 9, 3) := by decide +kernel
theorem dX3_leaveMaze_4 : decode cX3_leaveMaze 4 = .ok (.aload_n 1, 1) := by decide +kernel
theorem dX3_leaveMaze_5 : decode cX3_leaveMaze 5 = .ok (.getfield 192, 3) := by decide +kernel
theorem dX3_leaveMaze_8 : decode cX3_leaveMaze 8 = .ok (.invokevirtual 108, 3) := by decide +kernel
theorem dX3_leaveMaze_11 : decode cX3_leaveMaze 11 = .ok (.astore_n 2, 1) := by decide +kernel
theorem dX3_leaveMaze_12 : decode cX3_leaveMaze 12 = .ok (.aload_n 2, 1) := by decide +kernel
theorem dX3_leaveMaze_13 : decode cX3_leaveMaze 13 = .ok (.ifnull 46, 3) := by decide +kernel
theorem dX3_leaveMaze_16 : decode cX3_leaveMaze 16 = .ok (.aload_n 1, 1) := by decide +kernel
theorem dX3_leaveMaze_17 : decode cX3_leaveMaze 17 = .ok (.iconst 0, 1) := by decide +kernel
theorem dX3_leaveMaze_18 : decode cX3_leaveMaze 18 = .ok (.invokevirtual 214, 3) := by decide +kernel
theorem dX3_leaveMaze_21 : decode cX3_leaveMaze 21 = .ok (.aload_n 2, 1) := by decide +kernel
theorem dX3_leaveMaze_22 : decode cX3_leaveMaze 22 = .ok (.getfield 115, 3) := by decide +kernel
theorem dX3_leaveMaze_25 : decode cX3_leaveMaze 25 = .ok (.invokestatic 217, 3) := by decide +kernel
theorem dX3_leaveMaze_28 : decode cX3_leaveMaze 28 = .ok (.istore_n 3, 1) := by decide +kernel
theorem dX3_leaveMaze_29 : decode cX3_leaveMaze 29 = .ok (.aload_n 2, 1) := by decide +kernel
theorem dX3_leaveMaze_30 : decode cX3_leaveMaze 30 = .ok (.dup, 1) := by decide +kernel
theorem dX3_leaveMaze_31 : decode cX3_leaveMaze 31 = .ok (.getfield 115, 3) := by decide +kernel
theorem dX3_leaveMaze_34 : decode cX3_leaveMaze 34 = .ok (.iload_n 3, 1) := by decide +kernel
theorem dX3_leaveMaze_35 : decode cX3_leaveMaze 35 = .ok (.isub, 1) := by decide +kernel
theorem dX3_leaveMaze_36 : decode cX3_leaveMaze 36 = .ok (.putfield 115, 3) := by decide +kernel
theorem dX3_leaveMaze_39 : decode cX3_leaveMaze 39 = .ok (.aload_n 2, 1) := by decide +kernel
theorem dX3_leaveMaze_40 : decode cX3_leaveMaze 40 = .ok (.dup, 1) := by decide +kernel
theorem dX3_leaveMaze_41 : decode cX3_leaveMaze 41 = .ok (.getfield 220, 3) := by decide +kernel
theorem dX3_leaveMaze_44 : decode cX3_leaveMaze 44 = .ok (.iload_n 3, 1) := by decide +kernel
theorem dX3_leaveMaze_45 : decode cX3_leaveMaze 45 = .ok (.iadd, 1) := by decide +kernel
theorem dX3_leaveMaze_46 : decode cX3_leaveMaze 46 = .ok (.putfield 220, 3) := by decide +kernel
theorem dX3_leaveMaze_49 : decode cX3_leaveMaze 49 = .ok (.aload_n 1, 1) := by decide +kernel
theorem dX3_leaveMaze_50 : decode cX3_leaveMaze 50 = .ok (.dup, 1) := by decide +kernel
theorem dX3_leaveMaze_51 : decode cX3_leaveMaze 51 = .ok (.getfield 195, 3) := by decide +kernel
theorem dX3_leaveMaze_54 : decode cX3_leaveMaze 54 = .ok (.iload_n 3, 1) := by decide +kernel
theorem dX3_leaveMaze_55 : decode cX3_leaveMaze 55 = .ok (.iadd, 1) := by decide +kernel
theorem dX3_leaveMaze_56 : decode cX3_leaveMaze 56 = .ok (.putfield 195, 3) := by decide +kernel
theorem dX3_leaveMaze_59 : decode cX3_leaveMaze 59 = .ok (.aload_n 1, 1) := by decide +kernel
theorem dX3_leaveMaze_60 : decode cX3_leaveMaze 60 = .ok (.invokevirtual 223, 3) := by decide +kernel
theorem dX3_leaveMaze_63 : decode cX3_leaveMaze 63 = .ok (.aload_n 1, 1) := by decide +kernel
theorem dX3_leaveMaze_64 : decode cX3_leaveMaze 64 = .ok (.iconst 1, 1) := by decide +kernel
theorem dX3_leaveMaze_65 : decode cX3_leaveMaze 65 = .ok (.putfield 181, 3) := by decide +kernel
theorem dX3_leaveMaze_68 : decode cX3_leaveMaze 68 = .ok (.return_, 1) := by decide +kernel
theorem dX3_restVisitor_0 : decode cX3_restVisitor 0 = .ok (.aload_n 0, 1) := by decide +kernel
theorem dX3_restVisitor_1 : decode cX3_restVisitor 1 = .ok (.getfield 9, 3) := by decide +kernel
theorem dX3_restVisitor_4 : decode cX3_restVisitor 4 = .ok (.iload_n 1, 1) := by decide +kernel
theorem dX3_restVisitor_5 : decode cX3_restVisitor 5 = .ok (.invokevirtual 177, 3) := by decide +kernel
theorem dX3_restVisitor_8 : decode cX3_restVisitor 8 = .ok (.astore_n 3, 1) := by decide +kernel
theorem dX3_restVisitor_9 : decode cX3_restVisitor 9 = .ok (.aload_n 3, 1) := by decide +kernel
theorem dX3_restVisitor_10 : decode cX3_restVisitor 10 = .ok (.ifnonnull 20, 3) := by decide +kernel
theorem dX3_restVisitor_13 : decode cX3_restVisitor 13 = .ok (.aload_n 0, 1) := by decide +kernel
theorem dX3_restVisitor_14 : decode cX3_restVisitor 14 = .ok (.getfield 19, 3) := by decide +kernel
theorem dX3_restVisitor_17 : decode cX3_restVisitor 17 = .ok (.bipush 7, 2) := by decide +kernel
theorem dX3_restVisitor_19 : decode cX3_restVisitor 19 = .ok (.aload_n 0, 1) := by decide +kernel
theorem dX3_restVisitor_20 : decode cX3_restVisitor 20 = .ok (.getfield 9, 3) := by decide +kernel
theorem dX3_restVisitor_23 : decode cX3_restVisitor 23 = .ok (.getfield 129, 3) := by decide +kernel
theorem dX3_restVisitor_26 : decode cX3_restVisitor 26 = .ok (.invokevirtual 63, 3) := by decide +kernel
theorem dX3_restVisitor_29 : decode cX3_restVisitor 29 = .ok (.ireturn, 1) := by decide +kernel
theorem dX3_restVisitor_30 : decode cX3_restVisitor 30 = .ok (.iload_n 2, 1) := by decide +kernel
theorem dX3_restVisitor_31 : decode cX3_restVisitor 31 = .ok (.iconst 1, 1) := by decide +kernel
theorem dX3_restVisitor_32 : decode cX3_restVisitor 32 = .ok (.if_icmp .lt 9, 3) := by decide +kernel
theorem dX3_restVisitor_35 : decode cX3_restVisitor 35 = .ok (.iload_n 2, 1) := by decide +kernel
theorem dX3_restVisitor_36 : decode cX3_restVisitor 36 = .ok (.bipush 9, 2) := by decide +kernel
theorem dX3_restVisitor_38 : decode cX3_restVisitor 38 = .ok (.if_icmp .le 13, 3) := by decide +kernel
theorem dX3_restVisitor_41 : decode cX3_restVisitor 41 = .ok (.aload_n 0, 1) := by decide +kernel
theorem dX3_restVisitor_42 : decode cX3_restVisitor 42 = .ok (.getfield 19, 3) := by decide +kernel
theorem dX3_restVisitor_45 : decode cX3_restVisitor 45 = .ok (.iconst 1, 1) := by decide +kernel
theorem dX3_restVisitor_46 : decode cX3_restVisitor 46 = .ok (.iconst 0, 1) := by decide +kernel
theorem dX3_restVisitor_47 : decode cX3_restVisitor 47 = .ok (.invokevirtual 63, 3) := by decide +kernel
theorem dX3_restVisitor_50 : decode cX3_restVisitor 50 = .ok (.ireturn, 1) := by decide +kernel
theorem dX3_restVisitor_51 : decode cX3_restVisitor 51 = .ok (.aload_n 3, 1) := by decide +kernel
theorem dX3_restVisitor_52 : decode cX3_restVisitor 52 = .ok (.getfield 181, 3) := by decide +kernel
theorem dX3_restVisitor_55 : decode cX3_restVisitor 55 = .ok (.ifCond .eq 17, 3) := by decide +kernel
theorem dX3_restVisitor_58 : decode cX3_restVisitor 58 = .ok (.aload_n 0, 1) := by decide +kernel
theorem dX3_restVisitor_59 : decode cX3_restVisitor 59 = .ok (.getfield 19, 3) := by decide +kernel
theorem dX3_restVisitor_62 : decode cX3_restVisitor 62 = .ok (.bipush 9, 2) := by decide +kernel
theorem dX3_restVisitor_64 : decode cX3_restVisitor 64 = .ok (.aload_n 3, 1) := by decide +kernel
theorem dX3_restVisitor_65 : decode cX3_restVisitor 65 = .ok (.getfield 185, 3) := by decide +kernel
theorem dX3_restVisitor_68 : decode cX3_restVisitor 68 = .ok (.invokevirtual 63, 3) := by decide +kernel
theorem dX3_restVisitor_71 : decode cX3_restVisitor 71 = .ok (.ireturn, 1) := by decide +kernel
theorem dX3_restVisitor_72 : decode cX3_restVisitor 72 = .ok (.aload_n 3, 1) := by decide +kernel
theorem dX3_restVisitor_73 : decode cX3_restVisitor 73 = .ok (.dup, 1) := by decide +kernel
theorem dX3_restVisitor_74 : decode cX3_restVisitor 74 = .ok (.getfield 185, 3) := by decide +kernel
theorem dX3_restVisitor_77 : decode cX3_restVisitor 77 = .ok (.iload_n 2, 1) := by decide +kernel
theorem dX3_restVisitor_78 : decode cX3_restVisitor 78 = .ok (.iadd, 1) := by decide +kernel
theorem dX3_restVisitor_79 : decode cX3_restVisitor 79 = .ok (.putfield 185, 3) := by decide +kernel
theorem dX3_restVisitor_82 : decode cX3_restVisitor 82 = .ok (.aload_n 3, 1) := by decide +kernel
theorem dX3_restVisitor_83 : decode cX3_restVisitor 83 = .ok (.getfield 185, 3) := by decide +kernel
theorem dX3_restVisitor_86 : decode cX3_restVisitor 86 = .ok (.ireturn, 1) := by decide +kernel
theorem dX4_init_0 : decode cX4_init 0 = .ok (.aload_n 0, 1) := by decide +kernel
theorem dX4_init_1 : decode cX4_init 1 = .ok (.invokespecial 3, 3) := by decide +kernel
theorem dX4_init_4 : decode cX4_init 4 = .ok (.aload_n 0, 1) := by decide +kernel
theorem dX4_init_5 : decode cX4_init 5 = .ok (.bipush 24, 2) := by decide +kernel
theorem dX4_init_7 : decode cX4_init 7 = .ok (.newarray .int, 2) := by decide +kernel
theorem dX4_init_9 : decode cX4_init 9 = .ok (.putfield 9, 3) := by decide +kernel
theorem dX4_init_12 : decode cX4_init 12 = .ok (.return_, 1) := by decide +kernel
theorem dX4_copyFrom_0 : decode cX4_copyFrom 0 = .ok (.aload_n 1, 1) := by decide +kernel
theorem dX4_copyFrom_1 : decode cX4_copyFrom 1 = .ok (.getfield 9, 3) := by decide +kernel
theorem dX4_copyFrom_4 : decode cX4_copyFrom 4 = .ok (.iconst 0, 1) := by decide +kernel
theorem dX4_copyFrom_5 : decode cX4_copyFrom 5 = .ok (.aload_n 0, 1) := by decide +kernel
theorem dX4_copyFrom_6 : decode cX4_copyFrom 6 = .ok (.getfield 9, 3) := by decide +kernel
theorem dX4_copyFrom_9 : decode cX4_copyFrom 9 = .ok (.iconst 0, 1) := by decide +kernel
theorem dX4_copyFrom_10 : decode cX4_copyFrom 10 = .ok (.bipush 24, 2) := by decide +kernel
theorem dX4_copyFrom_12 : decode cX4_copyFrom 12 = .ok (.invokestatic 15, 3) := by decide +kernel
theorem dX4_copyFrom_15 : decode cX4_copyFrom 15 = .ok (.return_, 1) := by decide +kernel
theorem dX4_isCell_0 : decode cX4_isCell 0 = .ok (.iload_n 0, 1) := by decide +kernel
theorem dX4_isCell_1 : decode cX4_isCell 1 = .ok (.ifCond .lt 13, 3) := by decide +kernel
theorem dX4_isCell_4 : decode cX4_isCell 4 = .ok (.iload_n 0, 1) := by decide +kernel
theorem dX4_isCell_5 : decode cX4_isCell 5 = .ok (.bipush 16, 2) := by decide +kernel
theorem dX4_isCell_7 : decode cX4_isCell 7 = .ok (.if_icmp .ge 7, 3) := by decide +kernel
theorem dX4_isCell_10 : decode cX4_isCell 10 = .ok (.iconst 1, 1) := by decide +kernel
theorem dX4_isCell_11 : decode cX4_isCell 11 = .ok (.goto 4, 3) := by decide +kernel
theorem dX4_isCell_14 : decode cX4_isCell 14 = .ok (.iconst 0, 1) := by decide +kernel
theorem dX4_isCell_15 : decode cX4_isCell 15 = .ok (.ireturn, 1) := by decide +kernel
theorem dX4_hedgeBetween_0 : decode cX4_hedgeBetween 0 = .ok (.iload_n 0, 1) := by decide +kernel
theorem dX4_hedgeBetween_1 : decode cX4_hedgeBetween 1 = .ok (.iload_n 1, 1) := by decide +kernel
theorem dX4_hedgeBetween_2 : decode cX4_hedgeBetween 2 = .ok (.invokestatic 21, 3) := by decide +kernel
theorem dX4_hedgeBetween_5 : decode cX4_hedgeBetween 5 = .ok (.istore_n 2, 1) := by decide +kernel
theorem dX4_hedgeBetween_6 : decode cX4_hedgeBetween 6 = .ok (.iload_n 0, 1) := by decide +kernel
theorem dX4_hedgeBetween_7 : decode cX4_hedgeBetween 7 = .ok (.iload_n 1, 1) := by decide +kernel
theorem dX4_hedgeBetween_8 : decode cX4_hedgeBetween 8 = .ok (.invokestatic 27, 3) := by decide +kernel
theorem dX4_hedgeBetween_11 : decode cX4_hedgeBetween 11 = .ok (.istore_n 3, 1) := by decide +kernel
theorem dX4_hedgeBetween_12 : decode cX4_hedgeBetween 12 = .ok (.iconst 0, 1) := by decide +kernel
theorem dX4_hedgeBetween_13 : decode cX4_hedgeBetween 13 = .ok (.istore 4, 2) := by decide +kernel
theorem dX4_hedgeBetween_15 : decode cX4_hedgeBetween 15 = .ok (.iload 4, 2) := by decide +kernel
theorem dX4_hedgeBetween_17 : decode cX4_hedgeBetween 17 = .ok (.bipush 24, 2) := by decide +kernel
theorem dX4_hedgeBetween_19 : decode cX4_hedgeBetween 19 = .ok (.if_icmp .ge 32, 3) := by decide +kernel
theorem dX4_hedgeBetween_22 : decode cX4_hedgeBetween 22 = .ok (.getstatic 30, 3) := by decide +kernel
theorem dX4_hedgeBetween_25 : decode cX4_hedgeBetween 25 = .ok (.iload 4, 2) := by decide +kernel
theorem dX4_hedgeBetween_27 : decode cX4_hedgeBetween 27 = .ok (.iaload, 1) := by decide +kernel
theorem dX4_hedgeBetween_28 : decode cX4_hedgeBetween 28 = .ok (.iload_n 2, 1) := by decide +kernel
theorem dX4_hedgeBetween_29 : decode cX4_hedgeBetween 29 = .ok (.if_icmp .ne 16, 3) := by decide +kernel
theorem dX4_hedgeBetween_32 : decode cX4_hedgeBetween 32 = .ok (.getstatic 33, 3) := by decide +kernel
theorem dX4_hedgeBetween_35 : decode cX4_hedgeBetween 35 = .ok (.iload 4, 2) := by decide +kernel
theorem dX4_hedgeBetween_37 : decode cX4_hedgeBetween 37 = .ok (.iaload, 1) := by decide +kernel
theorem dX4_hedgeBetween_38 : decode cX4_hedgeBetween 38 = .ok (.iload_n 3, 1) := by decide +kernel
theorem dX4_hedgeBetween_39 : decode cX4_hedgeBetween 39 = .ok (.if_icmp .ne 6, 3) := by decide +kernel
theorem dX4_hedgeBetween_42 : decode cX4_hedgeBetween 42 = .ok (.iload 4, 2) := by decide +kernel
theorem dX4_hedgeBetween_44 : decode cX4_hedgeBetween 44 = .ok (.ireturn, 1) := by decide +kernel
theorem dX4_hedgeBetween_45 : decode cX4_hedgeBetween 45 = .ok (.iinc 4 1, 3) := by decide +kernel
theorem dX4_hedgeBetween_48 : decode cX4_hedgeBetween 48 = .ok (.goto (-33), 3) := by decide +kernel
theorem dX4_hedgeBetween_51 : decode cX4_hedgeBetween 51 = .ok (.iconst (-1), 1) := by decide +kernel
theorem dX4_hedgeBetween_52 : decode cX4_hedgeBetween 52 = .ok (.ireturn, 1) := by decide +kernel
theorem dX4_cellAcross_0 : decode cX4_cellAcross 0 = .ok (.iload_n 0, 1) := by decide +kernel
theorem dX4_cellAcross_1 : decode cX4_cellAcross 1 = .ok (.ifCond .lt 9, 3) := by decide +kernel
theorem dX4_cellAcross_4 : decode cX4_cellAcross 4 = .ok (.iload_n 0, 1) := by decide +kernel
theorem dX4_cellAcross_5 : decode cX4_cellAcross 5 = .ok (.bipush 24, 2) := by decide +kernel
theorem dX4_cellAcross_7 : decode cX4_cellAcross 7 = .ok (.if_icmp .lt 5, 3) := by decide +kernel
theorem dX4_cellAcross_10 : decode cX4_cellAcross 10 = .ok (.iconst (-1), 1) := by decide +kernel
theorem dX4_cellAcross_11 : decode cX4_cellAcross 11 = .ok (.ireturn, 1) := by decide +kernel
theorem dX4_cellAcross_12 : decode cX4_cellAcross 12 = .ok (.getstatic 30, 3) := by decide +kernel
theorem dX4_cellAcross_15 : decode cX4_cellAcross 15 = .ok (.iload_n 0, 1) := by decide +kernel
theorem dX4_cellAcross_16 : decode cX4_cellAcross 16 = .ok (.iaload, 1) := by decide +kernel
theorem dX4_cellAcross_17 : decode cX4_cellAcross 17 = .ok (.iload_n 1, 1) := by decide +kernel
theorem dX4_cellAcross_18 : decode cX4_cellAcross 18 = .ok (.if_icmp .ne 9, 3) := by decide +kernel
theorem dX4_cellAcross_21 : decode cX4_cellAcross 21 = .ok (.getstatic 33, 3) := by decide +kernel
theorem dX4_cellAcross_24 : decode cX4_cellAcross 24 = .ok (.iload_n 0, 1) := by decide +kernel
theorem dX4_cellAcross_25 : decode cX4_cellAcross 25 = .ok (.iaload, 1) := by decide +kernel
theorem dX4_cellAcross_26 : decode cX4_cellAcross 26 = .ok (.ireturn, 1) := by decide +kernel
theorem dX4_cellAcross_27 : decode cX4_cellAcross 27 = .ok (.getstatic 33, 3) := by decide +kernel
theorem dX4_cellAcross_30 : decode cX4_cellAcross 30 = .ok (.iload_n 0, 1) := by decide +kernel
theorem dX4_cellAcross_31 : decode cX4_cellAcross 31 = .ok (.iaload, 1) := by decide +kernel
theorem dX4_cellAcross_32 : decode cX4_cellAcross 32 = .ok (.iload_n 1, 1) := by decide +kernel
theorem dX4_cellAcross_33 : decode cX4_cellAcross 33 = .ok (.if_icmp .ne 11, 3) := by decide +kernel
theorem dX4_cellAcross_36 : decode cX4_cellAcross 36 = .ok (.getstatic 30, 3) := by decide +kernel
theorem dX4_cellAcross_39 : decode cX4_cellAcross 39 = .ok (.iload_n 0, 1) := by decide +kernel
theorem dX4_cellAcross_40 : decode cX4_cellAcross 40 = .ok (.iaload, 1) := by decide +kernel
theorem dX4_cellAcross_41 : decode cX4_cellAcross 41 = .ok (.goto 4, 3) := by decide +kernel
theorem dX4_cellAcross_44 : decode cX4_cellAcross 44 = .ok (.iconst (-1), 1) := by decide +kernel
theorem dX4_cellAcross_45 : decode cX4_cellAcross 45 = .ok (.ireturn, 1) := by decide +kernel
theorem dX4_cellTowards_0 : decode cX4_cellTowards 0 = .ok (.iload_n 1, 1) := by decide +kernel
theorem dX4_cellTowards_1 : decode cX4_cellTowards 1 = .ok (.tableswitch 87 0 3 #[31, 44, 59, 73], 31) := by decide +kernel
theorem dX4_cellTowards_32 : decode cX4_cellTowards 32 = .ok (.iload_n 0, 1) := by decide +kernel
theorem dX4_cellTowards_33 : decode cX4_cellTowards 33 = .ok (.iconst 4, 1) := by decide +kernel
theorem dX4_cellTowards_34 : decode cX4_cellTowards 34 = .ok (.if_icmp .lt 9, 3) := by decide +kernel
theorem dX4_cellTowards_37 : decode cX4_cellTowards 37 = .ok (.iload_n 0, 1) := by decide +kernel
theorem dX4_cellTowards_38 : decode cX4_cellTowards 38 = .ok (.iconst 4, 1) := by decide +kernel
theorem dX4_cellTowards_39 : decode cX4_cellTowards 39 = .ok (.isub, 1) := by decide +kernel
theorem dX4_cellTowards_40 : decode cX4_cellTowards 40 = .ok (.goto 4, 3) := by decide +kernel
theorem dX4_cellTowards_43 : decode cX4_cellTowards 43 = .ok (.iconst (-1), 1) := by decide +kernel
theorem dX4_cellTowards_44 : decode cX4_cellTowards 44 = .ok (.ireturn, 1) := by decide +kernel
theorem dX4_cellTowards_45 : decode cX4_cellTowards 45 = .ok (.iload_n 0, 1) := by decide +kernel
theorem dX4_cellTowards_46 : decode cX4_cellTowards 46 = .ok (.iconst 4, 1) := by decide +kernel
theorem dX4_cellTowards_47 : decode cX4_cellTowards 47 = .ok (.irem, 1) := by decide +kernel
theorem dX4_cellTowards_48 : decode cX4_cellTowards 48 = .ok (.iconst 3, 1) := by decide +kernel
theorem dX4_cellTowards_49 : decode cX4_cellTowards 49 = .ok (.if_icmp .ge 9, 3) := by decide +kernel
theorem dX4_cellTowards_52 : decode cX4_cellTowards 52 = .ok (.iload_n 0, 1) := by decide +kernel
theorem dX4_cellTowards_53 : decode cX4_cellTowards 53 = .ok (.iconst 1, 1) := by decide +kernel
theorem dX4_cellTowards_54 : decode cX4_cellTowards 54 = .ok (.iadd, 1) := by decide +kernel
theorem dX4_cellTowards_55 : decode cX4_cellTowards 55 = .ok (.goto 4, 3) := by decide +kernel
theorem dX4_cellTowards_58 : decode cX4_cellTowards 58 = .ok (.iconst (-1), 1) := by decide +kernel
theorem dX4_cellTowards_59 : decode cX4_cellTowards 59 = .ok (.ireturn, 1) := by decide +kernel
theorem dX4_cellTowards_60 : decode cX4_cellTowards 60 = .ok (.iload_n 0, 1) := by decide +kernel
theorem dX4_cellTowards_61 : decode cX4_cellTowards 61 = .ok (.bipush 12, 2) := by decide +kernel
theorem dX4_cellTowards_63 : decode cX4_cellTowards 63 = .ok (.if_icmp .ge 9, 3) := by decide +kernel
theorem dX4_cellTowards_66 : decode cX4_cellTowards 66 = .ok (.iload_n 0, 1) := by decide +kernel
theorem dX4_cellTowards_67 : decode cX4_cellTowards 67 = .ok (.iconst 4, 1) := by decide +kernel
theorem dX4_cellTowards_68 : decode cX4_cellTowards 68 = .ok (.iadd, 1) := by decide +kernel
theorem dX4_cellTowards_69 : decode cX4_cellTowards 69 = .ok (.goto 4, 3) := by decide +kernel
theorem dX4_cellTowards_72 : decode cX4_cellTowards 72 = .ok (.iconst (-1), 1) := by decide +kernel
theorem dX4_cellTowards_73 : decode cX4_cellTowards 73 = .ok (.ireturn, 1) := by decide +kernel
theorem dX4_cellTowards_74 : decode cX4_cellTowards 74 = .ok (.iload_n 0, 1) := by decide +kernel
theorem dX4_cellTowards_75 : decode cX4_cellTowards 75 = .ok (.iconst 4, 1) := by decide +kernel
theorem dX4_cellTowards_76 : decode cX4_cellTowards 76 = .ok (.irem, 1) := by decide +kernel
theorem dX4_cellTowards_77 : decode cX4_cellTowards 77 = .ok (.ifCond .le 9, 3) := by decide +kernel
theorem dX4_cellTowards_80 : decode cX4_cellTowards 80 = .ok (.iload_n 0, 1) := by decide +kernel
theorem dX4_cellTowards_81 : decode cX4_cellTowards 81 = .ok (.iconst 1, 1) := by decide +kernel
theorem dX4_cellTowards_82 : decode cX4_cellTowards 82 = .ok (.isub, 1) := by decide +kernel
theorem dX4_cellTowards_83 : decode cX4_cellTowards 83 = .ok (.goto 4, 3) := by decide +kernel
theorem dX4_cellTowards_86 : decode cX4_cellTowards 86 = .ok (.iconst (-1), 1) := by decide +kernel
theorem dX4_cellTowards_87 : decode cX4_cellTowards 87 = .ok (.ireturn, 1) := by decide +kernel
theorem dX4_cellTowards_88 : decode cX4_cellTowards 88 = .ok (.iconst (-1), 1) := by decide +kernel
theorem dX4_cellTowards_89 : decode cX4_cellTowards 89 = .ok (.ireturn, 1) := by decide +kernel
theorem dX4_leavesOf_0 : decode cX4_leavesOf 0 = .ok (.iload_n 1, 1) := by decide +kernel
theorem dX4_leavesOf_1 : decode cX4_leavesOf 1 = .ok (.ifCond .lt 18, 3) := by decide +kernel
theorem dX4_leavesOf_4 : decode cX4_leavesOf 4 = .ok (.iload_n 1, 1) := by decide +kernel
theorem dX4_leavesOf_5 : decode cX4_leavesOf 5 = .ok (.bipush 24, 2) := by decide +kernel
theorem dX4_leavesOf_7 : decode cX4_leavesOf 7 = .ok (.if_icmp .ge 12, 3) := by decide +kernel
theorem dX4_leavesOf_10 : decode cX4_leavesOf 10 = .ok (.aload_n 0, 1) := by decide +kernel
theorem dX4_leavesOf_11 : decode cX4_leavesOf 11 = .ok (.getfield 9, 3) := by decide +kernel
theorem dX4_leavesOf_14 : decode cX4_leavesOf 14 = .ok (.iload_n 1, 1) := by decide +kernel
theorem dX4_leavesOf_15 : decode cX4_leavesOf 15 = .ok (.iaload, 1) := by decide +kernel
theorem dX4_leavesOf_16 : decode cX4_leavesOf 16 = .ok (.goto 5, 3) := by decide +kernel
theorem dX4_leavesOf_19 : decode cX4_leavesOf 19 = .ok (.bipush 9, 2) := by decide +kernel
theorem dX4_leavesOf_21 : decode cX4_leavesOf 21 = .ok (.ireturn, 1) := by decide +kernel
theorem dX4_putLeaves_0 : decode cX4_putLeaves 0 = .ok (.iload_n 1, 1) := by decide +kernel
theorem dX4_putLeaves_1 : decode cX4_putLeaves 1 = .ok (.ifCond .lt 16, 3) := by decide +kernel
theorem dX4_putLeaves_4 : decode cX4_putLeaves 4 = .ok (.iload_n 1, 1) := by decide +kernel
theorem dX4_putLeaves_5 : decode cX4_putLeaves 5 = .ok (.bipush 24, 2) := by decide +kernel
theorem dX4_putLeaves_7 : decode cX4_putLeaves 7 = .ok (.if_icmp .ge 10, 3) := by decide +kernel
theorem dX4_putLeaves_10 : decode cX4_putLeaves 10 = .ok (.aload_n 0, 1) := by decide +kernel
theorem dX4_putLeaves_11 : decode cX4_putLeaves 11 = .ok (.getfield 9, 3) := by decide +kernel
theorem dX4_putLeaves_14 : decode cX4_putLeaves 14 = .ok (.iload_n 1, 1) := by decide +kernel
theorem dX4_putLeaves_15 : decode cX4_putLeaves 15 = .ok (.iload_n 2, 1) := by decide +kernel
theorem dX4_putLeaves_16 : decode cX4_putLeaves 16 = .ok (.iastore, 1) := by decide +kernel
theorem dX4_putLeaves_17 : decode cX4_putLeaves 17 = .ok (.return_, 1) := by decide +kernel
theorem dX4_isOpen_0 : decode cX4_isOpen 0 = .ok (.aload_n 0, 1) := by decide +kernel
theorem dX4_isOpen_1 : decode cX4_isOpen 1 = .ok (.iload_n 1, 1) := by decide +kernel
theorem dX4_isOpen_2 : decode cX4_isOpen 2 = .ok (.invokevirtual 36, 3) := by decide +kernel
theorem dX4_isOpen_5 : decode cX4_isOpen 5 = .ok (.iconst 5, 1) := by decide +kernel
theorem dX4_isOpen_6 : decode cX4_isOpen 6 = .ok (.if_icmp .ge 7, 3) := by decide +kernel
theorem dX4_isOpen_9 : decode cX4_isOpen 9 = .ok (.iconst 1, 1) := by decide +kernel
theorem dX4_isOpen_10 : decode cX4_isOpen 10 = .ok (.goto 4, 3) := by decide +kernel
theorem dX4_isOpen_13 : decode cX4_isOpen 13 = .ok (.iconst 0, 1) := by decide +kernel
theorem dX4_isOpen_14 : decode cX4_isOpen 14 = .ok (.ireturn, 1) := by decide +kernel
theorem dX4_gaps_0 : decode cX4_gaps 0 = .ok (.iconst 0, 1) := by decide +kernel
theorem dX4_gaps_1 : decode cX4_gaps 1 = .ok (.istore_n 1, 1) := by decide +kernel
theorem dX4_gaps_2 : decode cX4_gaps 2 = .ok (.iconst 0, 1) := by decide +kernel
theorem dX4_gaps_3 : decode cX4_gaps 3 = .ok (.istore_n 2, 1) := by decide +kernel
theorem dX4_gaps_4 : decode cX4_gaps 4 = .ok (.iload_n 2, 1) := by decide +kernel
theorem dX4_gaps_5 : decode cX4_gaps 5 = .ok (.bipush 24, 2) := by decide +kernel
theorem dX4_gaps_7 : decode cX4_gaps 7 = .ok (.if_icmp .ge 20, 3) := by decide +kernel
theorem dX4_gaps_10 : decode cX4_gaps 10 = .ok (.aload_n 0, 1) := by decide +kernel
theorem dX4_gaps_11 : decode cX4_gaps 11 = .ok (.iload_n 2, 1) := by decide +kernel
theorem dX4_gaps_12 : decode cX4_gaps 12 = .ok (.invokevirtual 40, 3) := by decide +kernel
theorem dX4_gaps_15 : decode cX4_gaps 15 = .ok (.ifCond .eq 6, 3) := by decide +kernel
theorem dX4_gaps_18 : decode cX4_gaps 18 = .ok (.iinc 1 1, 3) := by decide +kernel
theorem dX4_gaps_21 : decode cX4_gaps 21 = .ok (.iinc 2 1, 3) := by decide +kernel
theorem dX4_gaps_24 : decode cX4_gaps 24 = .ok (.goto (-20), 3) := by decide +kernel
theorem dX4_gaps_27 : decode cX4_gaps 27 = .ok (.iload_n 1, 1) := by decide +kernel
theorem dX4_gaps_28 : decode cX4_gaps 28 = .ok (.ireturn, 1) := by decide +kernel
theorem dX4_grow_0 : decode cX4_grow 0 = .ok (.iconst 0, 1) := by decide +kernel
theorem dX4_grow_1 : decode cX4_grow 1 = .ok (.istore_n 1, 1) := by decide +kernel
theorem dX4_grow_2 : decode cX4_grow 2 = .ok (.iload_n 1, 1) := by decide +kernel
theorem dX4_grow_3 : decode cX4_grow 3 = .ok (.bipush 24, 2) := by decide +kernel
theorem dX4_grow_5 : decode cX4_grow 5 = .ok (.if_icmp .ge 28, 3) := by decide +kernel
theorem dX4_grow_8 : decode cX4_grow 8 = .ok (.aload_n 0, 1) := by decide +kernel
theorem dX4_grow_9 : decode cX4_grow 9 = .ok (.getfield 9, 3) := by decide +kernel
theorem dX4_grow_12 : decode cX4_grow 12 = .ok (.iload_n 1, 1) := by decide +kernel
theorem dX4_grow_13 : decode cX4_grow 13 = .ok (.bipush 9, 2) := by decide +kernel
theorem dX4_grow_15 : decode cX4_grow 15 = .ok (.aload_n 0, 1) := by decide +kernel
theorem dX4_grow_16 : decode cX4_grow 16 = .ok (.getfield 9, 3) := by decide +kernel
theorem dX4_grow_19 : decode cX4_grow 19 = .ok (.iload_n 1, 1) := by decide +kernel
theorem dX4_grow_20 : decode cX4_grow 20 = .ok (.iaload, 1) := by decide +kernel
theorem dX4_grow_21 : decode cX4_grow 21 = .ok (.iconst 1, 1) := by decide +kernel
theorem dX4_grow_22 : decode cX4_grow 22 = .ok (.iadd, 1) := by decide +kernel
theorem dX4_grow_23 : decode cX4_grow 23 = .ok (.invokestatic 21, 3) := by decide +kernel
theorem dX4_grow_26 : decode cX4_grow 26 = .ok (.iastore, 1) := by decide +kernel
theorem dX4_grow_27 : decode cX4_grow 27 = .ok (.iinc 1 1, 3) := by decide +kernel
theorem dX4_grow_30 : decode cX4_grow 30 = .ok (.goto (-28), 3) := by decide +kernel
theorem dX4_grow_33 : decode cX4_grow 33 = .ok (.return_, 1) := by decide +kernel
theorem dX5_init_0 : decode cX5_init 0 = .ok (.aload_n 0, 1) := by decide +kernel
theorem dX5_init_1 : decode cX5_init 1 = .ok (.invokespecial 3, 3) := by decide +kernel
theorem dX5_init_4 : decode cX5_init 4 = .ok (.return_, 1) := by decide +kernel
theorem dX5_because_0 : decode cX5_because 0 = .ok (.aload_n 0, 1) := by decide +kernel
theorem dX5_because_1 : decode cX5_because 1 = .ok (.iload_n 1, 1) := by decide +kernel
theorem dX5_because_2 : decode cX5_because 2 = .ok (.putfield 9, 3) := by decide +kernel
theorem dX5_because_5 : decode cX5_because 5 = .ok (.aload_n 0, 1) := by decide +kernel
theorem dX5_because_6 : decode cX5_because 6 = .ok (.iload_n 2, 1) := by decide +kernel
theorem dX5_because_7 : decode cX5_because 7 = .ok (.putfield 15, 3) := by decide +kernel
theorem dX5_because_10 : decode cX5_because 10 = .ok (.aload_n 0, 1) := by decide +kernel
theorem dX5_because_11 : decode cX5_because 11 = .ok (.iconst 0, 1) := by decide +kernel
theorem dX5_because_12 : decode cX5_because 12 = .ok (.putfield 18, 3) := by decide +kernel
theorem dX5_because_15 : decode cX5_because 15 = .ok (.iconst (-1), 1) := by decide +kernel
theorem dX5_because_16 : decode cX5_because 16 = .ok (.ireturn, 1) := by decide +kernel
theorem dX6_init_0 : decode cX6_init 0 = .ok (.aload_n 0, 1) := by decide +kernel
theorem dX6_init_1 : decode cX6_init 1 = .ok (.invokespecial 3, 3) := by decide +kernel
theorem dX6_init_4 : decode cX6_init 4 = .ok (.aload_n 0, 1) := by decide +kernel
theorem dX6_init_5 : decode cX6_init 5 = .ok (.new 9, 3) := by decide +kernel
theorem dX6_init_8 : decode cX6_init 8 = .ok (.dup, 1) := by decide +kernel
theorem dX6_init_9 : decode cX6_init 9 = .ok (.invokespecial 11, 3) := by decide +kernel
theorem dX6_init_12 : decode cX6_init 12 = .ok (.putfield 12, 3) := by decide +kernel
theorem dX6_init_15 : decode cX6_init 15 = .ok (.aload_n 0, 1) := by decide +kernel
theorem dX6_init_16 : decode cX6_init 16 = .ok (.iconst (-1), 1) := by decide +kernel
theorem dX6_init_17 : decode cX6_init 17 = .ok (.putfield 18, 3) := by decide +kernel
theorem dX6_init_20 : decode cX6_init 20 = .ok (.aload_n 0, 1) := by decide +kernel
theorem dX6_init_21 : decode cX6_init 21 = .ok (.iconst 4, 1) := by decide +kernel
theorem dX6_init_22 : decode cX6_init 22 = .ok (.anewarray 22, 3) := by decide +kernel
theorem dX6_init_25 : decode cX6_init 25 = .ok (.putfield 24, 3) := by decide +kernel
theorem dX6_init_28 : decode cX6_init 28 = .ok (.iconst 0, 1) := by decide +kernel
theorem dX6_init_29 : decode cX6_init 29 = .ok (.istore_n 1, 1) := by decide +kernel
theorem dX6_init_30 : decode cX6_init 30 = .ok (.iload_n 1, 1) := by decide +kernel
theorem dX6_init_31 : decode cX6_init 31 = .ok (.iconst 4, 1) := by decide +kernel
theorem dX6_init_32 : decode cX6_init 32 = .ok (.if_icmp .ge 22, 3) := by decide +kernel
theorem dX6_init_35 : decode cX6_init 35 = .ok (.aload_n 0, 1) := by decide +kernel
theorem dX6_init_36 : decode cX6_init 36 = .ok (.getfield 24, 3) := by decide +kernel
theorem dX6_init_39 : decode cX6_init 39 = .ok (.iload_n 1, 1) := by decide +kernel
theorem dX6_init_40 : decode cX6_init 40 = .ok (.new 22, 3) := by decide +kernel
theorem dX6_init_43 : decode cX6_init 43 = .ok (.dup, 1) := by decide +kernel
theorem dX6_init_44 : decode cX6_init 44 = .ok (.invokespecial 28, 3) := by decide +kernel
theorem dX6_init_47 : decode cX6_init 47 = .ok (.aastore, 1) := by decide +kernel
theorem dX6_init_48 : decode cX6_init 48 = .ok (.iinc 1 1, 3) := by decide +kernel
theorem dX6_init_51 : decode cX6_init 51 = .ok (.goto (-21), 3) := by decide +kernel
theorem dX6_init_54 : decode cX6_init 54 = .ok (.aload_n 0, 1) := by decide +kernel
theorem dX6_init_55 : decode cX6_init 55 = .ok (.iconst 5, 1) := by decide +kernel
theorem dX6_init_56 : decode cX6_init 56 = .ok (.anewarray 29, 3) := by decide +kernel
theorem dX6_init_59 : decode cX6_init 59 = .ok (.putfield 31, 3) := by decide +kernel
theorem dX6_init_62 : decode cX6_init 62 = .ok (.iconst 0, 1) := by decide +kernel
theorem dX6_init_63 : decode cX6_init 63 = .ok (.istore_n 1, 1) := by decide +kernel
theorem dX6_init_64 : decode cX6_init 64 = .ok (.iload_n 1, 1) := by decide +kernel
theorem dX6_init_65 : decode cX6_init 65 = .ok (.iconst 5, 1) := by decide +kernel
theorem dX6_init_66 : decode cX6_init 66 = .ok (.if_icmp .ge 22, 3) := by decide +kernel
theorem dX6_init_69 : decode cX6_init 69 = .ok (.aload_n 0, 1) := by decide +kernel
theorem dX6_init_70 : decode cX6_init 70 = .ok (.getfield 31, 3) := by decide +kernel
theorem dX6_init_73 : decode cX6_init 73 = .ok (.iload_n 1, 1) := by decide +kernel
theorem dX6_init_74 : decode cX6_init 74 = .ok (.new 29, 3) := by decide +kernel
theorem dX6_init_77 : decode cX6_init 77 = .ok (.dup, 1) := by decide +kernel
theorem dX6_init_78 : decode cX6_init 78 = .ok (.invokespecial 35, 3) := by decide +kernel
theorem dX6_init_81 : decode cX6_init 81 = .ok (.aastore, 1) := by decide +kernel
theorem dX6_init_82 : decode cX6_init 82 = .ok (.iinc 1 1, 3) := by decide +kernel
theorem dX6_init_85 : decode cX6_init 85 = .ok (.goto (-21), 3) := by decide +kernel
theorem dX6_init_88 : decode cX6_init 88 = .ok (.return_, 1) := by decide +kernel
theorem dX6_copyFrom_0 : decode cX6_copyFrom 0 = .ok (.aload_n 0, 1) := by decide +kernel
theorem dX6_copyFrom_1 : decode cX6_copyFrom 1 = .ok (.getfield 12, 3) := by decide +kernel
theorem dX6_copyFrom_4 : decode cX6_copyFrom 4 = .ok (.aload_n 1, 1) := by decide +kernel
theorem dX6_copyFrom_5 : decode cX6_copyFrom 5 = .ok (.getfield 12, 3) := by decide +kernel
theorem dX6_copyFrom_8 : decode cX6_copyFrom 8 = .ok (.invokevirtual 36, 3) := by decide +kernel
theorem dX6_copyFrom_11 : decode cX6_copyFrom 11 = .ok (.iconst 0, 1) := by decide +kernel
theorem dX6_copyFrom_12 : decode cX6_copyFrom 12 = .ok (.istore_n 2, 1) := by decide +kernel
theorem dX6_copyFrom_13 : decode cX6_copyFrom 13 = .ok (.iload_n 2, 1) := by decide +kernel
theorem dX6_copyFrom_14 : decode cX6_copyFrom 14 = .ok (.iconst 4, 1) := by decide +kernel
theorem dX6_copyFrom_15 : decode cX6_copyFrom 15 = .ok (.if_icmp .ge 24, 3) := by decide +kernel
theorem dX6_copyFrom_18 : decode cX6_copyFrom 18 = .ok (.aload_n 0, 1) := by decide +kernel
theorem dX6_copyFrom_19 : decode cX6_copyFrom 19 = .ok (.getfield 24, 3) := by decide +kernel
theorem dX6_copyFrom_22 : decode cX6_copyFrom 22 = .ok (.iload_n 2, 1) := by decide +kernel
theorem dX6_copyFrom_23 : decode cX6_copyFrom 23 = .ok (.aaload, 1) := by decide +kernel
theorem dX6_copyFrom_24 : decode cX6_copyFrom 24 = .ok (.aload_n 1, 1) := by decide +kernel
theorem dX6_copyFrom_25 : decode cX6_copyFrom 25 = .ok (.getfield 24, 3) := by decide +kernel
theorem dX6_copyFrom_28 : decode cX6_copyFrom 28 = .ok (.iload_n 2, 1) := by decide +kernel
theorem dX6_copyFrom_29 : decode cX6_copyFrom 29 = .ok (.aaload, 1) := by decide +kernel
theorem dX6_copyFrom_30 : decode cX6_copyFrom 30 = .ok (.invokevirtual 40, 3) := by decide +kernel
theorem dX6_copyFrom_33 : decode cX6_copyFrom 33 = .ok (.iinc 2 1, 3) := by decide +kernel
theorem dX6_copyFrom_36 : decode cX6_copyFrom 36 = .ok (.goto (-23), 3) := by decide +kernel
theorem dX6_copyFrom_39 : decode cX6_copyFrom 39 = .ok (.iconst 0, 1) := by decide +kernel
theorem dX6_copyFrom_40 : decode cX6_copyFrom 40 = .ok (.istore_n 2, 1) := by decide +kernel
theorem dX6_copyFrom_41 : decode cX6_copyFrom 41 = .ok (.iload_n 2, 1) := by decide +kernel
theorem dX6_copyFrom_42 : decode cX6_copyFrom 42 = .ok (.iconst 5, 1) := by decide +kernel
theorem dX6_copyFrom_43 : decode cX6_copyFrom 43 = .ok (.if_icmp .ge 24, 3) := by decide +kernel
theorem dX6_copyFrom_46 : decode cX6_copyFrom 46 = .ok (.aload_n 0, 1) := by decide +kernel
theorem dX6_copyFrom_47 : decode cX6_copyFrom 47 = .ok (.getfield 31, 3) := by decide +kernel
theorem dX6_copyFrom_50 : decode cX6_copyFrom 50 = .ok (.iload_n 2, 1) := by decide +kernel
theorem dX6_copyFrom_51 : decode cX6_copyFrom 51 = .ok (.aaload, 1) := by decide +kernel
theorem dX6_copyFrom_52 : decode cX6_copyFrom 52 = .ok (.aload_n 1, 1) := by decide +kernel
theorem dX6_copyFrom_53 : decode cX6_copyFrom 53 = .ok (.getfield 31, 3) := by decide +kernel
theorem dX6_copyFrom_56 : decode cX6_copyFrom 56 = .ok (.iload_n 2, 1) := by decide +kernel
theorem dX6_copyFrom_57 : decode cX6_copyFrom 57 = .ok (.aaload, 1) := by decide +kernel
theorem dX6_copyFrom_58 : decode cX6_copyFrom 58 = .ok (.invokevirtual 43, 3) := by decide +kernel
theorem dX6_copyFrom_61 : decode cX6_copyFrom 61 = .ok (.iinc 2 1, 3) := by decide +kernel
theorem dX6_copyFrom_64 : decode cX6_copyFrom 64 = .ok (.goto (-23), 3) := by decide +kernel
theorem dX6_copyFrom_67 : decode cX6_copyFrom 67 = .ok (.aload_n 0, 1) := by decide +kernel
theorem dX6_copyFrom_68 : decode cX6_copyFrom 68 = .ok (.aload_n 1, 1) := by decide +kernel
theorem dX6_copyFrom_69 : decode cX6_copyFrom 69 = .ok (.getfield 46, 3) := by decide +kernel
theorem dX6_copyFrom_72 : decode cX6_copyFrom 72 = .ok (.putfield 46, 3) := by decide +kernel
