theorem dX9_line_15 : decode cX9_line 15 = .ok (.getfield 234, 3) := by decide +kernel
theorem dX9_line_18 : decode cX9_line 18 = .ok (.ifCond .eq 17, 3) := by decide +kernel
theorem dX9_line_21 : decode cX9_line 21 = .ok (.aload_n 0, 1) := by decide +kernel
theorem dX9_line_22 : decode cX9_line 22 = .ok (.getfield 72, 3) := by decide +kernel
theorem dX9_line_25 : decode cX9_line 25 = .ok (.ldc_w 324, 3) := by decide +kernel
theorem dX9_line_28 : decode cX9_line 28 = .ok (.invokevirtual 326, 3) := by decide +kernel
theorem dX9_line_31 : decode cX9_line 31 = .ok (.pop, 1) := by decide +kernel
theorem dX9_line_32 : decode cX9_line 32 = .ok (.goto 15, 3) := by decide +kernel
theorem dX9_line_35 : decode cX9_line 35 = .ok (.aload_n 0, 1) := by decide +kernel
theorem dX9_line_36 : decode cX9_line 36 = .ok (.getfield 72, 3) := by decide +kernel
theorem dX9_line_39 : decode cX9_line 39 = .ok (.aload_n 2, 1) := by decide +kernel
theorem dX9_line_40 : decode cX9_line 40 = .ok (.getfield 239, 3) := by decide +kernel
theorem dX9_line_43 : decode cX9_line 43 = .ok (.invokevirtual 330, 3) := by decide +kernel
theorem dX9_line_46 : decode cX9_line 46 = .ok (.pop, 1) := by decide +kernel
theorem dX9_line_47 : decode cX9_line 47 = .ok (.aload_n 0, 1) := by decide +kernel
theorem dX9_line_48 : decode cX9_line 48 = .ok (.getfield 72, 3) := by decide +kernel
theorem dX9_line_51 : decode cX9_line 51 = .ok (.bipush 43, 2) := by decide +kernel
theorem dX9_line_53 : decode cX9_line 53 = .ok (.invokevirtual 333, 3) := by decide +kernel
theorem dX9_line_56 : decode cX9_line 56 = .ok (.aload_n 2, 1) := by decide +kernel
theorem dX9_line_57 : decode cX9_line 57 = .ok (.getfield 336, 3) := by decide +kernel
theorem dX9_line_60 : decode cX9_line 60 = .ok (.invokevirtual 330, 3) := by decide +kernel
theorem dX9_line_63 : decode cX9_line 63 = .ok (.pop, 1) := by decide +kernel
theorem dX9_line_64 : decode cX9_line 64 = .ok (.aload_n 2, 1) := by decide +kernel
theorem dX9_line_65 : decode cX9_line 65 = .ok (.invokevirtual 339, 3) := by decide +kernel
theorem dX9_line_68 : decode cX9_line 68 = .ok (.ifCond .eq 49, 3) := by decide +kernel
theorem dX9_line_71 : decode cX9_line 71 = .ok (.aload_n 0, 1) := by decide +kernel
theorem dX9_line_72 : decode cX9_line 72 = .ok (.getfield 72, 3) := by decide +kernel
theorem dX9_line_75 : decode cX9_line 75 = .ok (.bipush 35, 2) := by decide +kernel
theorem dX9_line_77 : decode cX9_line 77 = .ok (.invokevirtual 333, 3) := by decide +kernel
theorem dX9_line_80 : decode cX9_line 80 = .ok (.aload_n 2, 1) := by decide +kernel
theorem dX9_line_81 : decode cX9_line 81 = .ok (.getfield 228, 3) := by decide +kernel
theorem dX9_line_84 : decode cX9_line 84 = .ok (.invokevirtual 330, 3) := by decide +kernel
theorem dX9_line_87 : decode cX9_line 87 = .ok (.bipush 42, 2) := by decide +kernel
theorem dX9_line_89 : decode cX9_line 89 = .ok (.invokevirtual 333, 3) := by decide +kernel
theorem dX9_line_92 : decode cX9_line 92 = .ok (.aload_n 2, 1) := by decide +kernel
theorem dX9_line_93 : decode cX9_line 93 = .ok (.getfield 342, 3) := by decide +kernel
theorem dX9_line_96 : decode cX9_line 96 = .ok (.invokevirtual 330, 3) := by decide +kernel
theorem dX9_line_99 : decode cX9_line 99 = .ok (.pop, 1) := by decide +kernel
theorem dX9_line_100 : decode cX9_line 100 = .ok (.aload_n 2, 1) := by decide +kernel
theorem dX9_line_101 : decode cX9_line 101 = .ok (.getfield 345, 3) := by decide +kernel
theorem dX9_line_104 : decode cX9_line 104 = .ok (.ifCond .eq 13, 3) := by decide +kernel
theorem dX9_line_107 : decode cX9_line 107 = .ok (.aload_n 0, 1) := by decide +kernel
theorem dX9_line_108 : decode cX9_line 108 = .ok (.getfield 72, 3) := by decide +kernel
theorem dX9_line_111 : decode cX9_line 111 = .ok (.bipush 33, 2) := by decide +kernel
theorem dX9_line_113 : decode cX9_line 113 = .ok (.invokevirtual 333, 3) := by decide +kernel
theorem dX9_line_116 : decode cX9_line 116 = .ok (.pop, 1) := by decide +kernel
theorem dX9_line_117 : decode cX9_line 117 = .ok (.aload_n 0, 1) := by decide +kernel
theorem dX9_line_118 : decode cX9_line 118 = .ok (.getfield 72, 3) := by decide +kernel
theorem dX9_line_121 : decode cX9_line 121 = .ok (.invokevirtual 348, 3) := by decide +kernel
theorem dX9_line_124 : decode cX9_line 124 = .ok (.ireturn, 1) := by decide +kernel
theorem dX9_row_0 : decode cX9_row 0 = .ok (.iload_n 1, 1) := by decide +kernel
theorem dX9_row_1 : decode cX9_row 1 = .ok (.ifCond .lt 8, 3) := by decide +kernel
theorem dX9_row_4 : decode cX9_row 4 = .ok (.iload_n 1, 1) := by decide +kernel
theorem dX9_row_5 : decode cX9_row 5 = .ok (.iconst 4, 1) := by decide +kernel
theorem dX9_row_6 : decode cX9_row 6 = .ok (.if_icmp .lt 14, 3) := by decide +kernel
theorem dX9_row_9 : decode cX9_row 9 = .ok (.new 212, 3) := by decide +kernel
theorem dX9_row_12 : decode cX9_row 12 = .ok (.dup, 1) := by decide +kernel
theorem dX9_row_13 : decode cX9_row 13 = .ok (.ldc_w 350, 3) := by decide +kernel
theorem dX9_row_16 : decode cX9_row 16 = .ok (.invokespecial 216, 3) := by decide +kernel
theorem dX9_row_19 : decode cX9_row 19 = .ok (.athrow, 1) := by decide +kernel
theorem dX9_row_20 : decode cX9_row 20 = .ok (.aload_n 0, 1) := by decide +kernel
theorem dX9_row_21 : decode cX9_row 21 = .ok (.getfield 72, 3) := by decide +kernel
theorem dX9_row_24 : decode cX9_row 24 = .ok (.iconst 0, 1) := by decide +kernel
theorem dX9_row_25 : decode cX9_row 25 = .ok (.invokevirtual 320, 3) := by decide +kernel
theorem dX9_row_28 : decode cX9_row 28 = .ok (.iload_n 1, 1) := by decide +kernel
theorem dX9_row_29 : decode cX9_row 29 = .ok (.iconst 4, 1) := by decide +kernel
theorem dX9_row_30 : decode cX9_row 30 = .ok (.imul, 1) := by decide +kernel
theorem dX9_row_31 : decode cX9_row 31 = .ok (.iconst 4, 1) := by decide +kernel
theorem dX9_row_32 : decode cX9_row 32 = .ok (.iadd, 1) := by decide +kernel
theorem dX9_row_33 : decode cX9_row 33 = .ok (.iconst 1, 1) := by decide +kernel
theorem dX9_row_34 : decode cX9_row 34 = .ok (.isub, 1) := by decide +kernel
theorem dX9_row_35 : decode cX9_row 35 = .ok (.istore_n 2, 1) := by decide +kernel
theorem dX9_row_36 : decode cX9_row 36 = .ok (.iload_n 1, 1) := by decide +kernel
theorem dX9_row_37 : decode cX9_row 37 = .ok (.iconst 4, 1) := by decide +kernel
theorem dX9_row_38 : decode cX9_row 38 = .ok (.imul, 1) := by decide +kernel
theorem dX9_row_39 : decode cX9_row 39 = .ok (.istore_n 3, 1) := by decide +kernel
theorem dX9_row_40 : decode cX9_row 40 = .ok (.iload_n 3, 1) := by decide +kernel
theorem dX9_row_41 : decode cX9_row 41 = .ok (.iload_n 2, 1) := by decide +kernel
theorem dX9_row_42 : decode cX9_row 42 = .ok (.if_icmp .gt 89, 3) := by decide +kernel
theorem dX9_row_45 : decode cX9_row 45 = .ok (.iload_n 3, 1) := by decide +kernel
theorem dX9_row_46 : decode cX9_row 46 = .ok (.aload_n 0, 1) := by decide +kernel
theorem dX9_row_47 : decode cX9_row 47 = .ok (.getfield 10, 3) := by decide +kernel
theorem dX9_row_50 : decode cX9_row 50 = .ok (.getfield 352, 3) := by decide +kernel
theorem dX9_row_53 : decode cX9_row 53 = .ok (.if_icmp .ne 16, 3) := by decide +kernel
theorem dX9_row_56 : decode cX9_row 56 = .ok (.aload_n 0, 1) := by decide +kernel
theorem dX9_row_57 : decode cX9_row 57 = .ok (.getfield 72, 3) := by decide +kernel
theorem dX9_row_60 : decode cX9_row 60 = .ok (.bipush 77, 2) := by decide +kernel
theorem dX9_row_62 : decode cX9_row 62 = .ok (.invokevirtual 333, 3) := by decide +kernel
theorem dX9_row_65 : decode cX9_row 65 = .ok (.pop, 1) := by decide +kernel
theorem dX9_row_66 : decode cX9_row 66 = .ok (.goto 19, 3) := by decide +kernel
theorem dX9_row_69 : decode cX9_row 69 = .ok (.aload_n 0, 1) := by decide +kernel
theorem dX9_row_70 : decode cX9_row 70 = .ok (.getfield 72, 3) := by decide +kernel
theorem dX9_row_73 : decode cX9_row 73 = .ok (.aload_n 0, 1) := by decide +kernel
theorem dX9_row_74 : decode cX9_row 74 = .ok (.getfield 10, 3) := by decide +kernel
theorem dX9_row_77 : decode cX9_row 77 = .ok (.iload_n 3, 1) := by decide +kernel
theorem dX9_row_78 : decode cX9_row 78 = .ok (.invokevirtual 355, 3) := by decide +kernel
theorem dX9_row_81 : decode cX9_row 81 = .ok (.invokevirtual 330, 3) := by decide +kernel
theorem dX9_row_84 : decode cX9_row 84 = .ok (.pop, 1) := by decide +kernel
theorem dX9_row_85 : decode cX9_row 85 = .ok (.iload_n 3, 1) := by decide +kernel
theorem dX9_row_86 : decode cX9_row 86 = .ok (.iload_n 2, 1) := by decide +kernel
theorem dX9_row_87 : decode cX9_row 87 = .ok (.if_icmp .ge 38, 3) := by decide +kernel
theorem dX9_row_90 : decode cX9_row 90 = .ok (.aload_n 0, 1) := by decide +kernel
theorem dX9_row_91 : decode cX9_row 91 = .ok (.getfield 72, 3) := by decide +kernel
theorem dX9_row_94 : decode cX9_row 94 = .ok (.aload_n 0, 1) := by decide +kernel
theorem dX9_row_95 : decode cX9_row 95 = .ok (.getfield 10, 3) := by decide +kernel
theorem dX9_row_98 : decode cX9_row 98 = .ok (.getfield 42, 3) := by decide +kernel
theorem dX9_row_101 : decode cX9_row 101 = .ok (.iload_n 3, 1) := by decide +kernel
theorem dX9_row_102 : decode cX9_row 102 = .ok (.iload_n 3, 1) := by decide +kernel
theorem dX9_row_103 : decode cX9_row 103 = .ok (.iconst 1, 1) := by decide +kernel
theorem dX9_row_104 : decode cX9_row 104 = .ok (.iadd, 1) := by decide +kernel
theorem dX9_row_105 : decode cX9_row 105 = .ok (.invokestatic 136, 3) := by decide +kernel
theorem dX9_row_108 : decode cX9_row 108 = .ok (.invokevirtual 139, 3) := by decide +kernel
theorem dX9_row_111 : decode cX9_row 111 = .ok (.ifCond .eq 8, 3) := by decide +kernel
theorem dX9_row_114 : decode cX9_row 114 = .ok (.bipush 32, 2) := by decide +kernel
theorem dX9_row_116 : decode cX9_row 116 = .ok (.goto 5, 3) := by decide +kernel
theorem dX9_row_119 : decode cX9_row 119 = .ok (.bipush 124, 2) := by decide +kernel
theorem dX9_row_121 : decode cX9_row 121 = .ok (.invokevirtual 333, 3) := by decide +kernel
theorem dX9_row_124 : decode cX9_row 124 = .ok (.pop, 1) := by decide +kernel
theorem dX9_row_125 : decode cX9_row 125 = .ok (.iinc 3 1, 3) := by decide +kernel
theorem dX9_row_128 : decode cX9_row 128 = .ok (.goto (-88), 3) := by decide +kernel
theorem dX9_row_131 : decode cX9_row 131 = .ok (.aload_n 0, 1) := by decide +kernel
theorem dX9_row_132 : decode cX9_row 132 = .ok (.getfield 72, 3) := by decide +kernel
theorem dX9_row_135 : decode cX9_row 135 = .ok (.invokevirtual 348, 3) := by decide +kernel
theorem dX9_row_138 : decode cX9_row 138 = .ok (.ireturn, 1) := by decide +kernel
theorem dX9_character_0 : decode cX9_character 0 = .ok (.iload_n 1, 1) := by decide +kernel
theorem dX9_character_1 : decode cX9_character 1 = .ok (.ifCond .lt 14, 3) := by decide +kernel
theorem dX9_character_4 : decode cX9_character 4 = .ok (.iload_n 1, 1) := by decide +kernel
theorem dX9_character_5 : decode cX9_character 5 = .ok (.aload_n 0, 1) := by decide +kernel
theorem dX9_character_6 : decode cX9_character 6 = .ok (.getfield 72, 3) := by decide +kernel
theorem dX9_character_9 : decode cX9_character 9 = .ok (.invokevirtual 348, 3) := by decide +kernel
theorem dX9_character_12 : decode cX9_character 12 = .ok (.if_icmp .lt 14, 3) := by decide +kernel
theorem dX9_character_15 : decode cX9_character 15 = .ok (.new 181, 3) := by decide +kernel
theorem dX9_character_18 : decode cX9_character 18 = .ok (.dup, 1) := by decide +kernel
theorem dX9_character_19 : decode cX9_character 19 = .ok (.ldc_w 358, 3) := by decide +kernel
theorem dX9_character_22 : decode cX9_character 22 = .ok (.invokespecial 185, 3) := by decide +kernel
theorem dX9_character_25 : decode cX9_character 25 = .ok (.athrow, 1) := by decide +kernel
theorem dX9_character_26 : decode cX9_character 26 = .ok (.aload_n 0, 1) := by decide +kernel
theorem dX9_character_27 : decode cX9_character 27 = .ok (.getfield 72, 3) := by decide +kernel
theorem dX9_character_30 : decode cX9_character 30 = .ok (.iload_n 1, 1) := by decide +kernel
theorem dX9_character_31 : decode cX9_character 31 = .ok (.invokevirtual 360, 3) := by decide +kernel
theorem dX9_character_34 : decode cX9_character 34 = .ok (.ireturn, 1) := by decide +kernel
theorem dX9_account_0 : decode cX9_account 0 = .ok (.iload_n 1, 1) := by decide +kernel
theorem dX9_account_1 : decode cX9_account 1 = .ok (.tableswitch 166 0 11 #[63, 71, 79, 89, 97, 107, 118, 126, 134, 142, 150, 158], 63) := by decide +kernel
theorem dX9_account_64 : decode cX9_account 64 = .ok (.aload_n 0, 1) := by decide +kernel
theorem dX9_account_65 : decode cX9_account 65 = .ok (.getfield 10, 3) := by decide +kernel
theorem dX9_account_68 : decode cX9_account 68 = .ok (.getfield 271, 3) := by decide +kernel
theorem dX9_account_71 : decode cX9_account 71 = .ok (.ireturn, 1) := by decide +kernel
theorem dX9_account_72 : decode cX9_account 72 = .ok (.aload_n 0, 1) := by decide +kernel
theorem dX9_account_73 : decode cX9_account 73 = .ok (.getfield 10, 3) := by decide +kernel
theorem dX9_account_76 : decode cX9_account 76 = .ok (.getfield 263, 3) := by decide +kernel
theorem dX9_account_79 : decode cX9_account 79 = .ok (.ireturn, 1) := by decide +kernel
theorem dX9_account_80 : decode cX9_account 80 = .ok (.aload_n 0, 1) := by decide +kernel
theorem dX9_account_81 : decode cX9_account 81 = .ok (.getfield 10, 3) := by decide +kernel
theorem dX9_account_84 : decode cX9_account 84 = .ok (.bipush 8, 2) := by decide +kernel
theorem dX9_account_86 : decode cX9_account 86 = .ok (.invokevirtual 369, 3) := by decide +kernel
theorem dX9_account_89 : decode cX9_account 89 = .ok (.ireturn, 1) := by decide +kernel
theorem dX9_account_90 : decode cX9_account 90 = .ok (.aload_n 0, 1) := by decide +kernel
theorem dX9_account_91 : decode cX9_account 91 = .ok (.getfield 10, 3) := by decide +kernel
theorem dX9_account_94 : decode cX9_account 94 = .ok (.invokevirtual 376, 3) := by decide +kernel
theorem dX9_account_97 : decode cX9_account 97 = .ok (.ireturn, 1) := by decide +kernel
theorem dX9_account_98 : decode cX9_account 98 = .ok (.aload_n 0, 1) := by decide +kernel
theorem dX9_account_99 : decode cX9_account 99 = .ok (.getfield 10, 3) := by decide +kernel
theorem dX9_account_102 : decode cX9_account 102 = .ok (.bipush 7, 2) := by decide +kernel
theorem dX9_account_104 : decode cX9_account 104 = .ok (.invokevirtual 369, 3) := by decide +kernel
theorem dX9_account_107 : decode cX9_account 107 = .ok (.ireturn, 1) := by decide +kernel
theorem dX9_account_108 : decode cX9_account 108 = .ok (.aload_n 0, 1) := by decide +kernel
theorem dX9_account_109 : decode cX9_account 109 = .ok (.getfield 10, 3) := by decide +kernel
theorem dX9_account_112 : decode cX9_account 112 = .ok (.getfield 42, 3) := by decide +kernel
theorem dX9_account_115 : decode cX9_account 115 = .ok (.invokevirtual 372, 3) := by decide +kernel
theorem dX9_account_118 : decode cX9_account 118 = .ok (.ireturn, 1) := by decide +kernel
theorem dX9_account_119 : decode cX9_account 119 = .ok (.aload_n 0, 1) := by decide +kernel
theorem dX9_account_120 : decode cX9_account 120 = .ok (.getfield 10, 3) := by decide +kernel
theorem dX9_account_123 : decode cX9_account 123 = .ok (.getfield 379, 3) := by decide +kernel
theorem dX9_account_126 : decode cX9_account 126 = .ok (.ireturn, 1) := by decide +kernel
theorem dX9_account_127 : decode cX9_account 127 = .ok (.aload_n 0, 1) := by decide +kernel
theorem dX9_account_128 : decode cX9_account 128 = .ok (.getfield 10, 3) := by decide +kernel
theorem dX9_account_131 : decode cX9_account 131 = .ok (.getfield 382, 3) := by decide +kernel
theorem dX9_account_134 : decode cX9_account 134 = .ok (.ireturn, 1) := by decide +kernel
theorem dX9_account_135 : decode cX9_account 135 = .ok (.aload_n 0, 1) := by decide +kernel
theorem dX9_account_136 : decode cX9_account 136 = .ok (.getfield 10, 3) := by decide +kernel
theorem dX9_account_139 : decode cX9_account 139 = .ok (.getfield 385, 3) := by decide +kernel
theorem dX9_account_142 : decode cX9_account 142 = .ok (.ireturn, 1) := by decide +kernel
theorem dX9_account_143 : decode cX9_account 143 = .ok (.aload_n 0, 1) := by decide +kernel
theorem dX9_account_144 : decode cX9_account 144 = .ok (.getfield 10, 3) := by decide +kernel
theorem dX9_account_147 : decode cX9_account 147 = .ok (.invokevirtual 388, 3) := by decide +kernel
theorem dX9_account_150 : decode cX9_account 150 = .ok (.ireturn, 1) := by decide +kernel
theorem dX9_account_151 : decode cX9_account 151 = .ok (.aload_n 0, 1) := by decide +kernel
theorem dX9_account_152 : decode cX9_account 152 = .ok (.getfield 29, 3) := by decide +kernel
theorem dX9_account_155 : decode cX9_account 155 = .ok (.getfield 391, 3) := by decide +kernel
theorem dX9_account_158 : decode cX9_account 158 = .ok (.ireturn, 1) := by decide +kernel
theorem dX9_account_159 : decode cX9_account 159 = .ok (.aload_n 0, 1) := by decide +kernel
theorem dX9_account_160 : decode cX9_account 160 = .ok (.getfield 65, 3) := by decide +kernel
theorem dX9_account_163 : decode cX9_account 163 = .ok (.getfield 277, 3) := by decide +kernel
theorem dX9_account_166 : decode cX9_account 166 = .ok (.ireturn, 1) := by decide +kernel
theorem dX9_account_167 : decode cX9_account 167 = .ok (.new 212, 3) := by decide +kernel
theorem dX9_account_170 : decode cX9_account 170 = .ok (.dup, 1) := by decide +kernel
theorem dX9_account_171 : decode cX9_account 171 = .ok (.ldc_w 392, 3) := by decide +kernel
theorem dX9_account_174 : decode cX9_account 174 = .ok (.invokespecial 216, 3) := by decide +kernel
theorem dX9_account_177 : decode cX9_account 177 = .ok (.athrow, 1) := by decide +kernel
theorem dX9_undo_0 : decode cX9_undo 0 = .ok (.aload_n 0, 1) := by decide +kernel
theorem dX9_undo_1 : decode cX9_undo 1 = .ok (.getfield 29, 3) := by decide +kernel
theorem dX9_undo_4 : decode cX9_undo 4 = .ok (.getfield 391, 3) := by decide +kernel
theorem dX9_undo_7 : decode cX9_undo 7 = .ok (.ifCond .ne 14, 3) := by decide +kernel
theorem dX9_undo_10 : decode cX9_undo 10 = .ok (.new 280, 3) := by decide +kernel
theorem dX9_undo_13 : decode cX9_undo 13 = .ok (.dup, 1) := by decide +kernel
theorem dX9_undo_14 : decode cX9_undo 14 = .ok (.ldc_w 394, 3) := by decide +kernel
theorem dX9_undo_17 : decode cX9_undo 17 = .ok (.invokespecial 284, 3) := by decide +kernel
theorem dX9_undo_20 : decode cX9_undo 20 = .ok (.athrow, 1) := by decide +kernel
theorem dX9_undo_21 : decode cX9_undo 21 = .ok (.aload_n 0, 1) := by decide +kernel
theorem dX9_undo_22 : decode cX9_undo 22 = .ok (.getfield 29, 3) := by decide +kernel
theorem dX9_undo_25 : decode cX9_undo 25 = .ok (.aload_n 0, 1) := by decide +kernel
theorem dX9_undo_26 : decode cX9_undo 26 = .ok (.getfield 10, 3) := by decide +kernel
theorem dX9_undo_29 : decode cX9_undo 29 = .ok (.invokevirtual 396, 3) := by decide +kernel
theorem dX9_undo_32 : decode cX9_undo 32 = .ok (.aload_n 0, 1) := by decide +kernel
theorem dX9_undo_33 : decode cX9_undo 33 = .ok (.getfield 29, 3) := by decide +kernel
theorem dX9_undo_36 : decode cX9_undo 36 = .ok (.getfield 391, 3) := by decide +kernel
theorem dX9_undo_39 : decode cX9_undo 39 = .ok (.ireturn, 1) := by decide +kernel
theorem dX9_save_0 : decode cX9_save 0 = .ok (.aload_n 0, 1) := by decide +kernel
theorem dX9_save_1 : decode cX9_save 1 = .ok (.getfield 19, 3) := by decide +kernel
theorem dX9_save_4 : decode cX9_save 4 = .ok (.aload_n 0, 1) := by decide +kernel
theorem dX9_save_5 : decode cX9_save 5 = .ok (.getfield 10, 3) := by decide +kernel
theorem dX9_save_8 : decode cX9_save 8 = .ok (.invokevirtual 76, 3) := by decide +kernel
theorem dX9_save_11 : decode cX9_save 11 = .ok (.aload_n 0, 1) := by decide +kernel
theorem dX9_save_12 : decode cX9_save 12 = .ok (.iconst 1, 1) := by decide +kernel
theorem dX9_save_13 : decode cX9_save 13 = .ok (.putfield 22, 3) := by decide +kernel
theorem dX9_save_16 : decode cX9_save 16 = .ok (.aload_n 0, 1) := by decide +kernel
theorem dX9_save_17 : decode cX9_save 17 = .ok (.getfield 10, 3) := by decide +kernel
theorem dX9_save_20 : decode cX9_save 20 = .ok (.getfield 263, 3) := by decide +kernel
theorem dX9_save_23 : decode cX9_save 23 = .ok (.ireturn, 1) := by decide +kernel
theorem dX9_restore_0 : decode cX9_restore 0 = .ok (.aload_n 0, 1) := by decide +kernel
theorem dX9_restore_1 : decode cX9_restore 1 = .ok (.getfield 22, 3) := by decide +kernel
theorem dX9_restore_4 : decode cX9_restore 4 = .ok (.ifCond .ne 14, 3) := by decide +kernel
theorem dX9_restore_7 : decode cX9_restore 7 = .ok (.new 280, 3) := by decide +kernel
theorem dX9_restore_10 : decode cX9_restore 10 = .ok (.dup, 1) := by decide +kernel
theorem dX9_restore_11 : decode cX9_restore 11 = .ok (.ldc_w 399, 3) := by decide +kernel
theorem dX9_restore_14 : decode cX9_restore 14 = .ok (.invokespecial 284, 3) := by decide +kernel
theorem dX9_restore_17 : decode cX9_restore 17 = .ok (.athrow, 1) := by decide +kernel
theorem dX9_restore_18 : decode cX9_restore 18 = .ok (.aload_n 0, 1) := by decide +kernel
theorem dX9_restore_19 : decode cX9_restore 19 = .ok (.getfield 10, 3) := by decide +kernel
theorem dX9_restore_22 : decode cX9_restore 22 = .ok (.aload_n 0, 1) := by decide +kernel
theorem dX9_restore_23 : decode cX9_restore 23 = .ok (.getfield 19, 3) := by decide +kernel
theorem dX9_restore_26 : decode cX9_restore 26 = .ok (.invokevirtual 76, 3) := by decide +kernel
theorem dX9_restore_29 : decode cX9_restore 29 = .ok (.aload_n 0, 1) := by decide +kernel
theorem dX9_restore_30 : decode cX9_restore 30 = .ok (.getfield 29, 3) := by decide +kernel
theorem dX9_restore_33 : decode cX9_restore 33 = .ok (.invokevirtual 401, 3) := by decide +kernel
theorem dX9_restore_36 : decode cX9_restore 36 = .ok (.aload_n 0, 1) := by decide +kernel
theorem dX9_restore_37 : decode cX9_restore 37 = .ok (.getfield 10, 3) := by decide +kernel
theorem dX9_restore_40 : decode cX9_restore 40 = .ok (.getfield 263, 3) := by decide +kernel
theorem dX9_restore_43 : decode cX9_restore 43 = .ok (.ireturn, 1) := by decide +kernel
theorem dX10_init_0 : decode cX10_init 0 = .ok (.aload_n 0, 1) := by decide +kernel
theorem dX10_init_1 : decode cX10_init 1 = .ok (.invokespecial 1, 3) := by decide +kernel
theorem dX10_init_4 : decode cX10_init 4 = .ok (.aload_n 0, 1) := by decide +kernel
theorem dX10_init_5 : decode cX10_init 5 = .ok (.bipush 86, 2) := by decide +kernel
theorem dX10_init_7 : decode cX10_init 7 = .ok (.newarray .int, 2) := by decide +kernel
theorem dX10_init_9 : decode cX10_init 9 = .ok (.putfield 9, 3) := by decide +kernel
theorem dX10_init_12 : decode cX10_init 12 = .ok (.aload_n 0, 1) := by decide +kernel
theorem dX10_init_13 : decode cX10_init 13 = .ok (.bipush 86, 2) := by decide +kernel
theorem dX10_init_15 : decode cX10_init 15 = .ok (.newarray .int, 2) := by decide +kernel
theorem dX10_init_17 : decode cX10_init 17 = .ok (.putfield 13, 3) := by decide +kernel
theorem dX10_init_20 : decode cX10_init 20 = .ok (.aload_n 0, 1) := by decide +kernel
theorem dX10_init_21 : decode cX10_init 21 = .ok (.bipush 86, 2) := by decide +kernel
theorem dX10_init_23 : decode cX10_init 23 = .ok (.newarray .int, 2) := by decide +kernel
theorem dX10_init_25 : decode cX10_init 25 = .ok (.putfield 16, 3) := by decide +kernel
theorem dX10_init_28 : decode cX10_init 28 = .ok (.aload_n 0, 1) := by decide +kernel
theorem dX10_init_29 : decode cX10_init 29 = .ok (.sipush 688, 3) := by decide +kernel
theorem dX10_init_32 : decode cX10_init 32 = .ok (.newarray .int, 2) := by decide +kernel
theorem dX10_init_34 : decode cX10_init 34 = .ok (.putfield 19, 3) := by decide +kernel
theorem dX10_init_37 : decode cX10_init 37 = .ok (.aload_n 0, 1) := by decide +kernel
theorem dX10_init_38 : decode cX10_init 38 = .ok (.iconst (-1), 1) := by decide +kernel
theorem dX10_init_39 : decode cX10_init 39 = .ok (.putfield 22, 3) := by decide +kernel
theorem dX10_init_42 : decode cX10_init 42 = .ok (.aload_n 0, 1) := by decide +kernel
theorem dX10_init_43 : decode cX10_init 43 = .ok (.bipush 60, 2) := by decide +kernel
theorem dX10_init_45 : decode cX10_init 45 = .ok (.newarray .int, 2) := by decide +kernel
theorem dX10_init_47 : decode cX10_init 47 = .ok (.putfield 26, 3) := by decide +kernel
theorem dX10_init_50 : decode cX10_init 50 = .ok (.aload_n 0, 1) := by decide +kernel
theorem dX10_init_51 : decode cX10_init 51 = .ok (.bipush 16, 2) := by decide +kernel
theorem dX10_init_53 : decode cX10_init 53 = .ok (.newarray .int, 2) := by decide +kernel
theorem dX10_init_55 : decode cX10_init 55 = .ok (.putfield 29, 3) := by decide +kernel
theorem dX10_init_58 : decode cX10_init 58 = .ok (.aload_n 0, 1) := by decide +kernel
theorem dX10_init_59 : decode cX10_init 59 = .ok (.sipush 244, 3) := by decide +kernel
theorem dX10_init_62 : decode cX10_init 62 = .ok (.newarray .int, 2) := by decide +kernel
theorem dX10_init_64 : decode cX10_init 64 = .ok (.putfield 32, 3) := by decide +kernel
theorem dX10_init_67 : decode cX10_init 67 = .ok (.aload_n 0, 1) := by decide +kernel
theorem dX10_init_68 : decode cX10_init 68 = .ok (.bipush 30, 2) := by decide +kernel
theorem dX10_init_70 : decode cX10_init 70 = .ok (.newarray .int, 2) := by decide +kernel
theorem dX10_init_72 : decode cX10_init 72 = .ok (.putfield 35, 3) := by decide +kernel
theorem dX10_init_75 : decode cX10_init 75 = .ok (.aload_n 0, 1) := by decide +kernel
theorem dX10_init_76 : decode cX10_init 76 = .ok (.getfield 9, 3) := by decide +kernel
theorem dX10_init_79 : decode cX10_init 79 = .ok (.iconst 2, 1) := by decide +kernel
theorem dX10_init_80 : decode cX10_init 80 = .ok (.iconst (-1), 1) := by decide +kernel
theorem dX10_init_81 : decode cX10_init 81 = .ok (.iastore, 1) := by decide +kernel
theorem dX10_init_82 : decode cX10_init 82 = .ok (.return_, 1) := by decide +kernel
theorem dX10_thrown_0 : decode cX10_thrown 0 = .ok (.aload_n 0, 1) := by decide +kernel
theorem dX10_thrown_1 : decode cX10_thrown 1 = .ok (.getfield 38, 3) := by decide +kernel
theorem dX10_thrown_4 : decode cX10_thrown 4 = .ok (.ireturn, 1) := by decide +kernel
theorem dX10_throwing_0 : decode cX10_throwing 0 = .ok (.aload_n 0, 1) := by decide +kernel
theorem dX10_throwing_1 : decode cX10_throwing 1 = .ok (.iload_n 1, 1) := by decide +kernel
theorem dX10_throwing_2 : decode cX10_throwing 2 = .ok (.putfield 38, 3) := by decide +kernel
theorem dX10_throwing_5 : decode cX10_throwing 5 = .ok (.iconst (-1), 1) := by decide +kernel
theorem dX10_throwing_6 : decode cX10_throwing 6 = .ok (.ireturn, 1) := by decide +kernel
theorem dX10_in_0 : decode cX10_in 0 = .ok (.lload_n 0, 1) := by decide +kernel
theorem dX10_in_1 : decode cX10_in 1 = .ok (.lload_n 2, 1) := by decide +kernel
theorem dX10_in_2 : decode cX10_in 2 = .ok (.lcmp, 1) := by decide +kernel
theorem dX10_in_3 : decode cX10_in 3 = .ok (.ifCond .lt 14, 3) := by decide +kernel
theorem dX10_in_6 : decode cX10_in 6 = .ok (.lload_n 0, 1) := by decide +kernel
theorem dX10_in_7 : decode cX10_in 7 = .ok (.lload 4, 2) := by decide +kernel
theorem dX10_in_9 : decode cX10_in 9 = .ok (.lcmp, 1) := by decide +kernel
theorem dX10_in_10 : decode cX10_in 10 = .ok (.ifCond .gt 7, 3) := by decide +kernel
theorem dX10_in_13 : decode cX10_in 13 = .ok (.iconst 1, 1) := by decide +kernel
theorem dX10_in_14 : decode cX10_in 14 = .ok (.goto 4, 3) := by decide +kernel
theorem dX10_in_17 : decode cX10_in 17 = .ok (.iconst 0, 1) := by decide +kernel
theorem dX10_in_18 : decode cX10_in 18 = .ok (.ireturn, 1) := by decide +kernel
theorem dX10_refuse_0 : decode cX10_refuse 0 = .ok (.aload_n 0, 1) := by decide +kernel
theorem dX10_refuse_1 : decode cX10_refuse 1 = .ok (.iload_n 1, 1) := by decide +kernel
theorem dX10_refuse_2 : decode cX10_refuse 2 = .ok (.putfield 41, 3) := by decide +kernel
theorem dX10_refuse_5 : decode cX10_refuse 5 = .ok (.aload_n 0, 1) := by decide +kernel
theorem dX10_refuse_6 : decode cX10_refuse 6 = .ok (.iload_n 2, 1) := by decide +kernel
theorem dX10_refuse_7 : decode cX10_refuse 7 = .ok (.putfield 44, 3) := by decide +kernel
theorem dX10_refuse_10 : decode cX10_refuse 10 = .ok (.aload_n 0, 1) := by decide +kernel
theorem dX10_refuse_11 : decode cX10_refuse 11 = .ok (.iconst 0, 1) := by decide +kernel
theorem dX10_refuse_12 : decode cX10_refuse 12 = .ok (.putfield 47, 3) := by decide +kernel
theorem dX10_refuse_15 : decode cX10_refuse 15 = .ok (.aload_n 0, 1) := by decide +kernel
theorem dX10_refuse_16 : decode cX10_refuse 16 = .ok (.iconst 1, 1) := by decide +kernel
theorem dX10_refuse_17 : decode cX10_refuse 17 = .ok (.invokevirtual 50, 3) := by decide +kernel
theorem dX10_refuse_20 : decode cX10_refuse 20 = .ok (.ireturn, 1) := by decide +kernel
theorem dX10_starts_0 : decode cX10_starts 0 = .ok (.aload_n 0, 1) := by decide +kernel
theorem dX10_starts_1 : decode cX10_starts 1 = .ok (.iconst 0, 1) := by decide +kernel
theorem dX10_starts_2 : decode cX10_starts 2 = .ok (.putfield 38, 3) := by decide +kernel
theorem dX10_starts_5 : decode cX10_starts 5 = .ok (.iconst 0, 1) := by decide +kernel
theorem dX10_starts_6 : decode cX10_starts 6 = .ok (.istore_n 1, 1) := by decide +kernel
theorem dX10_starts_7 : decode cX10_starts 7 = .ok (.iload_n 1, 1) := by decide +kernel
theorem dX10_starts_8 : decode cX10_starts 8 = .ok (.bipush 86, 2) := by decide +kernel
theorem dX10_starts_10 : decode cX10_starts 10 = .ok (.if_icmp .ge 21, 3) := by decide +kernel
theorem dX10_starts_13 : decode cX10_starts 13 = .ok (.aload_n 0, 1) := by decide +kernel
theorem dX10_starts_14 : decode cX10_starts 14 = .ok (.getfield 13, 3) := by decide +kernel
theorem dX10_starts_17 : decode cX10_starts 17 = .ok (.iload_n 1, 1) := by decide +kernel
theorem dX10_starts_18 : decode cX10_starts 18 = .ok (.aload_n 0, 1) := by decide +kernel
theorem dX10_starts_19 : decode cX10_starts 19 = .ok (.getfield 9, 3) := by decide +kernel
theorem dX10_starts_22 : decode cX10_starts 22 = .ok (.iload_n 1, 1) := by decide +kernel
theorem dX10_starts_23 : decode cX10_starts 23 = .ok (.iaload, 1) := by decide +kernel
theorem dX10_starts_24 : decode cX10_starts 24 = .ok (.iastore, 1) := by decide +kernel
theorem dX10_starts_25 : decode cX10_starts 25 = .ok (.iinc 1 1, 3) := by decide +kernel
theorem dX10_starts_28 : decode cX10_starts 28 = .ok (.goto (-21), 3) := by decide +kernel
theorem dX10_starts_31 : decode cX10_starts 31 = .ok (.return_, 1) := by decide +kernel
theorem dX10_changed_0 : decode cX10_changed 0 = .ok (.aload_n 0, 1) := by decide +kernel
theorem dX10_changed_1 : decode cX10_changed 1 = .ok (.getfield 38, 3) := by decide +kernel
theorem dX10_changed_4 : decode cX10_changed 4 = .ok (.ifCond .le 5, 3) := by decide +kernel
theorem dX10_changed_7 : decode cX10_changed 7 = .ok (.iload_n 1, 1) := by decide +kernel
theorem dX10_changed_8 : decode cX10_changed 8 = .ok (.ireturn, 1) := by decide +kernel
theorem dX10_changed_9 : decode cX10_changed 9 = .ok (.aload_n 0, 1) := by decide +kernel
theorem dX10_changed_10 : decode cX10_changed 10 = .ok (.getfield 54, 3) := by decide +kernel
theorem dX10_changed_13 : decode cX10_changed 13 = .ok (.bipush 8, 2) := by decide +kernel
theorem dX10_changed_15 : decode cX10_changed 15 = .ok (.if_icmp .ne 43, 3) := by decide +kernel
theorem dX10_changed_18 : decode cX10_changed 18 = .ok (.iconst 0, 1) := by decide +kernel
theorem dX10_changed_19 : decode cX10_changed 19 = .ok (.istore_n 2, 1) := by decide +kernel
theorem dX10_changed_20 : decode cX10_changed 20 = .ok (.iload_n 2, 1) := by decide +kernel
theorem dX10_changed_21 : decode cX10_changed 21 = .ok (.sipush 602, 3) := by decide +kernel
theorem dX10_changed_24 : decode cX10_changed 24 = .ok (.if_icmp .ge 24, 3) := by decide +kernel
theorem dX10_changed_27 : decode cX10_changed 27 = .ok (.aload_n 0, 1) := by decide +kernel
theorem dX10_changed_28 : decode cX10_changed 28 = .ok (.getfield 19, 3) := by decide +kernel
theorem dX10_changed_31 : decode cX10_changed 31 = .ok (.iload_n 2, 1) := by decide +kernel
theorem dX10_changed_32 : decode cX10_changed 32 = .ok (.aload_n 0, 1) := by decide +kernel
theorem dX10_changed_33 : decode cX10_changed 33 = .ok (.getfield 19, 3) := by decide +kernel
theorem dX10_changed_36 : decode cX10_changed 36 = .ok (.iload_n 2, 1) := by decide +kernel
theorem dX10_changed_37 : decode cX10_changed 37 = .ok (.bipush 86, 2) := by decide +kernel
theorem dX10_changed_39 : decode cX10_changed 39 = .ok (.iadd, 1) := by decide +kernel
theorem dX10_changed_40 : decode cX10_changed 40 = .ok (.iaload, 1) := by decide +kernel
theorem dX10_changed_41 : decode cX10_changed 41 = .ok (.iastore, 1) := by decide +kernel
theorem dX10_changed_42 : decode cX10_changed 42 = .ok (.iinc 2 1, 3) := by decide +kernel
theorem dX10_changed_45 : decode cX10_changed 45 = .ok (.goto (-25), 3) := by decide +kernel
theorem dX10_changed_48 : decode cX10_changed 48 = .ok (.aload_n 0, 1) := by decide +kernel
theorem dX10_changed_49 : decode cX10_changed 49 = .ok (.dup, 1) := by decide +kernel
theorem dX10_changed_50 : decode cX10_changed 50 = .ok (.getfield 54, 3) := by decide +kernel
theorem dX10_changed_53 : decode cX10_changed 53 = .ok (.iconst 1, 1) := by decide +kernel
theorem dX10_changed_54 : decode cX10_changed 54 = .ok (.isub, 1) := by decide +kernel
theorem dX10_changed_55 : decode cX10_changed 55 = .ok (.putfield 54, 3) := by decide +kernel
theorem dX10_changed_58 : decode cX10_changed 58 = .ok (.iconst 0, 1) := by decide +kernel
theorem dX10_changed_59 : decode cX10_changed 59 = .ok (.istore_n 2, 1) := by decide +kernel
theorem dX10_changed_60 : decode cX10_changed 60 = .ok (.iload_n 2, 1) := by decide +kernel
theorem dX10_changed_61 : decode cX10_changed 61 = .ok (.bipush 86, 2) := by decide +kernel
theorem dX10_changed_63 : decode cX10_changed 63 = .ok (.if_icmp .ge 29, 3) := by decide +kernel
theorem dX10_changed_66 : decode cX10_changed 66 = .ok (.aload_n 0, 1) := by decide +kernel
theorem dX10_changed_67 : decode cX10_changed 67 = .ok (.getfield 19, 3) := by decide +kernel
theorem dX10_changed_70 : decode cX10_changed 70 = .ok (.bipush 86, 2) := by decide +kernel
theorem dX10_changed_72 : decode cX10_changed 72 = .ok (.aload_n 0, 1) := by decide +kernel
theorem dX10_changed_73 : decode cX10_changed 73 = .ok (.getfield 54, 3) := by decide +kernel
theorem dX10_changed_76 : decode cX10_changed 76 = .ok (.imul, 1) := by decide +kernel
theorem dX10_changed_77 : decode cX10_changed 77 = .ok (.iload_n 2, 1) := by decide +kernel
theorem dX10_changed_78 : decode cX10_changed 78 = .ok (.iadd, 1) := by decide +kernel
theorem dX10_changed_79 : decode cX10_changed 79 = .ok (.aload_n 0, 1) := by decide +kernel
theorem dX10_changed_80 : decode cX10_changed 80 = .ok (.getfield 13, 3) := by decide +kernel
theorem dX10_changed_83 : decode cX10_changed 83 = .ok (.iload_n 2, 1) := by decide +kernel
theorem dX10_changed_84 : decode cX10_changed 84 = .ok (.iaload, 1) := by decide +kernel
theorem dX10_changed_85 : decode cX10_changed 85 = .ok (.iastore, 1) := by decide +kernel
theorem dX10_changed_86 : decode cX10_changed 86 = .ok (.iinc 2 1, 3) := by decide +kernel
theorem dX10_changed_89 : decode cX10_changed 89 = .ok (.goto (-29), 3) := by decide +kernel
theorem dX10_changed_92 : decode cX10_changed 92 = .ok (.aload_n 0, 1) := by decide +kernel
theorem dX10_changed_93 : decode cX10_changed 93 = .ok (.dup, 1) := by decide +kernel
theorem dX10_changed_94 : decode cX10_changed 94 = .ok (.getfield 54, 3) := by decide +kernel
theorem dX10_changed_97 : decode cX10_changed 97 = .ok (.iconst 1, 1) := by decide +kernel
theorem dX10_changed_98 : decode cX10_changed 98 = .ok (.iadd, 1) := by decide +kernel
theorem dX10_changed_99 : decode cX10_changed 99 = .ok (.putfield 54, 3) := by decide +kernel
theorem dX10_changed_102 : decode cX10_changed 102 = .ok (.iload_n 1, 1) := by decide +kernel
theorem dX10_changed_103 : decode cX10_changed 103 = .ok (.ireturn, 1) := by decide +kernel
theorem dX10_isCell_0 : decode cX10_isCell 0 = .ok (.iload_n 0, 1) := by decide +kernel
theorem dX10_isCell_1 : decode cX10_isCell 1 = .ok (.i2l, 1) := by decide +kernel
theorem dX10_isCell_2 : decode cX10_isCell 2 = .ok (.lconst 0, 1) := by decide +kernel
theorem dX10_isCell_3 : decode cX10_isCell 3 = .ok (.ldc2_w 57, 3) := by decide +kernel
theorem dX10_isCell_6 : decode cX10_isCell 6 = .ok (.invokestatic 59, 3) := by decide +kernel
theorem dX10_isCell_9 : decode cX10_isCell 9 = .ok (.ireturn, 1) := by decide +kernel
theorem dX10_nextTo_0 : decode cX10_nextTo 0 = .ok (.iload_n 0, 1) := by decide +kernel
theorem dX10_nextTo_1 : decode cX10_nextTo 1 = .ok (.iconst 4, 1) := by decide +kernel
theorem dX10_nextTo_2 : decode cX10_nextTo 2 = .ok (.idiv, 1) := by decide +kernel
theorem dX10_nextTo_3 : decode cX10_nextTo 3 = .ok (.iload_n 1, 1) := by decide +kernel
theorem dX10_nextTo_4 : decode cX10_nextTo 4 = .ok (.ifCond .ne 7, 3) := by decide +kernel
theorem dX10_nextTo_7 : decode cX10_nextTo 7 = .ok (.iconst (-1), 1) := by decide +kernel
theorem dX10_nextTo_8 : decode cX10_nextTo 8 = .ok (.goto 13, 3) := by decide +kernel
theorem dX10_nextTo_11 : decode cX10_nextTo 11 = .ok (.iload_n 1, 1) := by decide +kernel
theorem dX10_nextTo_12 : decode cX10_nextTo 12 = .ok (.iconst 2, 1) := by decide +kernel
theorem dX10_nextTo_13 : decode cX10_nextTo 13 = .ok (.if_icmp .ne 7, 3) := by decide +kernel
theorem dX10_nextTo_16 : decode cX10_nextTo 16 = .ok (.iconst 1, 1) := by decide +kernel
theorem dX10_nextTo_17 : decode cX10_nextTo 17 = .ok (.goto 4, 3) := by decide +kernel
theorem dX10_nextTo_20 : decode cX10_nextTo 20 = .ok (.iconst 0, 1) := by decide +kernel
theorem dX10_nextTo_21 : decode cX10_nextTo 21 = .ok (.iadd, 1) := by decide +kernel
theorem dX10_nextTo_22 : decode cX10_nextTo 22 = .ok (.istore_n 2, 1) := by decide +kernel
theorem dX10_nextTo_23 : decode cX10_nextTo 23 = .ok (.iload_n 0, 1) := by decide +kernel
theorem dX10_nextTo_24 : decode cX10_nextTo 24 = .ok (.iconst 4, 1) := by decide +kernel
theorem dX10_nextTo_25 : decode cX10_nextTo 25 = .ok (.irem, 1) := by decide +kernel
theorem dX10_nextTo_26 : decode cX10_nextTo 26 = .ok (.iload_n 1, 1) := by decide +kernel
theorem dX10_nextTo_27 : decode cX10_nextTo 27 = .ok (.iconst 1, 1) := by decide +kernel
theorem dX10_nextTo_28 : decode cX10_nextTo 28 = .ok (.if_icmp .ne 7, 3) := by decide +kernel
theorem dX10_nextTo_31 : decode cX10_nextTo 31 = .ok (.iconst 1, 1) := by decide +kernel
theorem dX10_nextTo_32 : decode cX10_nextTo 32 = .ok (.goto 13, 3) := by decide +kernel
theorem dX10_nextTo_35 : decode cX10_nextTo 35 = .ok (.iload_n 1, 1) := by decide +kernel
theorem dX10_nextTo_36 : decode cX10_nextTo 36 = .ok (.iconst 3, 1) := by decide +kernel
theorem dX10_nextTo_37 : decode cX10_nextTo 37 = .ok (.if_icmp .ne 7, 3) := by decide +kernel
theorem dX10_nextTo_40 : decode cX10_nextTo 40 = .ok (.iconst (-1), 1) := by decide +kernel
theorem dX10_nextTo_41 : decode cX10_nextTo 41 = .ok (.goto 4, 3) := by decide +kernel
theorem dX10_nextTo_44 : decode cX10_nextTo 44 = .ok (.iconst 0, 1) := by decide +kernel
theorem dX10_nextTo_45 : decode cX10_nextTo 45 = .ok (.iadd, 1) := by decide +kernel
theorem dX10_nextTo_46 : decode cX10_nextTo 46 = .ok (.istore_n 3, 1) := by decide +kernel
theorem dX10_nextTo_47 : decode cX10_nextTo 47 = .ok (.iload_n 2, 1) := by decide +kernel
theorem dX10_nextTo_48 : decode cX10_nextTo 48 = .ok (.i2l, 1) := by decide +kernel
theorem dX10_nextTo_49 : decode cX10_nextTo 49 = .ok (.lconst 0, 1) := by decide +kernel
theorem dX10_nextTo_50 : decode cX10_nextTo 50 = .ok (.ldc2_w 63, 3) := by decide +kernel
theorem dX10_nextTo_53 : decode cX10_nextTo 53 = .ok (.invokestatic 59, 3) := by decide +kernel
theorem dX10_nextTo_56 : decode cX10_nextTo 56 = .ok (.ifCond .eq 23, 3) := by decide +kernel
theorem dX10_nextTo_59 : decode cX10_nextTo 59 = .ok (.iload_n 3, 1) := by decide +kernel
theorem dX10_nextTo_60 : decode cX10_nextTo 60 = .ok (.i2l, 1) := by decide +kernel
theorem dX10_nextTo_61 : decode cX10_nextTo 61 = .ok (.lconst 0, 1) := by decide +kernel
theorem dX10_nextTo_62 : decode cX10_nextTo 62 = .ok (.ldc2_w 63, 3) := by decide +kernel
theorem dX10_nextTo_65 : decode cX10_nextTo 65 = .ok (.invokestatic 59, 3) := by decide +kernel
theorem dX10_nextTo_68 : decode cX10_nextTo 68 = .ok (.ifCond .eq 11, 3) := by decide +kernel
theorem dX10_nextTo_71 : decode cX10_nextTo 71 = .ok (.iconst 4, 1) := by decide +kernel
theorem dX10_nextTo_72 : decode cX10_nextTo 72 = .ok (.iload_n 2, 1) := by decide +kernel
theorem dX10_nextTo_73 : decode cX10_nextTo 73 = .ok (.imul, 1) := by decide +kernel
theorem dX10_nextTo_74 : decode cX10_nextTo 74 = .ok (.iload_n 3, 1) := by decide +kernel
theorem dX10_nextTo_75 : decode cX10_nextTo 75 = .ok (.iadd, 1) := by decide +kernel
theorem dX10_nextTo_76 : decode cX10_nextTo 76 = .ok (.goto 4, 3) := by decide +kernel
theorem dX10_nextTo_79 : decode cX10_nextTo 79 = .ok (.iconst (-1), 1) := by decide +kernel
theorem dX10_nextTo_80 : decode cX10_nextTo 80 = .ok (.ireturn, 1) := by decide +kernel
theorem dX10_hedgeAt_0 : decode cX10_hedgeAt 0 = .ok (.iload_n 0, 1) := by decide +kernel
theorem dX10_hedgeAt_1 : decode cX10_hedgeAt 1 = .ok (.iload_n 1, 1) := by decide +kernel
theorem dX10_hedgeAt_2 : decode cX10_hedgeAt 2 = .ok (.invokestatic 65, 3) := by decide +kernel
theorem dX10_hedgeAt_5 : decode cX10_hedgeAt 5 = .ok (.istore_n 2, 1) := by decide +kernel
theorem dX10_hedgeAt_6 : decode cX10_hedgeAt 6 = .ok (.iload_n 0, 1) := by decide +kernel
theorem dX10_hedgeAt_7 : decode cX10_hedgeAt 7 = .ok (.iload_n 1, 1) := by decide +kernel
theorem dX10_hedgeAt_8 : decode cX10_hedgeAt 8 = .ok (.invokestatic 71, 3) := by decide +kernel
theorem dX10_hedgeAt_11 : decode cX10_hedgeAt 11 = .ok (.istore_n 3, 1) := by decide +kernel
theorem dX10_hedgeAt_12 : decode cX10_hedgeAt 12 = .ok (.iload_n 3, 1) := by decide +kernel
theorem dX10_hedgeAt_13 : decode cX10_hedgeAt 13 = .ok (.iload_n 2, 1) := by decide +kernel
theorem dX10_hedgeAt_14 : decode cX10_hedgeAt 14 = .ok (.isub, 1) := by decide +kernel
theorem dX10_hedgeAt_15 : decode cX10_hedgeAt 15 = .ok (.iconst 4, 1) := by decide +kernel
theorem dX10_hedgeAt_16 : decode cX10_hedgeAt 16 = .ok (.if_icmp .ne 8, 3) := by decide +kernel
theorem dX10_hedgeAt_19 : decode cX10_hedgeAt 19 = .ok (.bipush 18, 2) := by decide +kernel
theorem dX10_hedgeAt_21 : decode cX10_hedgeAt 21 = .ok (.iload_n 2, 1) := by decide +kernel
theorem dX10_hedgeAt_22 : decode cX10_hedgeAt 22 = .ok (.iadd, 1) := by decide +kernel
theorem dX10_hedgeAt_23 : decode cX10_hedgeAt 23 = .ok (.ireturn, 1) := by decide +kernel
theorem dX10_hedgeAt_24 : decode cX10_hedgeAt 24 = .ok (.iload_n 3, 1) := by decide +kernel
theorem dX10_hedgeAt_25 : decode cX10_hedgeAt 25 = .ok (.iload_n 2, 1) := by decide +kernel
theorem dX10_hedgeAt_26 : decode cX10_hedgeAt 26 = .ok (.isub, 1) := by decide +kernel
theorem dX10_hedgeAt_27 : decode cX10_hedgeAt 27 = .ok (.iconst 1, 1) := by decide +kernel
theorem dX10_hedgeAt_28 : decode cX10_hedgeAt 28 = .ok (.if_icmp .ne 25, 3) := by decide +kernel
theorem dX10_hedgeAt_31 : decode cX10_hedgeAt 31 = .ok (.iload_n 2, 1) := by decide +kernel
theorem dX10_hedgeAt_32 : decode cX10_hedgeAt 32 = .ok (.iconst 4, 1) := by decide +kernel
theorem dX10_hedgeAt_33 : decode cX10_hedgeAt 33 = .ok (.irem, 1) := by decide +kernel
theorem dX10_hedgeAt_34 : decode cX10_hedgeAt 34 = .ok (.iconst 3, 1) := by decide +kernel
theorem dX10_hedgeAt_35 : decode cX10_hedgeAt 35 = .ok (.if_icmp .ge 18, 3) := by decide +kernel
theorem dX10_hedgeAt_38 : decode cX10_hedgeAt 38 = .ok (.bipush 6, 2) := by decide +kernel
theorem dX10_hedgeAt_40 : decode cX10_hedgeAt 40 = .ok (.iconst 3, 1) := by decide +kernel
theorem dX10_hedgeAt_41 : decode cX10_hedgeAt 41 = .ok (.iload_n 2, 1) := by decide +kernel
theorem dX10_hedgeAt_42 : decode cX10_hedgeAt 42 = .ok (.iconst 4, 1) := by decide +kernel
theorem dX10_hedgeAt_43 : decode cX10_hedgeAt 43 = .ok (.idiv, 1) := by decide +kernel
theorem dX10_hedgeAt_44 : decode cX10_hedgeAt 44 = .ok (.imul, 1) := by decide +kernel
theorem dX10_hedgeAt_45 : decode cX10_hedgeAt 45 = .ok (.iadd, 1) := by decide +kernel
theorem dX10_hedgeAt_46 : decode cX10_hedgeAt 46 = .ok (.iload_n 2, 1) := by decide +kernel
theorem dX10_hedgeAt_47 : decode cX10_hedgeAt 47 = .ok (.iconst 4, 1) := by decide +kernel
theorem dX10_hedgeAt_48 : decode cX10_hedgeAt 48 = .ok (.irem, 1) := by decide +kernel
theorem dX10_hedgeAt_49 : decode cX10_hedgeAt 49 = .ok (.iadd, 1) := by decide +kernel
theorem dX10_hedgeAt_50 : decode cX10_hedgeAt 50 = .ok (.goto 4, 3) := by decide +kernel
theorem dX10_hedgeAt_53 : decode cX10_hedgeAt 53 = .ok (.iconst (-1), 1) := by decide +kernel
theorem dX10_hedgeAt_54 : decode cX10_hedgeAt 54 = .ok (.ireturn, 1) := by decide +kernel
theorem dX10_isGapAt_0 : decode cX10_isGapAt 0 = .ok (.iload_n 1, 1) := by decide +kernel
theorem dX10_isGapAt_1 : decode cX10_isGapAt 1 = .ok (.iconst (-1), 1) := by decide +kernel
theorem dX10_isGapAt_2 : decode cX10_isGapAt 2 = .ok (.if_icmp .eq 17, 3) := by decide +kernel
theorem dX10_isGapAt_5 : decode cX10_isGapAt 5 = .ok (.aload_n 0, 1) := by decide +kernel
theorem dX10_isGapAt_6 : decode cX10_isGapAt 6 = .ok (.getfield 9, 3) := by decide +kernel
theorem dX10_isGapAt_9 : decode cX10_isGapAt 9 = .ok (.iload_n 1, 1) := by decide +kernel
theorem dX10_isGapAt_10 : decode cX10_isGapAt 10 = .ok (.iaload, 1) := by decide +kernel
theorem dX10_isGapAt_11 : decode cX10_isGapAt 11 = .ok (.iconst 5, 1) := by decide +kernel
theorem dX10_isGapAt_12 : decode cX10_isGapAt 12 = .ok (.if_icmp .ge 7, 3) := by decide +kernel
theorem dX10_isGapAt_15 : decode cX10_isGapAt 15 = .ok (.iconst 1, 1) := by decide +kernel
theorem dX10_isGapAt_16 : decode cX10_isGapAt 16 = .ok (.goto 4, 3) := by decide +kernel
theorem dX10_isGapAt_19 : decode cX10_isGapAt 19 = .ok (.iconst 0, 1) := by decide +kernel
theorem dX10_isGapAt_20 : decode cX10_isGapAt 20 = .ok (.ireturn, 1) := by decide +kernel
theorem dX10_gardenerAt_0 : decode cX10_gardenerAt 0 = .ok (.bipush 30, 2) := by decide +kernel
theorem dX10_gardenerAt_2 : decode cX10_gardenerAt 2 = .ok (.iconst 4, 1) := by decide +kernel
theorem dX10_gardenerAt_3 : decode cX10_gardenerAt 3 = .ok (.iload_n 0, 1) := by decide +kernel
theorem dX10_gardenerAt_4 : decode cX10_gardenerAt 4 = .ok (.imul, 1) := by decide +kernel
theorem dX10_gardenerAt_5 : decode cX10_gardenerAt 5 = .ok (.iadd, 1) := by decide +kernel
theorem dX10_gardenerAt_6 : decode cX10_gardenerAt 6 = .ok (.ireturn, 1) := by decide +kernel
theorem dX10_visitorAt_0 : decode cX10_visitorAt 0 = .ok (.bipush 46, 2) := by decide +kernel
theorem dX10_visitorAt_2 : decode cX10_visitorAt 2 = .ok (.bipush 8, 2) := by decide +kernel
theorem dX10_visitorAt_4 : decode cX10_visitorAt 4 = .ok (.iload_n 0, 1) := by decide +kernel
theorem dX10_visitorAt_5 : decode cX10_visitorAt 5 = .ok (.imul, 1) := by decide +kernel
theorem dX10_visitorAt_6 : decode cX10_visitorAt 6 = .ok (.iadd, 1) := by decide +kernel
theorem dX10_visitorAt_7 : decode cX10_visitorAt 7 = .ok (.ireturn, 1) := by decide +kernel
theorem dX10_isGardener_0 : decode cX10_isGardener 0 = .ok (.iload_n 1, 1) := by decide +kernel
theorem dX10_isGardener_1 : decode cX10_isGardener 1 = .ok (.i2l, 1) := by decide +kernel
theorem dX10_isGardener_2 : decode cX10_isGardener 2 = .ok (.lconst 0, 1) := by decide +kernel
theorem dX10_isGardener_3 : decode cX10_isGardener 3 = .ok (.aload_n 0, 1) := by decide +kernel
theorem dX10_isGardener_4 : decode cX10_isGardener 4 = .ok (.getfield 9, 3) := by decide +kernel
theorem dX10_isGardener_7 : decode cX10_isGardener 7 = .ok (.iconst 0, 1) := by decide +kernel
theorem dX10_isGardener_8 : decode cX10_isGardener 8 = .ok (.iaload, 1) := by decide +kernel
theorem dX10_isGardener_9 : decode cX10_isGardener 9 = .ok (.iconst 1, 1) := by decide +kernel
theorem dX10_isGardener_10 : decode cX10_isGardener 10 = .ok (.isub, 1) := by decide +kernel
theorem dX10_isGardener_11 : decode cX10_isGardener 11 = .ok (.i2l, 1) := by decide +kernel
theorem dX10_isGardener_12 : decode cX10_isGardener 12 = .ok (.invokestatic 59, 3) := by decide +kernel
theorem dX10_isGardener_15 : decode cX10_isGardener 15 = .ok (.ireturn, 1) := by decide +kernel
theorem dX10_isVisitor_0 : decode cX10_isVisitor 0 = .ok (.iload_n 1, 1) := by decide +kernel
theorem dX10_isVisitor_1 : decode cX10_isVisitor 1 = .ok (.i2l, 1) := by decide +kernel
theorem dX10_isVisitor_2 : decode cX10_isVisitor 2 = .ok (.lconst 0, 1) := by decide +kernel
theorem dX10_isVisitor_3 : decode cX10_isVisitor 3 = .ok (.aload_n 0, 1) := by decide +kernel
theorem dX10_isVisitor_4 : decode cX10_isVisitor 4 = .ok (.getfield 9, 3) := by decide +kernel
theorem dX10_isVisitor_7 : decode cX10_isVisitor 7 = .ok (.iconst 1, 1) := by decide +kernel
theorem dX10_isVisitor_8 : decode cX10_isVisitor 8 = .ok (.iaload, 1) := by decide +kernel
theorem dX10_isVisitor_9 : decode cX10_isVisitor 9 = .ok (.iconst 1, 1) := by decide +kernel
theorem dX10_isVisitor_10 : decode cX10_isVisitor 10 = .ok (.isub, 1) := by decide +kernel
theorem dX10_isVisitor_11 : decode cX10_isVisitor 11 = .ok (.i2l, 1) := by decide +kernel
theorem dX10_isVisitor_12 : decode cX10_isVisitor 12 = .ok (.invokestatic 59, 3) := by decide +kernel
theorem dX10_isVisitor_15 : decode cX10_isVisitor 15 = .ok (.ireturn, 1) := by decide +kernel
theorem dX10_laysWays_0 : decode cX10_laysWays 0 = .ok (.iconst 0, 1) := by decide +kernel
theorem dX10_laysWays_1 : decode cX10_laysWays 1 = .ok (.istore_n 3, 1) := by decide +kernel
theorem dX10_laysWays_2 : decode cX10_laysWays 2 = .ok (.iload_n 3, 1) := by decide +kernel
theorem dX10_laysWays_3 : decode cX10_laysWays 3 = .ok (.bipush 16, 2) := by decide +kernel
theorem dX10_laysWays_5 : decode cX10_laysWays 5 = .ok (.if_icmp .ge 26, 3) := by decide +kernel
theorem dX10_laysWays_8 : decode cX10_laysWays 8 = .ok (.aload_n 0, 1) := by decide +kernel
theorem dX10_laysWays_9 : decode cX10_laysWays 9 = .ok (.getfield 29, 3) := by decide +kernel
theorem dX10_laysWays_12 : decode cX10_laysWays 12 = .ok (.iload_n 3, 1) := by decide +kernel
theorem dX10_laysWays_13 : decode cX10_laysWays 13 = .ok (.iload_n 3, 1) := by decide +kernel
theorem dX10_laysWays_14 : decode cX10_laysWays 14 = .ok (.iload_n 1, 1) := by decide +kernel
theorem dX10_laysWays_15 : decode cX10_laysWays 15 = .ok (.if_icmp .ne 7, 3) := by decide +kernel
theorem dX10_laysWays_18 : decode cX10_laysWays 18 = .ok (.iconst 0, 1) := by decide +kernel
theorem dX10_laysWays_19 : decode cX10_laysWays 19 = .ok (.goto 5, 3) := by decide +kernel
theorem dX10_laysWays_22 : decode cX10_laysWays 22 = .ok (.bipush 99, 2) := by decide +kernel
theorem dX10_laysWays_24 : decode cX10_laysWays 24 = .ok (.iastore, 1) := by decide +kernel
theorem dX10_laysWays_25 : decode cX10_laysWays 25 = .ok (.iinc 3 1, 3) := by decide +kernel
theorem dX10_laysWays_28 : decode cX10_laysWays 28 = .ok (.goto (-26), 3) := by decide +kernel
theorem dX10_laysWays_31 : decode cX10_laysWays 31 = .ok (.iconst 0, 1) := by decide +kernel
theorem dX10_laysWays_32 : decode cX10_laysWays 32 = .ok (.istore_n 3, 1) := by decide +kernel
theorem dX10_laysWays_33 : decode cX10_laysWays 33 = .ok (.iload_n 3, 1) := by decide +kernel
theorem dX10_laysWays_34 : decode cX10_laysWays 34 = .ok (.bipush 16, 2) := by decide +kernel
theorem dX10_laysWays_36 : decode cX10_laysWays 36 = .ok (.if_icmp .ge 139, 3) := by decide +kernel
theorem dX10_laysWays_39 : decode cX10_laysWays 39 = .ok (.iconst 0, 1) := by decide +kernel
theorem dX10_laysWays_40 : decode cX10_laysWays 40 = .ok (.istore 4, 2) := by decide +kernel
theorem dX10_laysWays_42 : decode cX10_laysWays 42 = .ok (.iload 4, 2) := by decide +kernel
theorem dX10_laysWays_44 : decode cX10_laysWays 44 = .ok (.bipush 16, 2) := by decide +kernel
theorem dX10_laysWays_46 : decode cX10_laysWays 46 = .ok (.if_icmp .ge 123, 3) := by decide +kernel
theorem dX10_laysWays_49 : decode cX10_laysWays 49 = .ok (.iconst 0, 1) := by decide +kernel
theorem dX10_laysWays_50 : decode cX10_laysWays 50 = .ok (.istore 5, 2) := by decide +kernel
theorem dX10_laysWays_52 : decode cX10_laysWays 52 = .ok (.iload 5, 2) := by decide +kernel
theorem dX10_laysWays_54 : decode cX10_laysWays 54 = .ok (.iconst 4, 1) := by decide +kernel
theorem dX10_laysWays_55 : decode cX10_laysWays 55 = .ok (.if_icmp .ge 108, 3) := by decide +kernel
theorem dX10_laysWays_58 : decode cX10_laysWays 58 = .ok (.iload 4, 2) := by decide +kernel
theorem dX10_laysWays_60 : decode cX10_laysWays 60 = .ok (.iload 5, 2) := by decide +kernel
theorem dX10_laysWays_62 : decode cX10_laysWays 62 = .ok (.invokestatic 74, 3) := by decide +kernel
theorem dX10_laysWays_65 : decode cX10_laysWays 65 = .ok (.istore 6, 2) := by decide +kernel
theorem dX10_laysWays_67 : decode cX10_laysWays 67 = .ok (.iload 6, 2) := by decide +kernel
theorem dX10_laysWays_69 : decode cX10_laysWays 69 = .ok (.iconst (-1), 1) := by decide +kernel
theorem dX10_laysWays_70 : decode cX10_laysWays 70 = .ok (.if_icmp .eq 21, 3) := by decide +kernel
theorem dX10_laysWays_73 : decode cX10_laysWays 73 = .ok (.aload_n 0, 1) := by decide +kernel
theorem dX10_laysWays_74 : decode cX10_laysWays 74 = .ok (.iload 4, 2) := by decide +kernel
theorem dX10_laysWays_76 : decode cX10_laysWays 76 = .ok (.iload 6, 2) := by decide +kernel
theorem dX10_laysWays_78 : decode cX10_laysWays 78 = .ok (.invokestatic 77, 3) := by decide +kernel
theorem dX10_laysWays_81 : decode cX10_laysWays 81 = .ok (.invokevirtual 80, 3) := by decide +kernel
theorem dX10_laysWays_84 : decode cX10_laysWays 84 = .ok (.ifCond .eq 7, 3) := by decide +kernel
theorem dX10_laysWays_87 : decode cX10_laysWays 87 = .ok (.iconst 1, 1) := by decide +kernel
theorem dX10_laysWays_88 : decode cX10_laysWays 88 = .ok (.goto 4, 3) := by decide +kernel
theorem dX10_laysWays_91 : decode cX10_laysWays 91 = .ok (.iconst 0, 1) := by decide +kernel
theorem dX10_laysWays_92 : decode cX10_laysWays 92 = .ok (.istore 7, 2) := by decide +kernel
theorem dX10_laysWays_94 : decode cX10_laysWays 94 = .ok (.iload_n 2, 1) := by decide +kernel
theorem dX10_laysWays_95 : decode cX10_laysWays 95 = .ok (.ifCond .eq 16, 3) := by decide +kernel
theorem dX10_laysWays_98 : decode cX10_laysWays 98 = .ok (.iload 7, 2) := by decide +kernel
theorem dX10_laysWays_100 : decode cX10_laysWays 100 = .ok (.ifCond .eq 7, 3) := by decide +kernel
theorem dX10_laysWays_103 : decode cX10_laysWays 103 = .ok (.iconst 0, 1) := by decide +kernel
theorem dX10_laysWays_104 : decode cX10_laysWays 104 = .ok (.goto 18, 3) := by decide +kernel
theorem dX10_laysWays_107 : decode cX10_laysWays 107 = .ok (.iconst 1, 1) := by decide +kernel
theorem dX10_laysWays_108 : decode cX10_laysWays 108 = .ok (.goto 14, 3) := by decide +kernel
theorem dX10_laysWays_111 : decode cX10_laysWays 111 = .ok (.iload 7, 2) := by decide +kernel
theorem dX10_laysWays_113 : decode cX10_laysWays 113 = .ok (.ifCond .eq 7, 3) := by decide +kernel
theorem dX10_laysWays_116 : decode cX10_laysWays 116 = .ok (.iconst 1, 1) := by decide +kernel
theorem dX10_laysWays_117 : decode cX10_laysWays 117 = .ok (.goto 5, 3) := by decide +kernel
theorem dX10_laysWays_120 : decode cX10_laysWays 120 = .ok (.bipush 99, 2) := by decide +kernel
theorem dX10_laysWays_122 : decode cX10_laysWays 122 = .ok (.istore 8, 2) := by decide +kernel
theorem dX10_laysWays_124 : decode cX10_laysWays 124 = .ok (.iload 6, 2) := by decide +kernel
theorem dX10_laysWays_126 : decode cX10_laysWays 126 = .ok (.iconst (-1), 1) := by decide +kernel
theorem dX10_laysWays_127 : decode cX10_laysWays 127 = .ok (.if_icmp .eq 30, 3) := by decide +kernel
theorem dX10_laysWays_130 : decode cX10_laysWays 130 = .ok (.aload_n 0, 1) := by decide +kernel
theorem dX10_laysWays_131 : decode cX10_laysWays 131 = .ok (.getfield 29, 3) := by decide +kernel
theorem dX10_laysWays_134 : decode cX10_laysWays 134 = .ok (.iload 6, 2) := by decide +kernel
theorem dX10_laysWays_136 : decode cX10_laysWays 136 = .ok (.aload_n 0, 1) := by decide +kernel
theorem dX10_laysWays_137 : decode cX10_laysWays 137 = .ok (.getfield 29, 3) := by decide +kernel
theorem dX10_laysWays_140 : decode cX10_laysWays 140 = .ok (.iload 6, 2) := by decide +kernel
theorem dX10_laysWays_142 : decode cX10_laysWays 142 = .ok (.iaload, 1) := by decide +kernel
theorem dX10_laysWays_143 : decode cX10_laysWays 143 = .ok (.aload_n 0, 1) := by decide +kernel
theorem dX10_laysWays_144 : decode cX10_laysWays 144 = .ok (.getfield 29, 3) := by decide +kernel
theorem dX10_laysWays_147 : decode cX10_laysWays 147 = .ok (.iload 4, 2) := by decide +kernel
theorem dX10_laysWays_149 : decode cX10_laysWays 149 = .ok (.iaload, 1) := by decide +kernel
theorem dX10_laysWays_150 : decode cX10_laysWays 150 = .ok (.iload 8, 2) := by decide +kernel
theorem dX10_laysWays_152 : decode cX10_laysWays 152 = .ok (.iadd, 1) := by decide +kernel
theorem dX10_laysWays_153 : decode cX10_laysWays 153 = .ok (.invokestatic 65, 3) := by decide +kernel
theorem dX10_laysWays_156 : decode cX10_laysWays 156 = .ok (.iastore, 1) := by decide +kernel
theorem dX10_laysWays_157 : decode cX10_laysWays 157 = .ok (.iinc 5 1, 3) := by decide +kernel
theorem dX10_laysWays_160 : decode cX10_laysWays 160 = .ok (.goto (-108), 3) := by decide +kernel
theorem dX10_laysWays_163 : decode cX10_laysWays 163 = .ok (.iinc 4 1, 3) := by decide +kernel
theorem dX10_laysWays_166 : decode cX10_laysWays 166 = .ok (.goto (-124), 3) := by decide +kernel
theorem dX10_laysWays_169 : decode cX10_laysWays 169 = .ok (.iinc 3 1, 3) := by decide +kernel
theorem dX10_laysWays_172 : decode cX10_laysWays 172 = .ok (.goto (-139), 3) := by decide +kernel
theorem dX10_laysWays_175 : decode cX10_laysWays 175 = .ok (.return_, 1) := by decide +kernel
theorem dX10_hoursOf_0 : decode cX10_hoursOf 0 = .ok (.aload_n 0, 1) := by decide +kernel
theorem dX10_hoursOf_1 : decode cX10_hoursOf 1 = .ok (.iload_n 1, 1) := by decide +kernel
theorem dX10_hoursOf_2 : decode cX10_hoursOf 2 = .ok (.iconst 0, 1) := by decide +kernel
theorem dX10_hoursOf_3 : decode cX10_hoursOf 3 = .ok (.invokevirtual 84, 3) := by decide +kernel
theorem dX10_hoursOf_6 : decode cX10_hoursOf 6 = .ok (.aload_n 0, 1) := by decide +kernel
theorem dX10_hoursOf_7 : decode cX10_hoursOf 7 = .ok (.getfield 29, 3) := by decide +kernel
theorem dX10_hoursOf_10 : decode cX10_hoursOf 10 = .ok (.iload_n 2, 1) := by decide +kernel
theorem dX10_hoursOf_11 : decode cX10_hoursOf 11 = .ok (.iaload, 1) := by decide +kernel
theorem dX10_hoursOf_12 : decode cX10_hoursOf 12 = .ok (.bipush 99, 2) := by decide +kernel
theorem dX10_hoursOf_14 : decode cX10_hoursOf 14 = .ok (.if_icmp .lt 7, 3) := by decide +kernel
theorem dX10_hoursOf_17 : decode cX10_hoursOf 17 = .ok (.iconst (-1), 1) := by decide +kernel
theorem dX10_hoursOf_18 : decode cX10_hoursOf 18 = .ok (.goto 9, 3) := by decide +kernel
theorem dX10_hoursOf_21 : decode cX10_hoursOf 21 = .ok (.aload_n 0, 1) := by decide +kernel
theorem dX10_hoursOf_22 : decode cX10_hoursOf 22 = .ok (.getfield 29, 3) := by decide +kernel
theorem dX10_hoursOf_25 : decode cX10_hoursOf 25 = .ok (.iload_n 2, 1) := by decide +kernel
theorem dX10_hoursOf_26 : decode cX10_hoursOf 26 = .ok (.iaload, 1) := by decide +kernel
theorem dX10_hoursOf_27 : decode cX10_hoursOf 27 = .ok (.ireturn, 1) := by decide +kernel
theorem dX10_reachedFrom_0 : decode cX10_reachedFrom 0 = .ok (.aload_n 0, 1) := by decide +kernel
theorem dX10_reachedFrom_1 : decode cX10_reachedFrom 1 = .ok (.iload_n 1, 1) := by decide +kernel
theorem dX10_reachedFrom_2 : decode cX10_reachedFrom 2 = .ok (.iconst 0, 1) := by decide +kernel
theorem dX10_reachedFrom_3 : decode cX10_reachedFrom 3 = .ok (.invokevirtual 84, 3) := by decide +kernel
theorem dX10_reachedFrom_6 : decode cX10_reachedFrom 6 = .ok (.iconst 0, 1) := by decide +kernel
theorem dX10_reachedFrom_7 : decode cX10_reachedFrom 7 = .ok (.istore_n 2, 1) := by decide +kernel
theorem dX10_reachedFrom_8 : decode cX10_reachedFrom 8 = .ok (.iconst 0, 1) := by decide +kernel
theorem dX10_reachedFrom_9 : decode cX10_reachedFrom 9 = .ok (.istore_n 3, 1) := by decide +kernel
theorem dX10_reachedFrom_10 : decode cX10_reachedFrom 10 = .ok (.iload_n 3, 1) := by decide +kernel
theorem dX10_reachedFrom_11 : decode cX10_reachedFrom 11 = .ok (.bipush 16, 2) := by decide +kernel
theorem dX10_reachedFrom_13 : decode cX10_reachedFrom 13 = .ok (.if_icmp .ge 30, 3) := by decide +kernel
theorem dX10_reachedFrom_16 : decode cX10_reachedFrom 16 = .ok (.iload_n 2, 1) := by decide +kernel
theorem dX10_reachedFrom_17 : decode cX10_reachedFrom 17 = .ok (.aload_n 0, 1) := by decide +kernel
theorem dX10_reachedFrom_18 : decode cX10_reachedFrom 18 = .ok (.getfield 29, 3) := by decide +kernel
theorem dX10_reachedFrom_21 : decode cX10_reachedFrom 21 = .ok (.iload_n 3, 1) := by decide +kernel
theorem dX10_reachedFrom_22 : decode cX10_reachedFrom 22 = .ok (.iaload, 1) := by decide +kernel
theorem dX10_reachedFrom_23 : decode cX10_reachedFrom 23 = .ok (.bipush 99, 2) := by decide +kernel
theorem dX10_reachedFrom_25 : decode cX10_reachedFrom 25 = .ok (.if_icmp .ge 9, 3) := by decide +kernel
theorem dX10_reachedFrom_28 : decode cX10_reachedFrom 28 = .ok (.iconst 1, 1) := by decide +kernel
theorem dX10_reachedFrom_29 : decode cX10_reachedFrom 29 = .ok (.iload_n 3, 1) := by decide +kernel
theorem dX10_reachedFrom_30 : decode cX10_reachedFrom 30 = .ok (.ishl, 1) := by decide +kernel
theorem dX10_reachedFrom_31 : decode cX10_reachedFrom 31 = .ok (.goto 4, 3) := by decide +kernel
theorem dX10_reachedFrom_34 : decode cX10_reachedFrom 34 = .ok (.iconst 0, 1) := by decide +kernel
theorem dX10_reachedFrom_35 : decode cX10_reachedFrom 35 = .ok (.ior, 1) := by decide +kernel
theorem dX10_reachedFrom_36 : decode cX10_reachedFrom 36 = .ok (.istore_n 2, 1) := by decide +kernel
theorem dX10_reachedFrom_37 : decode cX10_reachedFrom 37 = .ok (.iinc 3 1, 3) := by decide +kernel
theorem dX10_reachedFrom_40 : decode cX10_reachedFrom 40 = .ok (.goto (-30), 3) := by decide +kernel
theorem dX10_reachedFrom_43 : decode cX10_reachedFrom 43 = .ok (.iload_n 2, 1) := by decide +kernel
theorem dX10_reachedFrom_44 : decode cX10_reachedFrom 44 = .ok (.ireturn, 1) := by decide +kernel
theorem dX10_ones_0 : decode cX10_ones 0 = .ok (.iconst 0, 1) := by decide +kernel
theorem dX10_ones_1 : decode cX10_ones 1 = .ok (.istore_n 1, 1) := by decide +kernel
theorem dX10_ones_2 : decode cX10_ones 2 = .ok (.iconst 0, 1) := by decide +kernel
theorem dX10_ones_3 : decode cX10_ones 3 = .ok (.istore_n 2, 1) := by decide +kernel
theorem dX10_ones_4 : decode cX10_ones 4 = .ok (.iload_n 2, 1) := by decide +kernel
theorem dX10_ones_5 : decode cX10_ones 5 = .ok (.bipush 16, 2) := by decide +kernel
theorem dX10_ones_7 : decode cX10_ones 7 = .ok (.if_icmp .ge 17, 3) := by decide +kernel
theorem dX10_ones_10 : decode cX10_ones 10 = .ok (.iload_n 1, 1) := by decide +kernel
theorem dX10_ones_11 : decode cX10_ones 11 = .ok (.iload_n 0, 1) := by decide +kernel
theorem dX10_ones_12 : decode cX10_ones 12 = .ok (.iload_n 2, 1) := by decide +kernel
theorem dX10_ones_13 : decode cX10_ones 13 = .ok (.ishr, 1) := by decide +kernel
theorem dX10_ones_14 : decode cX10_ones 14 = .ok (.iconst 1, 1) := by decide +kernel
theorem dX10_ones_15 : decode cX10_ones 15 = .ok (.iand, 1) := by decide +kernel
theorem dX10_ones_16 : decode cX10_ones 16 = .ok (.iadd, 1) := by decide +kernel
theorem dX10_ones_17 : decode cX10_ones 17 = .ok (.istore_n 1, 1) := by decide +kernel
theorem dX10_ones_18 : decode cX10_ones 18 = .ok (.iinc 2 1, 3) := by decide +kernel
theorem dX10_ones_21 : decode cX10_ones 21 = .ok (.goto (-17), 3) := by decide +kernel
theorem dX10_ones_24 : decode cX10_ones 24 = .ok (.iload_n 1, 1) := by decide +kernel
theorem dX10_ones_25 : decode cX10_ones 25 = .ok (.ireturn, 1) := by decide +kernel
theorem dX10_gaps_0 : decode cX10_gaps 0 = .ok (.iconst 0, 1) := by decide +kernel
theorem dX10_gaps_1 : decode cX10_gaps 1 = .ok (.istore_n 1, 1) := by decide +kernel
theorem dX10_gaps_2 : decode cX10_gaps 2 = .ok (.iconst 0, 1) := by decide +kernel
theorem dX10_gaps_3 : decode cX10_gaps 3 = .ok (.istore_n 2, 1) := by decide +kernel
theorem dX10_gaps_4 : decode cX10_gaps 4 = .ok (.iload_n 2, 1) := by decide +kernel
theorem dX10_gaps_5 : decode cX10_gaps 5 = .ok (.bipush 24, 2) := by decide +kernel
theorem dX10_gaps_7 : decode cX10_gaps 7 = .ok (.if_icmp .ge 28, 3) := by decide +kernel
theorem dX10_gaps_10 : decode cX10_gaps 10 = .ok (.iload_n 1, 1) := by decide +kernel
theorem dX10_gaps_11 : decode cX10_gaps 11 = .ok (.aload_n 0, 1) := by decide +kernel
theorem dX10_gaps_12 : decode cX10_gaps 12 = .ok (.bipush 6, 2) := by decide +kernel
theorem dX10_gaps_14 : decode cX10_gaps 14 = .ok (.iload_n 2, 1) := by decide +kernel
theorem dX10_gaps_15 : decode cX10_gaps 15 = .ok (.iadd, 1) := by decide +kernel
theorem dX10_gaps_16 : decode cX10_gaps 16 = .ok (.invokevirtual 80, 3) := by decide +kernel
theorem dX10_gaps_19 : decode cX10_gaps 19 = .ok (.ifCond .eq 7, 3) := by decide +kernel
theorem dX10_gaps_22 : decode cX10_gaps 22 = .ok (.iconst 1, 1) := by decide +kernel
theorem dX10_gaps_23 : decode cX10_gaps 23 = .ok (.goto 4, 3) := by decide +kernel
theorem dX10_gaps_26 : decode cX10_gaps 26 = .ok (.iconst 0, 1) := by decide +kernel
theorem dX10_gaps_27 : decode cX10_gaps 27 = .ok (.iadd, 1) := by decide +kernel
theorem dX10_gaps_28 : decode cX10_gaps 28 = .ok (.istore_n 1, 1) := by decide +kernel
theorem dX10_gaps_29 : decode cX10_gaps 29 = .ok (.iinc 2 1, 3) := by decide +kernel
theorem dX10_gaps_32 : decode cX10_gaps 32 = .ok (.goto (-28), 3) := by decide +kernel
theorem dX10_gaps_35 : decode cX10_gaps 35 = .ok (.iload_n 1, 1) := by decide +kernel
theorem dX10_gaps_36 : decode cX10_gaps 36 = .ok (.ireturn, 1) := by decide +kernel
theorem dX10_areNeighbours_0 : decode cX10_areNeighbours 0 = .ok (.iload_n 1, 1) := by decide +kernel
theorem dX10_areNeighbours_1 : decode cX10_areNeighbours 1 = .ok (.invokestatic 88, 3) := by decide +kernel
theorem dX10_areNeighbours_4 : decode cX10_areNeighbours 4 = .ok (.ifCond .eq 10, 3) := by decide +kernel
theorem dX10_areNeighbours_7 : decode cX10_areNeighbours 7 = .ok (.iload_n 2, 1) := by decide +kernel
theorem dX10_areNeighbours_8 : decode cX10_areNeighbours 8 = .ok (.invokestatic 88, 3) := by decide +kernel
theorem dX10_areNeighbours_11 : decode cX10_areNeighbours 11 = .ok (.ifCond .ne 12, 3) := by decide +kernel
theorem dX10_areNeighbours_14 : decode cX10_areNeighbours 14 = .ok (.aload_n 0, 1) := by decide +kernel
theorem dX10_areNeighbours_15 : decode cX10_areNeighbours 15 = .ok (.iconst 1, 1) := by decide +kernel
theorem dX10_areNeighbours_16 : decode cX10_areNeighbours 16 = .ok (.iconst 0, 1) := by decide +kernel
theorem dX10_areNeighbours_17 : decode cX10_areNeighbours 17 = .ok (.invokevirtual 91, 3) := by decide +kernel
theorem dX10_areNeighbours_20 : decode cX10_areNeighbours 20 = .ok (.pop, 1) := by decide +kernel
theorem dX10_areNeighbours_21 : decode cX10_areNeighbours 21 = .ok (.iconst 0, 1) := by decide +kernel
theorem dX10_areNeighbours_22 : decode cX10_areNeighbours 22 = .ok (.ireturn, 1) := by decide +kernel
theorem dX10_areNeighbours_23 : decode cX10_areNeighbours 23 = .ok (.iload_n 1, 1) := by decide +kernel
theorem dX10_areNeighbours_24 : decode cX10_areNeighbours 24 = .ok (.iload_n 2, 1) := by decide +kernel
theorem dX10_areNeighbours_25 : decode cX10_areNeighbours 25 = .ok (.invokestatic 77, 3) := by decide +kernel
theorem dX10_areNeighbours_28 : decode cX10_areNeighbours 28 = .ok (.iconst (-1), 1) := by decide +kernel
theorem dX10_areNeighbours_29 : decode cX10_areNeighbours 29 = .ok (.if_icmp .ne 16, 3) := by decide +kernel
theorem dX10_areNeighbours_32 : decode cX10_areNeighbours 32 = .ok (.aload_n 0, 1) := by decide +kernel
theorem dX10_areNeighbours_33 : decode cX10_areNeighbours 33 = .ok (.iconst 2, 1) := by decide +kernel
theorem dX10_areNeighbours_34 : decode cX10_areNeighbours 34 = .ok (.iload_n 1, 1) := by decide +kernel
theorem dX10_areNeighbours_35 : decode cX10_areNeighbours 35 = .ok (.iload_n 2, 1) := by decide +kernel
theorem dX10_areNeighbours_36 : decode cX10_areNeighbours 36 = .ok (.invokestatic 71, 3) := by decide +kernel
theorem dX10_areNeighbours_39 : decode cX10_areNeighbours 39 = .ok (.invokevirtual 91, 3) := by decide +kernel
theorem dX10_areNeighbours_42 : decode cX10_areNeighbours 42 = .ok (.pop, 1) := by decide +kernel
theorem dX10_areNeighbours_43 : decode cX10_areNeighbours 43 = .ok (.iconst 0, 1) := by decide +kernel
theorem dX10_areNeighbours_44 : decode cX10_areNeighbours 44 = .ok (.ireturn, 1) := by decide +kernel
theorem dX10_areNeighbours_45 : decode cX10_areNeighbours 45 = .ok (.iconst 1, 1) := by decide +kernel
theorem dX10_areNeighbours_46 : decode cX10_areNeighbours 46 = .ok (.ireturn, 1) := by decide +kernel
theorem dX10_hedgeIt_0 : decode cX10_hedgeIt 0 = .ok (.iload_n 3, 1) := by decide +kernel
theorem dX10_hedgeIt_1 : decode cX10_hedgeIt 1 = .ok (.i2l, 1) := by decide +kernel
theorem dX10_hedgeIt_2 : decode cX10_hedgeIt 2 = .ok (.lconst 0, 1) := by decide +kernel
theorem dX10_hedgeIt_3 : decode cX10_hedgeIt 3 = .ok (.ldc2_w 94, 3) := by decide +kernel
theorem dX10_hedgeIt_6 : decode cX10_hedgeIt 6 = .ok (.invokestatic 59, 3) := by decide +kernel
theorem dX10_hedgeIt_9 : decode cX10_hedgeIt 9 = .ok (.ifCond .ne 10, 3) := by decide +kernel
theorem dX10_hedgeIt_12 : decode cX10_hedgeIt 12 = .ok (.aload_n 0, 1) := by decide +kernel
theorem dX10_hedgeIt_13 : decode cX10_hedgeIt 13 = .ok (.iconst 1, 1) := by decide +kernel
theorem dX10_hedgeIt_14 : decode cX10_hedgeIt 14 = .ok (.iconst 0, 1) := by decide +kernel
theorem dX10_hedgeIt_15 : decode cX10_hedgeIt 15 = .ok (.invokevirtual 91, 3) := by decide +kernel
theorem dX10_hedgeIt_18 : decode cX10_hedgeIt 18 = .ok (.ireturn, 1) := by decide +kernel
theorem dX10_hedgeIt_19 : decode cX10_hedgeIt 19 = .ok (.aload_n 0, 1) := by decide +kernel
theorem dX10_hedgeIt_20 : decode cX10_hedgeIt 20 = .ok (.iload_n 1, 1) := by decide +kernel
theorem dX10_hedgeIt_21 : decode cX10_hedgeIt 21 = .ok (.iload_n 2, 1) := by decide +kernel
theorem dX10_hedgeIt_22 : decode cX10_hedgeIt 22 = .ok (.invokevirtual 96, 3) := by decide +kernel
theorem dX10_hedgeIt_25 : decode cX10_hedgeIt 25 = .ok (.ifCond .ne 5, 3) := by decide +kernel
theorem dX10_hedgeIt_28 : decode cX10_hedgeIt 28 = .ok (.iconst (-1), 1) := by decide +kernel
theorem dX10_hedgeIt_29 : decode cX10_hedgeIt 29 = .ok (.ireturn, 1) := by decide +kernel
theorem dX10_hedgeIt_30 : decode cX10_hedgeIt 30 = .ok (.iload_n 1, 1) := by decide +kernel
theorem dX10_hedgeIt_31 : decode cX10_hedgeIt 31 = .ok (.iload_n 2, 1) := by decide +kernel
theorem dX10_hedgeIt_32 : decode cX10_hedgeIt 32 = .ok (.invokestatic 77, 3) := by decide +kernel
theorem dX10_hedgeIt_35 : decode cX10_hedgeIt 35 = .ok (.istore 4, 2) := by decide +kernel
theorem dX10_hedgeIt_37 : decode cX10_hedgeIt 37 = .ok (.aload_n 0, 1) := by decide +kernel
theorem dX10_hedgeIt_38 : decode cX10_hedgeIt 38 = .ok (.getfield 9, 3) := by decide +kernel
theorem dX10_hedgeIt_41 : decode cX10_hedgeIt 41 = .ok (.iload 4, 2) := by decide +kernel
theorem dX10_hedgeIt_43 : decode cX10_hedgeIt 43 = .ok (.iaload, 1) := by decide +kernel
theorem dX10_hedgeIt_44 : decode cX10_hedgeIt 44 = .ok (.istore 5, 2) := by decide +kernel
theorem dX10_hedgeIt_46 : decode cX10_hedgeIt 46 = .ok (.iload 5, 2) := by decide +kernel
theorem dX10_hedgeIt_48 : decode cX10_hedgeIt 48 = .ok (.iload_n 3, 1) := by decide +kernel
theorem dX10_hedgeIt_49 : decode cX10_hedgeIt 49 = .ok (.if_icmp .ne 10, 3) := by decide +kernel
theorem dX10_hedgeIt_52 : decode cX10_hedgeIt 52 = .ok (.aload_n 0, 1) := by decide +kernel
theorem dX10_hedgeIt_53 : decode cX10_hedgeIt 53 = .ok (.iconst 3, 1) := by decide +kernel
theorem dX10_hedgeIt_54 : decode cX10_hedgeIt 54 = .ok (.iload_n 3, 1) := by decide +kernel
theorem dX10_hedgeIt_55 : decode cX10_hedgeIt 55 = .ok (.invokevirtual 91, 3) := by decide +kernel
theorem dX10_hedgeIt_58 : decode cX10_hedgeIt 58 = .ok (.ireturn, 1) := by decide +kernel
theorem dX10_hedgeIt_59 : decode cX10_hedgeIt 59 = .ok (.aload_n 0, 1) := by decide +kernel
theorem dX10_hedgeIt_60 : decode cX10_hedgeIt 60 = .ok (.getfield 9, 3) := by decide +kernel
theorem dX10_hedgeIt_63 : decode cX10_hedgeIt 63 = .ok (.iload 4, 2) := by decide +kernel
theorem dX10_hedgeIt_65 : decode cX10_hedgeIt 65 = .ok (.iload_n 3, 1) := by decide +kernel
theorem dX10_hedgeIt_66 : decode cX10_hedgeIt 66 = .ok (.iastore, 1) := by decide +kernel
theorem dX10_hedgeIt_67 : decode cX10_hedgeIt 67 = .ok (.iload 5, 2) := by decide +kernel
theorem dX10_hedgeIt_69 : decode cX10_hedgeIt 69 = .ok (.ireturn, 1) := by decide +kernel
theorem dX10_hedge_0 : decode cX10_hedge 0 = .ok (.aload_n 0, 1) := by decide +kernel
theorem dX10_hedge_1 : decode cX10_hedge 1 = .ok (.invokevirtual 100, 3) := by decide +kernel
theorem dX10_hedge_4 : decode cX10_hedge 4 = .ok (.aload_n 0, 1) := by decide +kernel
theorem dX10_hedge_5 : decode cX10_hedge 5 = .ok (.aload_n 0, 1) := by decide +kernel
theorem dX10_hedge_6 : decode cX10_hedge 6 = .ok (.iload_n 1, 1) := by decide +kernel
theorem dX10_hedge_7 : decode cX10_hedge 7 = .ok (.iload_n 2, 1) := by decide +kernel
theorem dX10_hedge_8 : decode cX10_hedge 8 = .ok (.iload_n 3, 1) := by decide +kernel
theorem dX10_hedge_9 : decode cX10_hedge 9 = .ok (.invokevirtual 103, 3) := by decide +kernel
theorem dX10_hedge_12 : decode cX10_hedge 12 = .ok (.invokevirtual 107, 3) := by decide +kernel
theorem dX10_hedge_15 : decode cX10_hedge 15 = .ok (.ireturn, 1) := by decide +kernel
theorem dX10_summerIt_0 : decode cX10_summerIt 0 = .ok (.aload_n 0, 1) := by decide +kernel
theorem dX10_summerIt_1 : decode cX10_summerIt 1 = .ok (.invokevirtual 110, 3) := by decide +kernel
theorem dX10_summerIt_4 : decode cX10_summerIt 4 = .ok (.istore_n 1, 1) := by decide +kernel
theorem dX10_summerIt_5 : decode cX10_summerIt 5 = .ok (.iconst 0, 1) := by decide +kernel
theorem dX10_summerIt_6 : decode cX10_summerIt 6 = .ok (.istore_n 2, 1) := by decide +kernel
theorem dX10_summerIt_7 : decode cX10_summerIt 7 = .ok (.iload_n 2, 1) := by decide +kernel
theorem dX10_summerIt_8 : decode cX10_summerIt 8 = .ok (.bipush 24, 2) := by decide +kernel
theorem dX10_summerIt_10 : decode cX10_summerIt 10 = .ok (.if_icmp .ge 34, 3) := by decide +kernel
theorem dX10_summerIt_13 : decode cX10_summerIt 13 = .ok (.aload_n 0, 1) := by decide +kernel
theorem dX10_summerIt_14 : decode cX10_summerIt 14 = .ok (.getfield 9, 3) := by decide +kernel
theorem dX10_summerIt_17 : decode cX10_summerIt 17 = .ok (.bipush 6, 2) := by decide +kernel
theorem dX10_summerIt_19 : decode cX10_summerIt 19 = .ok (.iload_n 2, 1) := by decide +kernel
theorem dX10_summerIt_20 : decode cX10_summerIt 20 = .ok (.iadd, 1) := by decide +kernel
theorem dX10_summerIt_21 : decode cX10_summerIt 21 = .ok (.bipush 9, 2) := by decide +kernel
theorem dX10_summerIt_23 : decode cX10_summerIt 23 = .ok (.aload_n 0, 1) := by decide +kernel
theorem dX10_summerIt_24 : decode cX10_summerIt 24 = .ok (.getfield 9, 3) := by decide +kernel
theorem dX10_summerIt_27 : decode cX10_summerIt 27 = .ok (.bipush 6, 2) := by decide +kernel
theorem dX10_summerIt_29 : decode cX10_summerIt 29 = .ok (.iload_n 2, 1) := by decide +kernel
theorem dX10_summerIt_30 : decode cX10_summerIt 30 = .ok (.iadd, 1) := by decide +kernel
theorem dX10_summerIt_31 : decode cX10_summerIt 31 = .ok (.iaload, 1) := by decide +kernel
theorem dX10_summerIt_32 : decode cX10_summerIt 32 = .ok (.iconst 1, 1) := by decide +kernel
theorem dX10_summerIt_33 : decode cX10_summerIt 33 = .ok (.iadd, 1) := by decide +kernel
theorem dX10_summerIt_34 : decode cX10_summerIt 34 = .ok (.invokestatic 65, 3) := by decide +kernel
theorem dX10_summerIt_37 : decode cX10_summerIt 37 = .ok (.iastore, 1) := by decide +kernel
theorem dX10_summerIt_38 : decode cX10_summerIt 38 = .ok (.iinc 2 1, 3) := by decide +kernel
theorem dX10_summerIt_41 : decode cX10_summerIt 41 = .ok (.goto (-34), 3) := by decide +kernel
theorem dX10_summerIt_44 : decode cX10_summerIt 44 = .ok (.aload_n 0, 1) := by decide +kernel
theorem dX10_summerIt_45 : decode cX10_summerIt 45 = .ok (.getfield 9, 3) := by decide +kernel
theorem dX10_summerIt_48 : decode cX10_summerIt 48 = .ok (.iconst 3, 1) := by decide +kernel
theorem dX10_summerIt_49 : decode cX10_summerIt 49 = .ok (.dup2, 1) := by decide +kernel
theorem dX10_summerIt_50 : decode cX10_summerIt 50 = .ok (.iaload, 1) := by decide +kernel
theorem dX10_summerIt_51 : decode cX10_summerIt 51 = .ok (.iconst 1, 1) := by decide +kernel
theorem dX10_summerIt_52 : decode cX10_summerIt 52 = .ok (.iadd, 1) := by decide +kernel
theorem dX10_summerIt_53 : decode cX10_summerIt 53 = .ok (.iastore, 1) := by decide +kernel
theorem dX10_summerIt_54 : decode cX10_summerIt 54 = .ok (.iload_n 1, 1) := by decide +kernel
theorem dX10_summerIt_55 : decode cX10_summerIt 55 = .ok (.aload_n 0, 1) := by decide +kernel
theorem dX10_summerIt_56 : decode cX10_summerIt 56 = .ok (.invokevirtual 110, 3) := by decide +kernel
theorem dX10_summerIt_59 : decode cX10_summerIt 59 = .ok (.isub, 1) := by decide +kernel
theorem dX10_summerIt_60 : decode cX10_summerIt 60 = .ok (.ireturn, 1) := by decide +kernel
theorem dX10_summer_0 : decode cX10_summer 0 = .ok (.aload_n 0, 1) := by decide +kernel
theorem dX10_summer_1 : decode cX10_summer 1 = .ok (.invokevirtual 100, 3) := by decide +kernel
theorem dX10_summer_4 : decode cX10_summer 4 = .ok (.aload_n 0, 1) := by decide +kernel
theorem dX10_summer_5 : decode cX10_summer 5 = .ok (.aload_n 0, 1) := by decide +kernel
theorem dX10_summer_6 : decode cX10_summer 6 = .ok (.invokevirtual 114, 3) := by decide +kernel
theorem dX10_summer_9 : decode cX10_summer 9 = .ok (.invokevirtual 107, 3) := by decide +kernel
theorem dX10_summer_12 : decode cX10_summer 12 = .ok (.ireturn, 1) := by decide +kernel
theorem dX10_trimIt_0 : decode cX10_trimIt 0 = .ok (.aload_n 0, 1) := by decide +kernel
theorem dX10_trimIt_1 : decode cX10_trimIt 1 = .ok (.iload_n 1, 1) := by decide +kernel
theorem dX10_trimIt_2 : decode cX10_trimIt 2 = .ok (.invokevirtual 117, 3) := by decide +kernel
theorem dX10_trimIt_5 : decode cX10_trimIt 5 = .ok (.ifCond .ne 15, 3) := by decide +kernel
theorem dX10_trimIt_8 : decode cX10_trimIt 8 = .ok (.aload_n 0, 1) := by decide +kernel
theorem dX10_trimIt_9 : decode cX10_trimIt 9 = .ok (.iconst 4, 1) := by decide +kernel
theorem dX10_trimIt_10 : decode cX10_trimIt 10 = .ok (.aload_n 0, 1) := by decide +kernel
theorem dX10_trimIt_11 : decode cX10_trimIt 11 = .ok (.getfield 9, 3) := by decide +kernel
theorem dX10_trimIt_14 : decode cX10_trimIt 14 = .ok (.iconst 0, 1) := by decide +kernel
theorem dX10_trimIt_15 : decode cX10_trimIt 15 = .ok (.iaload, 1) := by decide +kernel
theorem dX10_trimIt_16 : decode cX10_trimIt 16 = .ok (.invokevirtual 91, 3) := by decide +kernel
theorem dX10_trimIt_19 : decode cX10_trimIt 19 = .ok (.ireturn, 1) := by decide +kernel
theorem dX10_trimIt_20 : decode cX10_trimIt 20 = .ok (.aload_n 0, 1) := by decide +kernel
theorem dX10_trimIt_21 : decode cX10_trimIt 21 = .ok (.iload_n 2, 1) := by decide +kernel
theorem dX10_trimIt_22 : decode cX10_trimIt 22 = .ok (.iload_n 3, 1) := by decide +kernel
theorem dX10_trimIt_23 : decode cX10_trimIt 23 = .ok (.invokevirtual 96, 3) := by decide +kernel
theorem dX10_trimIt_26 : decode cX10_trimIt 26 = .ok (.ifCond .ne 5, 3) := by decide +kernel
theorem dX10_trimIt_29 : decode cX10_trimIt 29 = .ok (.iconst (-1), 1) := by decide +kernel
theorem dX10_trimIt_30 : decode cX10_trimIt 30 = .ok (.ireturn, 1) := by decide +kernel
theorem dX10_trimIt_31 : decode cX10_trimIt 31 = .ok (.iload_n 2, 1) := by decide +kernel
theorem dX10_trimIt_32 : decode cX10_trimIt 32 = .ok (.iload_n 3, 1) := by decide +kernel
theorem dX10_trimIt_33 : decode cX10_trimIt 33 = .ok (.invokestatic 77, 3) := by decide +kernel
theorem dX10_trimIt_36 : decode cX10_trimIt 36 = .ok (.istore 4, 2) := by decide +kernel
theorem dX10_trimIt_38 : decode cX10_trimIt 38 = .ok (.iload_n 1, 1) := by decide +kernel
theorem dX10_trimIt_39 : decode cX10_trimIt 39 = .ok (.invokestatic 120, 3) := by decide +kernel
theorem dX10_trimIt_42 : decode cX10_trimIt 42 = .ok (.istore 5, 2) := by decide +kernel
theorem dX10_trimIt_44 : decode cX10_trimIt 44 = .ok (.aload_n 0, 1) := by decide +kernel
theorem dX10_trimIt_45 : decode cX10_trimIt 45 = .ok (.getfield 9, 3) := by decide +kernel
theorem dX10_trimIt_48 : decode cX10_trimIt 48 = .ok (.iload 4, 2) := by decide +kernel
theorem dX10_trimIt_50 : decode cX10_trimIt 50 = .ok (.iaload, 1) := by decide +kernel
theorem dX10_trimIt_51 : decode cX10_trimIt 51 = .ok (.ifCond .ne 10, 3) := by decide +kernel
theorem dX10_trimIt_54 : decode cX10_trimIt 54 = .ok (.aload_n 0, 1) := by decide +kernel
theorem dX10_trimIt_55 : decode cX10_trimIt 55 = .ok (.iconst 3, 1) := by decide +kernel
theorem dX10_trimIt_56 : decode cX10_trimIt 56 = .ok (.iconst 0, 1) := by decide +kernel
theorem dX10_trimIt_57 : decode cX10_trimIt 57 = .ok (.invokevirtual 91, 3) := by decide +kernel
theorem dX10_trimIt_60 : decode cX10_trimIt 60 = .ok (.ireturn, 1) := by decide +kernel
theorem dX10_trimIt_61 : decode cX10_trimIt 61 = .ok (.aload_n 0, 1) := by decide +kernel
theorem dX10_trimIt_62 : decode cX10_trimIt 62 = .ok (.getfield 9, 3) := by decide +kernel
theorem dX10_trimIt_65 : decode cX10_trimIt 65 = .ok (.iload 5, 2) := by decide +kernel
theorem dX10_trimIt_67 : decode cX10_trimIt 67 = .ok (.iaload, 1) := by decide +kernel
theorem dX10_trimIt_68 : decode cX10_trimIt 68 = .ok (.iconst 2, 1) := by decide +kernel
theorem dX10_trimIt_69 : decode cX10_trimIt 69 = .ok (.if_icmp .ge 18, 3) := by decide +kernel
theorem dX10_trimIt_72 : decode cX10_trimIt 72 = .ok (.aload_n 0, 1) := by decide +kernel
theorem dX10_trimIt_73 : decode cX10_trimIt 73 = .ok (.iconst 5, 1) := by decide +kernel
theorem dX10_trimIt_74 : decode cX10_trimIt 74 = .ok (.iconst 2, 1) := by decide +kernel
theorem dX10_trimIt_75 : decode cX10_trimIt 75 = .ok (.aload_n 0, 1) := by decide +kernel
theorem dX10_trimIt_76 : decode cX10_trimIt 76 = .ok (.getfield 9, 3) := by decide +kernel
theorem dX10_trimIt_79 : decode cX10_trimIt 79 = .ok (.iload 5, 2) := by decide +kernel
theorem dX10_trimIt_81 : decode cX10_trimIt 81 = .ok (.iaload, 1) := by decide +kernel
theorem dX10_trimIt_82 : decode cX10_trimIt 82 = .ok (.isub, 1) := by decide +kernel
theorem dX10_trimIt_83 : decode cX10_trimIt 83 = .ok (.invokevirtual 91, 3) := by decide +kernel
theorem dX10_trimIt_86 : decode cX10_trimIt 86 = .ok (.ireturn, 1) := by decide +kernel
theorem dX10_trimIt_87 : decode cX10_trimIt 87 = .ok (.aload_n 0, 1) := by decide +kernel
theorem dX10_trimIt_88 : decode cX10_trimIt 88 = .ok (.getfield 9, 3) := by decide +kernel
theorem dX10_trimIt_91 : decode cX10_trimIt 91 = .ok (.iload 4, 2) := by decide +kernel
theorem dX10_trimIt_93 : decode cX10_trimIt 93 = .ok (.iconst 0, 1) := by decide +kernel
theorem dX10_trimIt_94 : decode cX10_trimIt 94 = .ok (.iastore, 1) := by decide +kernel
theorem dX10_trimIt_95 : decode cX10_trimIt 95 = .ok (.aload_n 0, 1) := by decide +kernel
theorem dX10_trimIt_96 : decode cX10_trimIt 96 = .ok (.getfield 9, 3) := by decide +kernel
theorem dX10_trimIt_99 : decode cX10_trimIt 99 = .ok (.iload 5, 2) := by decide +kernel
theorem dX10_trimIt_101 : decode cX10_trimIt 101 = .ok (.dup2, 1) := by decide +kernel
theorem dX10_trimIt_102 : decode cX10_trimIt 102 = .ok (.iaload, 1) := by decide +kernel
theorem dX10_trimIt_103 : decode cX10_trimIt 103 = .ok (.iconst 2, 1) := by decide +kernel
theorem dX10_trimIt_104 : decode cX10_trimIt 104 = .ok (.isub, 1) := by decide +kernel
theorem dX10_trimIt_105 : decode cX10_trimIt 105 = .ok (.iastore, 1) := by decide +kernel
theorem dX10_trimIt_106 : decode cX10_trimIt 106 = .ok (.aload_n 0, 1) := by decide +kernel
theorem dX10_trimIt_107 : decode cX10_trimIt 107 = .ok (.getfield 9, 3) := by decide +kernel
theorem dX10_trimIt_110 : decode cX10_trimIt 110 = .ok (.iload 5, 2) := by decide +kernel
theorem dX10_trimIt_112 : decode cX10_trimIt 112 = .ok (.iconst 3, 1) := by decide +kernel
theorem dX10_trimIt_113 : decode cX10_trimIt 113 = .ok (.iadd, 1) := by decide +kernel
theorem dX10_trimIt_114 : decode cX10_trimIt 114 = .ok (.dup2, 1) := by decide +kernel
theorem dX10_trimIt_115 : decode cX10_trimIt 115 = .ok (.iaload, 1) := by decide +kernel
theorem dX10_trimIt_116 : decode cX10_trimIt 116 = .ok (.iconst 1, 1) := by decide +kernel
theorem dX10_trimIt_117 : decode cX10_trimIt 117 = .ok (.iadd, 1) := by decide +kernel
theorem dX10_trimIt_118 : decode cX10_trimIt 118 = .ok (.iastore, 1) := by decide +kernel
theorem dX10_trimIt_119 : decode cX10_trimIt 119 = .ok (.aload_n 0, 1) := by decide +kernel
theorem dX10_trimIt_120 : decode cX10_trimIt 120 = .ok (.getfield 9, 3) := by decide +kernel
theorem dX10_trimIt_123 : decode cX10_trimIt 123 = .ok (.iconst 5, 1) := by decide +kernel
theorem dX10_trimIt_124 : decode cX10_trimIt 124 = .ok (.dup2, 1) := by decide +kernel
theorem dX10_trimIt_125 : decode cX10_trimIt 125 = .ok (.iaload, 1) := by decide +kernel
theorem dX10_trimIt_126 : decode cX10_trimIt 126 = .ok (.iconst 2, 1) := by decide +kernel
theorem dX10_trimIt_127 : decode cX10_trimIt 127 = .ok (.iadd, 1) := by decide +kernel
theorem dX10_trimIt_128 : decode cX10_trimIt 128 = .ok (.iastore, 1) := by decide +kernel
theorem dX10_trimIt_129 : decode cX10_trimIt 129 = .ok (.aload_n 0, 1) := by decide +kernel
theorem dX10_trimIt_130 : decode cX10_trimIt 130 = .ok (.getfield 9, 3) := by decide +kernel
theorem dX10_trimIt_133 : decode cX10_trimIt 133 = .ok (.iload 5, 2) := by decide +kernel
theorem dX10_trimIt_135 : decode cX10_trimIt 135 = .ok (.iaload, 1) := by decide +kernel
theorem dX10_trimIt_136 : decode cX10_trimIt 136 = .ok (.ireturn, 1) := by decide +kernel
theorem dX10_trim_0 : decode cX10_trim 0 = .ok (.aload_n 0, 1) := by decide +kernel
theorem dX10_trim_1 : decode cX10_trim 1 = .ok (.invokevirtual 100, 3) := by decide +kernel
theorem dX10_trim_4 : decode cX10_trim 4 = .ok (.aload_n 0, 1) := by decide +kernel
theorem dX10_trim_5 : decode cX10_trim 5 = .ok (.aload_n 0, 1) := by decide +kernel
theorem dX10_trim_6 : decode cX10_trim 6 = .ok (.iload_n 1, 1) := by decide +kernel
theorem dX10_trim_7 : decode cX10_trim 7 = .ok (.iload_n 2, 1) := by decide +kernel
theorem dX10_trim_8 : decode cX10_trim 8 = .ok (.iload_n 3, 1) := by decide +kernel
theorem dX10_trim_9 : decode cX10_trim 9 = .ok (.invokevirtual 123, 3) := by decide +kernel
theorem dX10_trim_12 : decode cX10_trim 12 = .ok (.invokevirtual 107, 3) := by decide +kernel
theorem dX10_trim_15 : decode cX10_trim 15 = .ok (.ireturn, 1) := by decide +kernel
theorem dX10_meets_0 : decode cX10_meets 0 = .ok (.iload_n 1, 1) := by decide +kernel
theorem dX10_meets_1 : decode cX10_meets 1 = .ok (.invokestatic 126, 3) := by decide +kernel
theorem dX10_meets_4 : decode cX10_meets 4 = .ok (.istore_n 2, 1) := by decide +kernel
theorem dX10_meets_5 : decode cX10_meets 5 = .ok (.aload_n 0, 1) := by decide +kernel
theorem dX10_meets_6 : decode cX10_meets 6 = .ok (.getfield 9, 3) := by decide +kernel
theorem dX10_meets_9 : decode cX10_meets 9 = .ok (.iload_n 2, 1) := by decide +kernel
theorem dX10_meets_10 : decode cX10_meets 10 = .ok (.bipush 7, 2) := by decide +kernel
theorem dX10_meets_12 : decode cX10_meets 12 = .ok (.iadd, 1) := by decide +kernel
theorem dX10_meets_13 : decode cX10_meets 13 = .ok (.iaload, 1) := by decide +kernel
theorem dX10_meets_14 : decode cX10_meets 14 = .ok (.ifCond .ne 24, 3) := by decide +kernel
theorem dX10_meets_17 : decode cX10_meets 17 = .ok (.aload_n 0, 1) := by decide +kernel
theorem dX10_meets_18 : decode cX10_meets 18 = .ok (.getfield 9, 3) := by decide +kernel
theorem dX10_meets_21 : decode cX10_meets 21 = .ok (.iload_n 2, 1) := by decide +kernel
theorem dX10_meets_22 : decode cX10_meets 22 = .ok (.iconst 1, 1) := by decide +kernel
theorem dX10_meets_23 : decode cX10_meets 23 = .ok (.iadd, 1) := by decide +kernel
theorem dX10_meets_24 : decode cX10_meets 24 = .ok (.iaload, 1) := by decide +kernel
theorem dX10_meets_25 : decode cX10_meets 25 = .ok (.aload_n 0, 1) := by decide +kernel
theorem dX10_meets_26 : decode cX10_meets 26 = .ok (.getfield 9, 3) := by decide +kernel
theorem dX10_meets_29 : decode cX10_meets 29 = .ok (.iconst 2, 1) := by decide +kernel
theorem dX10_meets_30 : decode cX10_meets 30 = .ok (.iaload, 1) := by decide +kernel
theorem dX10_meets_31 : decode cX10_meets 31 = .ok (.if_icmp .ne 7, 3) := by decide +kernel
theorem dX10_meets_34 : decode cX10_meets 34 = .ok (.iconst 1, 1) := by decide +kernel
theorem dX10_meets_35 : decode cX10_meets 35 = .ok (.goto 4, 3) := by decide +kernel
theorem dX10_meets_38 : decode cX10_meets 38 = .ok (.iconst 0, 1) := by decide +kernel
theorem dX10_meets_39 : decode cX10_meets 39 = .ok (.ireturn, 1) := by decide +kernel
theorem dX10_minotaurIt_0 : decode cX10_minotaurIt 0 = .ok (.iload_n 1, 1) := by decide +kernel
theorem dX10_minotaurIt_1 : decode cX10_minotaurIt 1 = .ok (.i2l, 1) := by decide +kernel
theorem dX10_minotaurIt_2 : decode cX10_minotaurIt 2 = .ok (.ldc2_w 129, 3) := by decide +kernel
theorem dX10_minotaurIt_5 : decode cX10_minotaurIt 5 = .ok (.ldc2_w 57, 3) := by decide +kernel
theorem dX10_minotaurIt_8 : decode cX10_minotaurIt 8 = .ok (.invokestatic 59, 3) := by decide +kernel
theorem dX10_minotaurIt_11 : decode cX10_minotaurIt 11 = .ok (.ifCond .ne 10, 3) := by decide +kernel
theorem dX10_minotaurIt_14 : decode cX10_minotaurIt 14 = .ok (.aload_n 0, 1) := by decide +kernel
theorem dX10_minotaurIt_15 : decode cX10_minotaurIt 15 = .ok (.iconst 1, 1) := by decide +kernel
theorem dX10_minotaurIt_16 : decode cX10_minotaurIt 16 = .ok (.iconst 0, 1) := by decide +kernel
theorem dX10_minotaurIt_17 : decode cX10_minotaurIt 17 = .ok (.invokevirtual 91, 3) := by decide +kernel
theorem dX10_minotaurIt_20 : decode cX10_minotaurIt 20 = .ok (.ireturn, 1) := by decide +kernel
theorem dX10_minotaurIt_21 : decode cX10_minotaurIt 21 = .ok (.aload_n 0, 1) := by decide +kernel
theorem dX10_minotaurIt_22 : decode cX10_minotaurIt 22 = .ok (.getfield 9, 3) := by decide +kernel
theorem dX10_minotaurIt_25 : decode cX10_minotaurIt 25 = .ok (.iconst 2, 1) := by decide +kernel
theorem dX10_minotaurIt_26 : decode cX10_minotaurIt 26 = .ok (.iaload, 1) := by decide +kernel
theorem dX10_minotaurIt_27 : decode cX10_minotaurIt 27 = .ok (.iload_n 1, 1) := by decide +kernel
theorem dX10_minotaurIt_28 : decode cX10_minotaurIt 28 = .ok (.if_icmp .ne 10, 3) := by decide +kernel
theorem dX10_minotaurIt_31 : decode cX10_minotaurIt 31 = .ok (.aload_n 0, 1) := by decide +kernel
theorem dX10_minotaurIt_32 : decode cX10_minotaurIt 32 = .ok (.iconst 3, 1) := by decide +kernel
theorem dX10_minotaurIt_33 : decode cX10_minotaurIt 33 = .ok (.iload_n 1, 1) := by decide +kernel
theorem dX10_minotaurIt_34 : decode cX10_minotaurIt 34 = .ok (.invokevirtual 91, 3) := by decide +kernel
theorem dX10_minotaurIt_37 : decode cX10_minotaurIt 37 = .ok (.ireturn, 1) := by decide +kernel
theorem dX10_minotaurIt_38 : decode cX10_minotaurIt 38 = .ok (.aload_n 0, 1) := by decide +kernel
theorem dX10_minotaurIt_39 : decode cX10_minotaurIt 39 = .ok (.getfield 9, 3) := by decide +kernel
theorem dX10_minotaurIt_42 : decode cX10_minotaurIt 42 = .ok (.iconst 2, 1) := by decide +kernel
theorem dX10_minotaurIt_43 : decode cX10_minotaurIt 43 = .ok (.iload_n 1, 1) := by decide +kernel
theorem dX10_minotaurIt_44 : decode cX10_minotaurIt 44 = .ok (.iastore, 1) := by decide +kernel
theorem dX10_minotaurIt_45 : decode cX10_minotaurIt 45 = .ok (.iconst 0, 1) := by decide +kernel
theorem dX10_minotaurIt_46 : decode cX10_minotaurIt 46 = .ok (.istore_n 2, 1) := by decide +kernel
theorem dX10_minotaurIt_47 : decode cX10_minotaurIt 47 = .ok (.iconst 0, 1) := by decide +kernel
theorem dX10_minotaurIt_48 : decode cX10_minotaurIt 48 = .ok (.istore_n 3, 1) := by decide +kernel
theorem dX10_minotaurIt_49 : decode cX10_minotaurIt 49 = .ok (.iload_n 3, 1) := by decide +kernel
theorem dX10_minotaurIt_50 : decode cX10_minotaurIt 50 = .ok (.aload_n 0, 1) := by decide +kernel
theorem dX10_minotaurIt_51 : decode cX10_minotaurIt 51 = .ok (.getfield 9, 3) := by decide +kernel
theorem dX10_minotaurIt_54 : decode cX10_minotaurIt 54 = .ok (.iconst 1, 1) := by decide +kernel
theorem dX10_minotaurIt_55 : decode cX10_minotaurIt 55 = .ok (.iaload, 1) := by decide +kernel
theorem dX10_minotaurIt_56 : decode cX10_minotaurIt 56 = .ok (.if_icmp .ge 76, 3) := by decide +kernel
theorem dX10_minotaurIt_59 : decode cX10_minotaurIt 59 = .ok (.aload_n 0, 1) := by decide +kernel
theorem dX10_minotaurIt_60 : decode cX10_minotaurIt 60 = .ok (.iload_n 3, 1) := by decide +kernel
theorem dX10_minotaurIt_61 : decode cX10_minotaurIt 61 = .ok (.invokevirtual 131, 3) := by decide +kernel
theorem dX10_minotaurIt_64 : decode cX10_minotaurIt 64 = .ok (.istore 4, 2) := by decide +kernel
theorem dX10_minotaurIt_66 : decode cX10_minotaurIt 66 = .ok (.aload_n 0, 1) := by decide +kernel
theorem dX10_minotaurIt_67 : decode cX10_minotaurIt 67 = .ok (.getfield 9, 3) := by decide +kernel
theorem dX10_minotaurIt_70 : decode cX10_minotaurIt 70 = .ok (.iload_n 3, 1) := by decide +kernel
theorem dX10_minotaurIt_71 : decode cX10_minotaurIt 71 = .ok (.invokestatic 126, 3) := by decide +kernel
theorem dX10_minotaurIt_74 : decode cX10_minotaurIt 74 = .ok (.bipush 6, 2) := by decide +kernel
theorem dX10_minotaurIt_76 : decode cX10_minotaurIt 76 = .ok (.iadd, 1) := by decide +kernel
theorem dX10_minotaurIt_77 : decode cX10_minotaurIt 77 = .ok (.iload 4, 2) := by decide +kernel
theorem dX10_minotaurIt_79 : decode cX10_minotaurIt 79 = .ok (.ifCond .eq 21, 3) := by decide +kernel
theorem dX10_minotaurIt_82 : decode cX10_minotaurIt 82 = .ok (.aload_n 0, 1) := by decide +kernel
theorem dX10_minotaurIt_83 : decode cX10_minotaurIt 83 = .ok (.getfield 9, 3) := by decide +kernel
theorem dX10_minotaurIt_86 : decode cX10_minotaurIt 86 = .ok (.iload_n 3, 1) := by decide +kernel
theorem dX10_minotaurIt_87 : decode cX10_minotaurIt 87 = .ok (.invokestatic 126, 3) := by decide +kernel
theorem dX10_minotaurIt_90 : decode cX10_minotaurIt 90 = .ok (.iconst 5, 1) := by decide +kernel
theorem dX10_minotaurIt_91 : decode cX10_minotaurIt 91 = .ok (.iadd, 1) := by decide +kernel
theorem dX10_minotaurIt_92 : decode cX10_minotaurIt 92 = .ok (.iaload, 1) := by decide +kernel
theorem dX10_minotaurIt_93 : decode cX10_minotaurIt 93 = .ok (.ifCond .le 7, 3) := by decide +kernel
theorem dX10_minotaurIt_96 : decode cX10_minotaurIt 96 = .ok (.iconst 1, 1) := by decide +kernel
theorem dX10_minotaurIt_97 : decode cX10_minotaurIt 97 = .ok (.goto 15, 3) := by decide +kernel
theorem dX10_minotaurIt_100 : decode cX10_minotaurIt 100 = .ok (.aload_n 0, 1) := by decide +kernel
theorem dX10_minotaurIt_101 : decode cX10_minotaurIt 101 = .ok (.getfield 9, 3) := by decide +kernel
theorem dX10_minotaurIt_104 : decode cX10_minotaurIt 104 = .ok (.iload_n 3, 1) := by decide +kernel
theorem dX10_minotaurIt_105 : decode cX10_minotaurIt 105 = .ok (.invokestatic 126, 3) := by decide +kernel
theorem dX10_minotaurIt_108 : decode cX10_minotaurIt 108 = .ok (.bipush 6, 2) := by decide +kernel
theorem dX10_minotaurIt_110 : decode cX10_minotaurIt 110 = .ok (.iadd, 1) := by decide +kernel
theorem dX10_minotaurIt_111 : decode cX10_minotaurIt 111 = .ok (.iaload, 1) := by decide +kernel
theorem dX10_minotaurIt_112 : decode cX10_minotaurIt 112 = .ok (.iastore, 1) := by decide +kernel
theorem dX10_minotaurIt_113 : decode cX10_minotaurIt 113 = .ok (.iload_n 2, 1) := by decide +kernel
theorem dX10_minotaurIt_114 : decode cX10_minotaurIt 114 = .ok (.iload 4, 2) := by decide +kernel
theorem dX10_minotaurIt_116 : decode cX10_minotaurIt 116 = .ok (.ifCond .eq 7, 3) := by decide +kernel
theorem dX10_minotaurIt_119 : decode cX10_minotaurIt 119 = .ok (.iconst 1, 1) := by decide +kernel
theorem dX10_minotaurIt_120 : decode cX10_minotaurIt 120 = .ok (.goto 4, 3) := by decide +kernel
theorem dX10_minotaurIt_123 : decode cX10_minotaurIt 123 = .ok (.iconst 0, 1) := by decide +kernel
theorem dX10_minotaurIt_124 : decode cX10_minotaurIt 124 = .ok (.iadd, 1) := by decide +kernel
theorem dX10_minotaurIt_125 : decode cX10_minotaurIt 125 = .ok (.istore_n 2, 1) := by decide +kernel
theorem dX10_minotaurIt_126 : decode cX10_minotaurIt 126 = .ok (.iinc 3 1, 3) := by decide +kernel
theorem dX10_minotaurIt_129 : decode cX10_minotaurIt 129 = .ok (.goto (-80), 3) := by decide +kernel
theorem dX10_minotaurIt_132 : decode cX10_minotaurIt 132 = .ok (.iload_n 2, 1) := by decide +kernel
theorem dX10_minotaurIt_133 : decode cX10_minotaurIt 133 = .ok (.ireturn, 1) := by decide +kernel
theorem dX10_minotaur_0 : decode cX10_minotaur 0 = .ok (.aload_n 0, 1) := by decide +kernel
theorem dX10_minotaur_1 : decode cX10_minotaur 1 = .ok (.invokevirtual 100, 3) := by decide +kernel
theorem dX10_minotaur_4 : decode cX10_minotaur 4 = .ok (.aload_n 0, 1) := by decide +kernel
theorem dX10_minotaur_5 : decode cX10_minotaur 5 = .ok (.aload_n 0, 1) := by decide +kernel
theorem dX10_minotaur_6 : decode cX10_minotaur 6 = .ok (.iload_n 1, 1) := by decide +kernel
theorem dX10_minotaur_7 : decode cX10_minotaur 7 = .ok (.invokevirtual 134, 3) := by decide +kernel
theorem dX10_minotaur_10 : decode cX10_minotaur 10 = .ok (.invokevirtual 107, 3) := by decide +kernel
theorem dX10_minotaur_13 : decode cX10_minotaur 13 = .ok (.ireturn, 1) := by decide +kernel
theorem dX10_gardenerIt_0 : decode cX10_gardenerIt 0 = .ok (.iload_n 1, 1) := by decide +kernel
theorem dX10_gardenerIt_1 : decode cX10_gardenerIt 1 = .ok (.i2l, 1) := by decide +kernel
theorem dX10_gardenerIt_2 : decode cX10_gardenerIt 2 = .ok (.lconst 0, 1) := by decide +kernel
theorem dX10_gardenerIt_3 : decode cX10_gardenerIt 3 = .ok (.ldc2_w 137, 3) := by decide +kernel
theorem dX10_gardenerIt_6 : decode cX10_gardenerIt 6 = .ok (.invokestatic 59, 3) := by decide +kernel
theorem dX10_gardenerIt_9 : decode cX10_gardenerIt 9 = .ok (.ifCond .ne 10, 3) := by decide +kernel
theorem dX10_gardenerIt_12 : decode cX10_gardenerIt 12 = .ok (.aload_n 0, 1) := by decide +kernel
theorem dX10_gardenerIt_13 : decode cX10_gardenerIt 13 = .ok (.iconst 1, 1) := by decide +kernel
theorem dX10_gardenerIt_14 : decode cX10_gardenerIt 14 = .ok (.iconst 0, 1) := by decide +kernel
theorem dX10_gardenerIt_15 : decode cX10_gardenerIt 15 = .ok (.invokevirtual 91, 3) := by decide +kernel
theorem dX10_gardenerIt_18 : decode cX10_gardenerIt 18 = .ok (.ireturn, 1) := by decide +kernel
theorem dX10_gardenerIt_19 : decode cX10_gardenerIt 19 = .ok (.aload_n 0, 1) := by decide +kernel
theorem dX10_gardenerIt_20 : decode cX10_gardenerIt 20 = .ok (.getfield 9, 3) := by decide +kernel
theorem dX10_gardenerIt_23 : decode cX10_gardenerIt 23 = .ok (.iconst 0, 1) := by decide +kernel
theorem dX10_gardenerIt_24 : decode cX10_gardenerIt 24 = .ok (.iaload, 1) := by decide +kernel
theorem dX10_gardenerIt_25 : decode cX10_gardenerIt 25 = .ok (.iconst 4, 1) := by decide +kernel
theorem dX10_gardenerIt_26 : decode cX10_gardenerIt 26 = .ok (.if_icmp .ne 11, 3) := by decide +kernel
theorem dX10_gardenerIt_29 : decode cX10_gardenerIt 29 = .ok (.aload_n 0, 1) := by decide +kernel
theorem dX10_gardenerIt_30 : decode cX10_gardenerIt 30 = .ok (.bipush 13, 2) := by decide +kernel
theorem dX10_gardenerIt_32 : decode cX10_gardenerIt 32 = .ok (.iconst 4, 1) := by decide +kernel
theorem dX10_gardenerIt_33 : decode cX10_gardenerIt 33 = .ok (.invokevirtual 91, 3) := by decide +kernel
theorem dX10_gardenerIt_36 : decode cX10_gardenerIt 36 = .ok (.ireturn, 1) := by decide +kernel
theorem dX10_gardenerIt_37 : decode cX10_gardenerIt 37 = .ok (.aload_n 0, 1) := by decide +kernel
theorem dX10_gardenerIt_38 : decode cX10_gardenerIt 38 = .ok (.getfield 9, 3) := by decide +kernel
theorem dX10_gardenerIt_41 : decode cX10_gardenerIt 41 = .ok (.aload_n 0, 1) := by decide +kernel
theorem dX10_gardenerIt_42 : decode cX10_gardenerIt 42 = .ok (.getfield 9, 3) := by decide +kernel
theorem dX10_gardenerIt_45 : decode cX10_gardenerIt 45 = .ok (.iconst 0, 1) := by decide +kernel
theorem dX10_gardenerIt_46 : decode cX10_gardenerIt 46 = .ok (.iaload, 1) := by decide +kernel
theorem dX10_gardenerIt_47 : decode cX10_gardenerIt 47 = .ok (.invokestatic 120, 3) := by decide +kernel
theorem dX10_gardenerIt_50 : decode cX10_gardenerIt 50 = .ok (.iload_n 1, 1) := by decide +kernel
theorem dX10_gardenerIt_51 : decode cX10_gardenerIt 51 = .ok (.iastore, 1) := by decide +kernel
theorem dX10_gardenerIt_52 : decode cX10_gardenerIt 52 = .ok (.aload_n 0, 1) := by decide +kernel
theorem dX10_gardenerIt_53 : decode cX10_gardenerIt 53 = .ok (.getfield 9, 3) := by decide +kernel
theorem dX10_gardenerIt_56 : decode cX10_gardenerIt 56 = .ok (.iconst 4, 1) := by decide +kernel
theorem dX10_gardenerIt_57 : decode cX10_gardenerIt 57 = .ok (.dup2, 1) := by decide +kernel
theorem dX10_gardenerIt_58 : decode cX10_gardenerIt 58 = .ok (.iaload, 1) := by decide +kernel
theorem dX10_gardenerIt_59 : decode cX10_gardenerIt 59 = .ok (.iload_n 1, 1) := by decide +kernel
theorem dX10_gardenerIt_60 : decode cX10_gardenerIt 60 = .ok (.iadd, 1) := by decide +kernel
theorem dX10_gardenerIt_61 : decode cX10_gardenerIt 61 = .ok (.iastore, 1) := by decide +kernel
theorem dX10_gardenerIt_62 : decode cX10_gardenerIt 62 = .ok (.aload_n 0, 1) := by decide +kernel
theorem dX10_gardenerIt_63 : decode cX10_gardenerIt 63 = .ok (.getfield 9, 3) := by decide +kernel
theorem dX10_gardenerIt_66 : decode cX10_gardenerIt 66 = .ok (.iconst 0, 1) := by decide +kernel
theorem dX10_gardenerIt_67 : decode cX10_gardenerIt 67 = .ok (.dup2, 1) := by decide +kernel
theorem dX10_gardenerIt_68 : decode cX10_gardenerIt 68 = .ok (.iaload, 1) := by decide +kernel
theorem dX10_gardenerIt_69 : decode cX10_gardenerIt 69 = .ok (.iconst 1, 1) := by decide +kernel
theorem dX10_gardenerIt_70 : decode cX10_gardenerIt 70 = .ok (.iadd, 1) := by decide +kernel
theorem dX10_gardenerIt_71 : decode cX10_gardenerIt 71 = .ok (.iastore, 1) := by decide +kernel
theorem dX10_gardenerIt_72 : decode cX10_gardenerIt 72 = .ok (.aload_n 0, 1) := by decide +kernel
theorem dX10_gardenerIt_73 : decode cX10_gardenerIt 73 = .ok (.getfield 9, 3) := by decide +kernel
theorem dX10_gardenerIt_76 : decode cX10_gardenerIt 76 = .ok (.iconst 0, 1) := by decide +kernel
theorem dX10_gardenerIt_77 : decode cX10_gardenerIt 77 = .ok (.iaload, 1) := by decide +kernel
theorem dX10_gardenerIt_78 : decode cX10_gardenerIt 78 = .ok (.iconst 1, 1) := by decide +kernel
theorem dX10_gardenerIt_79 : decode cX10_gardenerIt 79 = .ok (.isub, 1) := by decide +kernel
theorem dX10_gardenerIt_80 : decode cX10_gardenerIt 80 = .ok (.ireturn, 1) := by decide +kernel
theorem dX10_gardener_0 : decode cX10_gardener 0 = .ok (.aload_n 0, 1) := by decide +kernel
theorem dX10_gardener_1 : decode cX10_gardener 1 = .ok (.invokevirtual 100, 3) := by decide +kernel
theorem dX10_gardener_4 : decode cX10_gardener 4 = .ok (.aload_n 0, 1) := by decide +kernel
theorem dX10_gardener_5 : decode cX10_gardener 5 = .ok (.aload_n 0, 1) := by decide +kernel
theorem dX10_gardener_6 : decode cX10_gardener 6 = .ok (.iload_n 1, 1) := by decide +kernel
theorem dX10_gardener_7 : decode cX10_gardener 7 = .ok (.invokevirtual 139, 3) := by decide +kernel
theorem dX10_gardener_10 : decode cX10_gardener 10 = .ok (.invokevirtual 107, 3) := by decide +kernel
theorem dX10_gardener_13 : decode cX10_gardener 13 = .ok (.ireturn, 1) := by decide +kernel
theorem dX10_visitorIt_0 : decode cX10_visitorIt 0 = .ok (.iload_n 1, 1) := by decide +kernel
theorem dX10_visitorIt_1 : decode cX10_visitorIt 1 = .ok (.i2l, 1) := by decide +kernel
theorem dX10_visitorIt_2 : decode cX10_visitorIt 2 = .ok (.lconst 0, 1) := by decide +kernel
theorem dX10_visitorIt_3 : decode cX10_visitorIt 3 = .ok (.ldc2_w 137, 3) := by decide +kernel
theorem dX10_visitorIt_6 : decode cX10_visitorIt 6 = .ok (.invokestatic 59, 3) := by decide +kernel
theorem dX10_visitorIt_9 : decode cX10_visitorIt 9 = .ok (.ifCond .ne 10, 3) := by decide +kernel
theorem dX10_visitorIt_12 : decode cX10_visitorIt 12 = .ok (.aload_n 0, 1) := by decide +kernel
theorem dX10_visitorIt_13 : decode cX10_visitorIt 13 = .ok (.iconst 1, 1) := by decide +kernel
theorem dX10_visitorIt_14 : decode cX10_visitorIt 14 = .ok (.iconst 0, 1) := by decide +kernel
theorem dX10_visitorIt_15 : decode cX10_visitorIt 15 = .ok (.invokevirtual 91, 3) := by decide +kernel
theorem dX10_visitorIt_18 : decode cX10_visitorIt 18 = .ok (.ireturn, 1) := by decide +kernel
theorem dX10_visitorIt_19 : decode cX10_visitorIt 19 = .ok (.aload_n 0, 1) := by decide +kernel
theorem dX10_visitorIt_20 : decode cX10_visitorIt 20 = .ok (.getfield 9, 3) := by decide +kernel
theorem dX10_visitorIt_23 : decode cX10_visitorIt 23 = .ok (.iconst 1, 1) := by decide +kernel
theorem dX10_visitorIt_24 : decode cX10_visitorIt 24 = .ok (.iaload, 1) := by decide +kernel
theorem dX10_visitorIt_25 : decode cX10_visitorIt 25 = .ok (.iconst 5, 1) := by decide +kernel
theorem dX10_visitorIt_26 : decode cX10_visitorIt 26 = .ok (.if_icmp .ne 11, 3) := by decide +kernel
theorem dX10_visitorIt_29 : decode cX10_visitorIt 29 = .ok (.aload_n 0, 1) := by decide +kernel
theorem dX10_visitorIt_30 : decode cX10_visitorIt 30 = .ok (.bipush 13, 2) := by decide +kernel
theorem dX10_visitorIt_32 : decode cX10_visitorIt 32 = .ok (.iconst 5, 1) := by decide +kernel
theorem dX10_visitorIt_33 : decode cX10_visitorIt 33 = .ok (.invokevirtual 91, 3) := by decide +kernel
theorem dX10_visitorIt_36 : decode cX10_visitorIt 36 = .ok (.ireturn, 1) := by decide +kernel
theorem dX10_visitorIt_37 : decode cX10_visitorIt 37 = .ok (.aload_n 0, 1) := by decide +kernel
theorem dX10_visitorIt_38 : decode cX10_visitorIt 38 = .ok (.iconst 0, 1) := by decide +kernel
theorem dX10_visitorIt_39 : decode cX10_visitorIt 39 = .ok (.bipush 15, 2) := by decide +kernel
theorem dX10_visitorIt_41 : decode cX10_visitorIt 41 = .ok (.invokevirtual 142, 3) := by decide +kernel
theorem dX10_visitorIt_44 : decode cX10_visitorIt 44 = .ok (.istore_n 2, 1) := by decide +kernel
theorem dX10_visitorIt_45 : decode cX10_visitorIt 45 = .ok (.iload_n 2, 1) := by decide +kernel
theorem dX10_visitorIt_46 : decode cX10_visitorIt 46 = .ok (.iconst (-1), 1) := by decide +kernel
theorem dX10_visitorIt_47 : decode cX10_visitorIt 47 = .ok (.if_icmp .ne 18, 3) := by decide +kernel
theorem dX10_visitorIt_50 : decode cX10_visitorIt 50 = .ok (.aload_n 0, 1) := by decide +kernel
theorem dX10_visitorIt_51 : decode cX10_visitorIt 51 = .ok (.bipush 6, 2) := by decide +kernel
theorem dX10_visitorIt_53 : decode cX10_visitorIt 53 = .ok (.aload_n 0, 1) := by decide +kernel
theorem dX10_visitorIt_54 : decode cX10_visitorIt 54 = .ok (.iconst 0, 1) := by decide +kernel
theorem dX10_visitorIt_55 : decode cX10_visitorIt 55 = .ok (.invokevirtual 145, 3) := by decide +kernel
theorem dX10_visitorIt_58 : decode cX10_visitorIt 58 = .ok (.invokestatic 148, 3) := by decide +kernel
theorem dX10_visitorIt_61 : decode cX10_visitorIt 61 = .ok (.invokevirtual 91, 3) := by decide +kernel
theorem dX10_visitorIt_64 : decode cX10_visitorIt 64 = .ok (.ireturn, 1) := by decide +kernel
theorem dX10_visitorIt_65 : decode cX10_visitorIt 65 = .ok (.aload_n 0, 1) := by decide +kernel
theorem dX10_visitorIt_66 : decode cX10_visitorIt 66 = .ok (.getfield 9, 3) := by decide +kernel
theorem dX10_visitorIt_69 : decode cX10_visitorIt 69 = .ok (.iconst 1, 1) := by decide +kernel
theorem dX10_visitorIt_70 : decode cX10_visitorIt 70 = .ok (.iaload, 1) := by decide +kernel
theorem dX10_visitorIt_71 : decode cX10_visitorIt 71 = .ok (.invokestatic 126, 3) := by decide +kernel
theorem dX10_visitorIt_74 : decode cX10_visitorIt 74 = .ok (.istore_n 3, 1) := by decide +kernel
theorem dX10_visitorIt_75 : decode cX10_visitorIt 75 = .ok (.aload_n 0, 1) := by decide +kernel
theorem dX10_visitorIt_76 : decode cX10_visitorIt 76 = .ok (.getfield 9, 3) := by decide +kernel
theorem dX10_visitorIt_79 : decode cX10_visitorIt 79 = .ok (.iload_n 3, 1) := by decide +kernel
theorem dX10_visitorIt_80 : decode cX10_visitorIt 80 = .ok (.iload_n 1, 1) := by decide +kernel
theorem dX10_visitorIt_81 : decode cX10_visitorIt 81 = .ok (.iastore, 1) := by decide +kernel
theorem dX10_visitorIt_82 : decode cX10_visitorIt 82 = .ok (.aload_n 0, 1) := by decide +kernel
theorem dX10_visitorIt_83 : decode cX10_visitorIt 83 = .ok (.getfield 9, 3) := by decide +kernel
theorem dX10_visitorIt_86 : decode cX10_visitorIt 86 = .ok (.iload_n 3, 1) := by decide +kernel
theorem dX10_visitorIt_87 : decode cX10_visitorIt 87 = .ok (.iconst 3, 1) := by decide +kernel
theorem dX10_visitorIt_88 : decode cX10_visitorIt 88 = .ok (.iadd, 1) := by decide +kernel
theorem dX10_visitorIt_89 : decode cX10_visitorIt 89 = .ok (.iload_n 2, 1) := by decide +kernel
theorem dX10_visitorIt_90 : decode cX10_visitorIt 90 = .ok (.iastore, 1) := by decide +kernel
theorem dX10_visitorIt_91 : decode cX10_visitorIt 91 = .ok (.aload_n 0, 1) := by decide +kernel
theorem dX10_visitorIt_92 : decode cX10_visitorIt 92 = .ok (.getfield 9, 3) := by decide +kernel
theorem dX10_visitorIt_95 : decode cX10_visitorIt 95 = .ok (.iload_n 3, 1) := by decide +kernel
theorem dX10_visitorIt_96 : decode cX10_visitorIt 96 = .ok (.iconst 4, 1) := by decide +kernel
theorem dX10_visitorIt_97 : decode cX10_visitorIt 97 = .ok (.iadd, 1) := by decide +kernel
theorem dX10_visitorIt_98 : decode cX10_visitorIt 98 = .ok (.iconst (-1), 1) := by decide +kernel
theorem dX10_visitorIt_99 : decode cX10_visitorIt 99 = .ok (.iastore, 1) := by decide +kernel
theorem dX10_visitorIt_100 : decode cX10_visitorIt 100 = .ok (.aload_n 0, 1) := by decide +kernel
theorem dX10_visitorIt_101 : decode cX10_visitorIt 101 = .ok (.getfield 9, 3) := by decide +kernel
theorem dX10_visitorIt_104 : decode cX10_visitorIt 104 = .ok (.iconst 4, 1) := by decide +kernel
theorem dX10_visitorIt_105 : decode cX10_visitorIt 105 = .ok (.dup2, 1) := by decide +kernel
theorem dX10_visitorIt_106 : decode cX10_visitorIt 106 = .ok (.iaload, 1) := by decide +kernel
theorem dX10_visitorIt_107 : decode cX10_visitorIt 107 = .ok (.iload_n 1, 1) := by decide +kernel
theorem dX10_visitorIt_108 : decode cX10_visitorIt 108 = .ok (.iadd, 1) := by decide +kernel
theorem dX10_visitorIt_109 : decode cX10_visitorIt 109 = .ok (.iastore, 1) := by decide +kernel
theorem dX10_visitorIt_110 : decode cX10_visitorIt 110 = .ok (.aload_n 0, 1) := by decide +kernel
theorem dX10_visitorIt_111 : decode cX10_visitorIt 111 = .ok (.getfield 9, 3) := by decide +kernel
theorem dX10_visitorIt_114 : decode cX10_visitorIt 114 = .ok (.iconst 1, 1) := by decide +kernel
theorem dX10_visitorIt_115 : decode cX10_visitorIt 115 = .ok (.dup2, 1) := by decide +kernel
theorem dX10_visitorIt_116 : decode cX10_visitorIt 116 = .ok (.iaload, 1) := by decide +kernel
theorem dX10_visitorIt_117 : decode cX10_visitorIt 117 = .ok (.iconst 1, 1) := by decide +kernel
theorem dX10_visitorIt_118 : decode cX10_visitorIt 118 = .ok (.iadd, 1) := by decide +kernel
theorem dX10_visitorIt_119 : decode cX10_visitorIt 119 = .ok (.iastore, 1) := by decide +kernel
theorem dX10_visitorIt_120 : decode cX10_visitorIt 120 = .ok (.aload_n 0, 1) := by decide +kernel
theorem dX10_visitorIt_121 : decode cX10_visitorIt 121 = .ok (.getfield 9, 3) := by decide +kernel
theorem dX10_visitorIt_124 : decode cX10_visitorIt 124 = .ok (.iconst 1, 1) := by decide +kernel
theorem dX10_visitorIt_125 : decode cX10_visitorIt 125 = .ok (.iaload, 1) := by decide +kernel
theorem dX10_visitorIt_126 : decode cX10_visitorIt 126 = .ok (.iconst 1, 1) := by decide +kernel
theorem dX10_visitorIt_127 : decode cX10_visitorIt 127 = .ok (.isub, 1) := by decide +kernel
theorem dX10_visitorIt_128 : decode cX10_visitorIt 128 = .ok (.ireturn, 1) := by decide +kernel
theorem dX10_visitor_0 : decode cX10_visitor 0 = .ok (.aload_n 0, 1) := by decide +kernel
theorem dX10_visitor_1 : decode cX10_visitor 1 = .ok (.invokevirtual 100, 3) := by decide +kernel
theorem dX10_visitor_4 : decode cX10_visitor 4 = .ok (.aload_n 0, 1) := by decide +kernel
theorem dX10_visitor_5 : decode cX10_visitor 5 = .ok (.aload_n 0, 1) := by decide +kernel
theorem dX10_visitor_6 : decode cX10_visitor 6 = .ok (.iload_n 1, 1) := by decide +kernel
theorem dX10_visitor_7 : decode cX10_visitor 7 = .ok (.invokevirtual 151, 3) := by decide +kernel
theorem dX10_visitor_10 : decode cX10_visitor 10 = .ok (.invokevirtual 107, 3) := by decide +kernel
theorem dX10_visitor_13 : decode cX10_visitor 13 = .ok (.ireturn, 1) := by decide +kernel
theorem dX10_bondIt_0 : decode cX10_bondIt 0 = .ok (.aload_n 0, 1) := by decide +kernel
theorem dX10_bondIt_1 : decode cX10_bondIt 1 = .ok (.iload_n 1, 1) := by decide +kernel
theorem dX10_bondIt_2 : decode cX10_bondIt 2 = .ok (.invokevirtual 117, 3) := by decide +kernel
theorem dX10_bondIt_5 : decode cX10_bondIt 5 = .ok (.ifCond .ne 15, 3) := by decide +kernel
theorem dX10_bondIt_8 : decode cX10_bondIt 8 = .ok (.aload_n 0, 1) := by decide +kernel
theorem dX10_bondIt_9 : decode cX10_bondIt 9 = .ok (.iconst 4, 1) := by decide +kernel
theorem dX10_bondIt_10 : decode cX10_bondIt 10 = .ok (.aload_n 0, 1) := by decide +kernel
theorem dX10_bondIt_11 : decode cX10_bondIt 11 = .ok (.getfield 9, 3) := by decide +kernel
theorem dX10_bondIt_14 : decode cX10_bondIt 14 = .ok (.iconst 0, 1) := by decide +kernel
theorem dX10_bondIt_15 : decode cX10_bondIt 15 = .ok (.iaload, 1) := by decide +kernel
theorem dX10_bondIt_16 : decode cX10_bondIt 16 = .ok (.invokevirtual 91, 3) := by decide +kernel
theorem dX10_bondIt_19 : decode cX10_bondIt 19 = .ok (.ireturn, 1) := by decide +kernel
theorem dX10_bondIt_20 : decode cX10_bondIt 20 = .ok (.aload_n 0, 1) := by decide +kernel
theorem dX10_bondIt_21 : decode cX10_bondIt 21 = .ok (.iload_n 2, 1) := by decide +kernel
theorem dX10_bondIt_22 : decode cX10_bondIt 22 = .ok (.invokevirtual 154, 3) := by decide +kernel
theorem dX10_bondIt_25 : decode cX10_bondIt 25 = .ok (.ifCond .ne 16, 3) := by decide +kernel
theorem dX10_bondIt_28 : decode cX10_bondIt 28 = .ok (.aload_n 0, 1) := by decide +kernel
theorem dX10_bondIt_29 : decode cX10_bondIt 29 = .ok (.bipush 7, 2) := by decide +kernel
theorem dX10_bondIt_31 : decode cX10_bondIt 31 = .ok (.aload_n 0, 1) := by decide +kernel
theorem dX10_bondIt_32 : decode cX10_bondIt 32 = .ok (.getfield 9, 3) := by decide +kernel
theorem dX10_bondIt_35 : decode cX10_bondIt 35 = .ok (.iconst 1, 1) := by decide +kernel
theorem dX10_bondIt_36 : decode cX10_bondIt 36 = .ok (.iaload, 1) := by decide +kernel
theorem dX10_bondIt_37 : decode cX10_bondIt 37 = .ok (.invokevirtual 91, 3) := by decide +kernel
theorem dX10_bondIt_40 : decode cX10_bondIt 40 = .ok (.ireturn, 1) := by decide +kernel
theorem dX10_bondIt_41 : decode cX10_bondIt 41 = .ok (.iload_n 3, 1) := by decide +kernel
theorem dX10_bondIt_42 : decode cX10_bondIt 42 = .ok (.i2l, 1) := by decide +kernel
theorem dX10_bondIt_43 : decode cX10_bondIt 43 = .ok (.lconst 1, 1) := by decide +kernel
theorem dX10_bondIt_44 : decode cX10_bondIt 44 = .ok (.ldc2_w 157, 3) := by decide +kernel
theorem dX10_bondIt_47 : decode cX10_bondIt 47 = .ok (.invokestatic 59, 3) := by decide +kernel
theorem dX10_bondIt_50 : decode cX10_bondIt 50 = .ok (.ifCond .ne 10, 3) := by decide +kernel
theorem dX10_bondIt_53 : decode cX10_bondIt 53 = .ok (.aload_n 0, 1) := by decide +kernel
theorem dX10_bondIt_54 : decode cX10_bondIt 54 = .ok (.iconst 1, 1) := by decide +kernel
theorem dX10_bondIt_55 : decode cX10_bondIt 55 = .ok (.iconst 0, 1) := by decide +kernel
theorem dX10_bondIt_56 : decode cX10_bondIt 56 = .ok (.invokevirtual 91, 3) := by decide +kernel
theorem dX10_bondIt_59 : decode cX10_bondIt 59 = .ok (.ireturn, 1) := by decide +kernel
theorem dX10_bondIt_60 : decode cX10_bondIt 60 = .ok (.iload_n 2, 1) := by decide +kernel
theorem dX10_bondIt_61 : decode cX10_bondIt 61 = .ok (.invokestatic 126, 3) := by decide +kernel
theorem dX10_bondIt_64 : decode cX10_bondIt 64 = .ok (.istore 4, 2) := by decide +kernel
theorem dX10_bondIt_66 : decode cX10_bondIt 66 = .ok (.aload_n 0, 1) := by decide +kernel
theorem dX10_bondIt_67 : decode cX10_bondIt 67 = .ok (.getfield 9, 3) := by decide +kernel
theorem dX10_bondIt_70 : decode cX10_bondIt 70 = .ok (.iload 4, 2) := by decide +kernel
theorem dX10_bondIt_72 : decode cX10_bondIt 72 = .ok (.bipush 7, 2) := by decide +kernel
theorem dX10_bondIt_74 : decode cX10_bondIt 74 = .ok (.iadd, 1) := by decide +kernel
theorem dX10_bondIt_75 : decode cX10_bondIt 75 = .ok (.iaload, 1) := by decide +kernel
theorem dX10_bondIt_76 : decode cX10_bondIt 76 = .ok (.iconst 1, 1) := by decide +kernel
theorem dX10_bondIt_77 : decode cX10_bondIt 77 = .ok (.if_icmp .ne 19, 3) := by decide +kernel
theorem dX10_bondIt_80 : decode cX10_bondIt 80 = .ok (.aload_n 0, 1) := by decide +kernel
theorem dX10_bondIt_81 : decode cX10_bondIt 81 = .ok (.bipush 9, 2) := by decide +kernel
theorem dX10_bondIt_83 : decode cX10_bondIt 83 = .ok (.aload_n 0, 1) := by decide +kernel
theorem dX10_bondIt_84 : decode cX10_bondIt 84 = .ok (.getfield 9, 3) := by decide +kernel
theorem dX10_bondIt_87 : decode cX10_bondIt 87 = .ok (.iload 4, 2) := by decide +kernel
theorem dX10_bondIt_89 : decode cX10_bondIt 89 = .ok (.iconst 2, 1) := by decide +kernel
theorem dX10_bondIt_90 : decode cX10_bondIt 90 = .ok (.iadd, 1) := by decide +kernel
theorem dX10_bondIt_91 : decode cX10_bondIt 91 = .ok (.iaload, 1) := by decide +kernel
theorem dX10_bondIt_92 : decode cX10_bondIt 92 = .ok (.invokevirtual 91, 3) := by decide +kernel
theorem dX10_bondIt_95 : decode cX10_bondIt 95 = .ok (.ireturn, 1) := by decide +kernel
theorem dX10_bondIt_96 : decode cX10_bondIt 96 = .ok (.aload_n 0, 1) := by decide +kernel
theorem dX10_bondIt_97 : decode cX10_bondIt 97 = .ok (.getfield 9, 3) := by decide +kernel
theorem dX10_bondIt_100 : decode cX10_bondIt 100 = .ok (.iload 4, 2) := by decide +kernel
theorem dX10_bondIt_102 : decode cX10_bondIt 102 = .ok (.iconst 4, 1) := by decide +kernel
theorem dX10_bondIt_103 : decode cX10_bondIt 103 = .ok (.iadd, 1) := by decide +kernel
theorem dX10_bondIt_104 : decode cX10_bondIt 104 = .ok (.iaload, 1) := by decide +kernel
theorem dX10_bondIt_105 : decode cX10_bondIt 105 = .ok (.iconst (-1), 1) := by decide +kernel
theorem dX10_bondIt_106 : decode cX10_bondIt 106 = .ok (.if_icmp .eq 19, 3) := by decide +kernel
theorem dX10_bondIt_109 : decode cX10_bondIt 109 = .ok (.aload_n 0, 1) := by decide +kernel
theorem dX10_bondIt_110 : decode cX10_bondIt 110 = .ok (.bipush 8, 2) := by decide +kernel
theorem dX10_bondIt_112 : decode cX10_bondIt 112 = .ok (.aload_n 0, 1) := by decide +kernel
theorem dX10_bondIt_113 : decode cX10_bondIt 113 = .ok (.getfield 9, 3) := by decide +kernel
theorem dX10_bondIt_116 : decode cX10_bondIt 116 = .ok (.iload 4, 2) := by decide +kernel
theorem dX10_bondIt_118 : decode cX10_bondIt 118 = .ok (.iconst 4, 1) := by decide +kernel
theorem dX10_bondIt_119 : decode cX10_bondIt 119 = .ok (.iadd, 1) := by decide +kernel
theorem dX10_bondIt_120 : decode cX10_bondIt 120 = .ok (.iaload, 1) := by decide +kernel
theorem dX10_bondIt_121 : decode cX10_bondIt 121 = .ok (.invokevirtual 91, 3) := by decide +kernel
theorem dX10_bondIt_124 : decode cX10_bondIt 124 = .ok (.ireturn, 1) := by decide +kernel
theorem dX10_bondIt_125 : decode cX10_bondIt 125 = .ok (.aload_n 0, 1) := by decide +kernel
theorem dX10_bondIt_126 : decode cX10_bondIt 126 = .ok (.iload_n 2, 1) := by decide +kernel
theorem dX10_bondIt_127 : decode cX10_bondIt 127 = .ok (.invokevirtual 131, 3) := by decide +kernel
theorem dX10_bondIt_130 : decode cX10_bondIt 130 = .ok (.ifCond .eq 16, 3) := by decide +kernel
theorem dX10_bondIt_133 : decode cX10_bondIt 133 = .ok (.aload_n 0, 1) := by decide +kernel
theorem dX10_bondIt_134 : decode cX10_bondIt 134 = .ok (.bipush 10, 2) := by decide +kernel
theorem dX10_bondIt_136 : decode cX10_bondIt 136 = .ok (.aload_n 0, 1) := by decide +kernel
theorem dX10_bondIt_137 : decode cX10_bondIt 137 = .ok (.getfield 9, 3) := by decide +kernel
theorem dX10_bondIt_140 : decode cX10_bondIt 140 = .ok (.iconst 2, 1) := by decide +kernel
theorem dX10_bondIt_141 : decode cX10_bondIt 141 = .ok (.iaload, 1) := by decide +kernel
theorem dX10_bondIt_142 : decode cX10_bondIt 142 = .ok (.invokevirtual 91, 3) := by decide +kernel
theorem dX10_bondIt_145 : decode cX10_bondIt 145 = .ok (.ireturn, 1) := by decide +kernel
theorem dX10_bondIt_146 : decode cX10_bondIt 146 = .ok (.aload_n 0, 1) := by decide +kernel
theorem dX10_bondIt_147 : decode cX10_bondIt 147 = .ok (.getfield 9, 3) := by decide +kernel
theorem dX10_bondIt_150 : decode cX10_bondIt 150 = .ok (.iload 4, 2) := by decide +kernel
theorem dX10_bondIt_152 : decode cX10_bondIt 152 = .ok (.iaload, 1) := by decide +kernel
theorem dX10_bondIt_153 : decode cX10_bondIt 153 = .ok (.iconst 2, 1) := by decide +kernel
theorem dX10_bondIt_154 : decode cX10_bondIt 154 = .ok (.iload_n 3, 1) := by decide +kernel
theorem dX10_bondIt_155 : decode cX10_bondIt 155 = .ok (.imul, 1) := by decide +kernel
theorem dX10_bondIt_156 : decode cX10_bondIt 156 = .ok (.if_icmp .ge 20, 3) := by decide +kernel
theorem dX10_bondIt_159 : decode cX10_bondIt 159 = .ok (.aload_n 0, 1) := by decide +kernel
theorem dX10_bondIt_160 : decode cX10_bondIt 160 = .ok (.iconst 5, 1) := by decide +kernel
theorem dX10_bondIt_161 : decode cX10_bondIt 161 = .ok (.iconst 2, 1) := by decide +kernel
theorem dX10_bondIt_162 : decode cX10_bondIt 162 = .ok (.iload_n 3, 1) := by decide +kernel
theorem dX10_bondIt_163 : decode cX10_bondIt 163 = .ok (.imul, 1) := by decide +kernel
theorem dX10_bondIt_164 : decode cX10_bondIt 164 = .ok (.aload_n 0, 1) := by decide +kernel
theorem dX10_bondIt_165 : decode cX10_bondIt 165 = .ok (.getfield 9, 3) := by decide +kernel
theorem dX10_bondIt_168 : decode cX10_bondIt 168 = .ok (.iload 4, 2) := by decide +kernel
theorem dX10_bondIt_170 : decode cX10_bondIt 170 = .ok (.iaload, 1) := by decide +kernel
theorem dX10_bondIt_171 : decode cX10_bondIt 171 = .ok (.isub, 1) := by decide +kernel
theorem dX10_bondIt_172 : decode cX10_bondIt 172 = .ok (.invokevirtual 91, 3) := by decide +kernel
theorem dX10_bondIt_175 : decode cX10_bondIt 175 = .ok (.ireturn, 1) := by decide +kernel
theorem dX10_bondIt_176 : decode cX10_bondIt 176 = .ok (.aload_n 0, 1) := by decide +kernel
theorem dX10_bondIt_177 : decode cX10_bondIt 177 = .ok (.getfield 9, 3) := by decide +kernel
theorem dX10_bondIt_180 : decode cX10_bondIt 180 = .ok (.iload 4, 2) := by decide +kernel
theorem dX10_bondIt_182 : decode cX10_bondIt 182 = .ok (.dup2, 1) := by decide +kernel
theorem dX10_bondIt_183 : decode cX10_bondIt 183 = .ok (.iaload, 1) := by decide +kernel
theorem dX10_bondIt_184 : decode cX10_bondIt 184 = .ok (.iconst 2, 1) := by decide +kernel
theorem dX10_bondIt_185 : decode cX10_bondIt 185 = .ok (.iload_n 3, 1) := by decide +kernel
theorem dX10_bondIt_186 : decode cX10_bondIt 186 = .ok (.imul, 1) := by decide +kernel
theorem dX10_bondIt_187 : decode cX10_bondIt 187 = .ok (.isub, 1) := by decide +kernel
theorem dX10_bondIt_188 : decode cX10_bondIt 188 = .ok (.iastore, 1) := by decide +kernel
theorem dX10_bondIt_189 : decode cX10_bondIt 189 = .ok (.aload_n 0, 1) := by decide +kernel
theorem dX10_bondIt_190 : decode cX10_bondIt 190 = .ok (.getfield 9, 3) := by decide +kernel
theorem dX10_bondIt_193 : decode cX10_bondIt 193 = .ok (.iload 4, 2) := by decide +kernel
theorem dX10_bondIt_195 : decode cX10_bondIt 195 = .ok (.iconst 4, 1) := by decide +kernel
theorem dX10_bondIt_196 : decode cX10_bondIt 196 = .ok (.iadd, 1) := by decide +kernel
theorem dX10_bondIt_197 : decode cX10_bondIt 197 = .ok (.iload_n 1, 1) := by decide +kernel
theorem dX10_bondIt_198 : decode cX10_bondIt 198 = .ok (.iastore, 1) := by decide +kernel
theorem dX10_bondIt_199 : decode cX10_bondIt 199 = .ok (.aload_n 0, 1) := by decide +kernel
theorem dX10_bondIt_200 : decode cX10_bondIt 200 = .ok (.getfield 9, 3) := by decide +kernel
theorem dX10_bondIt_203 : decode cX10_bondIt 203 = .ok (.iload 4, 2) := by decide +kernel
theorem dX10_bondIt_205 : decode cX10_bondIt 205 = .ok (.iconst 5, 1) := by decide +kernel
theorem dX10_bondIt_206 : decode cX10_bondIt 206 = .ok (.iadd, 1) := by decide +kernel
theorem dX10_bondIt_207 : decode cX10_bondIt 207 = .ok (.iload_n 3, 1) := by decide +kernel
theorem dX10_bondIt_208 : decode cX10_bondIt 208 = .ok (.iastore, 1) := by decide +kernel
theorem dX10_bondIt_209 : decode cX10_bondIt 209 = .ok (.aload_n 0, 1) := by decide +kernel
theorem dX10_bondIt_210 : decode cX10_bondIt 210 = .ok (.getfield 9, 3) := by decide +kernel
theorem dX10_bondIt_213 : decode cX10_bondIt 213 = .ok (.iload_n 1, 1) := by decide +kernel
theorem dX10_bondIt_214 : decode cX10_bondIt 214 = .ok (.invokestatic 120, 3) := by decide +kernel
theorem dX10_bondIt_217 : decode cX10_bondIt 217 = .ok (.dup2, 1) := by decide +kernel
theorem dX10_bondIt_218 : decode cX10_bondIt 218 = .ok (.iaload, 1) := by decide +kernel
theorem dX10_bondIt_219 : decode cX10_bondIt 219 = .ok (.iconst 2, 1) := by decide +kernel
theorem dX10_bondIt_220 : decode cX10_bondIt 220 = .ok (.iload_n 3, 1) := by decide +kernel
theorem dX10_bondIt_221 : decode cX10_bondIt 221 = .ok (.imul, 1) := by decide +kernel
theorem dX10_bondIt_222 : decode cX10_bondIt 222 = .ok (.iadd, 1) := by decide +kernel
theorem dX10_bondIt_223 : decode cX10_bondIt 223 = .ok (.iastore, 1) := by decide +kernel
theorem dX10_bondIt_224 : decode cX10_bondIt 224 = .ok (.aload_n 0, 1) := by decide +kernel
theorem dX10_bondIt_225 : decode cX10_bondIt 225 = .ok (.getfield 9, 3) := by decide +kernel
theorem dX10_bondIt_228 : decode cX10_bondIt 228 = .ok (.iload_n 1, 1) := by decide +kernel
theorem dX10_bondIt_229 : decode cX10_bondIt 229 = .ok (.invokestatic 120, 3) := by decide +kernel
theorem dX10_bondIt_232 : decode cX10_bondIt 232 = .ok (.iconst 1, 1) := by decide +kernel
theorem dX10_bondIt_233 : decode cX10_bondIt 233 = .ok (.iadd, 1) := by decide +kernel
theorem dX10_bondIt_234 : decode cX10_bondIt 234 = .ok (.dup2, 1) := by decide +kernel
theorem dX10_bondIt_235 : decode cX10_bondIt 235 = .ok (.iaload, 1) := by decide +kernel
theorem dX10_bondIt_236 : decode cX10_bondIt 236 = .ok (.iconst 2, 1) := by decide +kernel
theorem dX10_bondIt_237 : decode cX10_bondIt 237 = .ok (.iload_n 3, 1) := by decide +kernel
theorem dX10_bondIt_238 : decode cX10_bondIt 238 = .ok (.imul, 1) := by decide +kernel
theorem dX10_bondIt_239 : decode cX10_bondIt 239 = .ok (.iadd, 1) := by decide +kernel
theorem dX10_bondIt_240 : decode cX10_bondIt 240 = .ok (.iastore, 1) := by decide +kernel
theorem dX10_bondIt_241 : decode cX10_bondIt 241 = .ok (.aload_n 0, 1) := by decide +kernel
theorem dX10_bondIt_242 : decode cX10_bondIt 242 = .ok (.getfield 9, 3) := by decide +kernel
theorem dX10_bondIt_245 : decode cX10_bondIt 245 = .ok (.iload 4, 2) := by decide +kernel
theorem dX10_bondIt_247 : decode cX10_bondIt 247 = .ok (.iaload, 1) := by decide +kernel
theorem dX10_bondIt_248 : decode cX10_bondIt 248 = .ok (.ireturn, 1) := by decide +kernel
theorem dX10_bond_0 : decode cX10_bond 0 = .ok (.aload_n 0, 1) := by decide +kernel
theorem dX10_bond_1 : decode cX10_bond 1 = .ok (.invokevirtual 100, 3) := by decide +kernel
theorem dX10_bond_4 : decode cX10_bond 4 = .ok (.aload_n 0, 1) := by decide +kernel
theorem dX10_bond_5 : decode cX10_bond 5 = .ok (.aload_n 0, 1) := by decide +kernel
theorem dX10_bond_6 : decode cX10_bond 6 = .ok (.iload_n 1, 1) := by decide +kernel
theorem dX10_bond_7 : decode cX10_bond 7 = .ok (.iload_n 2, 1) := by decide +kernel
theorem dX10_bond_8 : decode cX10_bond 8 = .ok (.iload_n 3, 1) := by decide +kernel
theorem dX10_bond_9 : decode cX10_bond 9 = .ok (.invokevirtual 159, 3) := by decide +kernel
theorem dX10_bond_12 : decode cX10_bond 12 = .ok (.invokevirtual 107, 3) := by decide +kernel
theorem dX10_bond_15 : decode cX10_bond 15 = .ok (.ireturn, 1) := by decide +kernel
theorem dX10_lostOf_0 : decode cX10_lostOf 0 = .ok (.iload_n 1, 1) := by decide +kernel
theorem dX10_lostOf_1 : decode cX10_lostOf 1 = .ok (.invokestatic 126, 3) := by decide +kernel
theorem dX10_lostOf_4 : decode cX10_lostOf 4 = .ok (.istore_n 2, 1) := by decide +kernel
theorem dX10_lostOf_5 : decode cX10_lostOf 5 = .ok (.iconst 0, 1) := by decide +kernel
theorem dX10_lostOf_6 : decode cX10_lostOf 6 = .ok (.aload_n 0, 1) := by decide +kernel
theorem dX10_lostOf_7 : decode cX10_lostOf 7 = .ok (.getfield 9, 3) := by decide +kernel
theorem dX10_lostOf_10 : decode cX10_lostOf 10 = .ok (.iload_n 2, 1) := by decide +kernel
theorem dX10_lostOf_11 : decode cX10_lostOf 11 = .ok (.iconst 2, 1) := by decide +kernel
theorem dX10_lostOf_12 : decode cX10_lostOf 12 = .ok (.iadd, 1) := by decide +kernel
theorem dX10_lostOf_13 : decode cX10_lostOf 13 = .ok (.iaload, 1) := by decide +kernel
theorem dX10_lostOf_14 : decode cX10_lostOf 14 = .ok (.aload_n 0, 1) := by decide +kernel
theorem dX10_lostOf_15 : decode cX10_lostOf 15 = .ok (.getfield 9, 3) := by decide +kernel
theorem dX10_lostOf_18 : decode cX10_lostOf 18 = .ok (.iload_n 2, 1) := by decide +kernel
theorem dX10_lostOf_19 : decode cX10_lostOf 19 = .ok (.iconst 3, 1) := by decide +kernel
theorem dX10_lostOf_20 : decode cX10_lostOf 20 = .ok (.iadd, 1) := by decide +kernel
theorem dX10_lostOf_21 : decode cX10_lostOf 21 = .ok (.iaload, 1) := by decide +kernel
theorem dX10_lostOf_22 : decode cX10_lostOf 22 = .ok (.isub, 1) := by decide +kernel
theorem dX10_lostOf_23 : decode cX10_lostOf 23 = .ok (.invokestatic 71, 3) := by decide +kernel
theorem dX10_lostOf_26 : decode cX10_lostOf 26 = .ok (.ireturn, 1) := by decide +kernel
theorem dX10_pays_0 : decode cX10_pays 0 = .ok (.iload_n 1, 1) := by decide +kernel
theorem dX10_pays_1 : decode cX10_pays 1 = .ok (.invokestatic 126, 3) := by decide +kernel
theorem dX10_pays_4 : decode cX10_pays 4 = .ok (.istore_n 3, 1) := by decide +kernel
theorem dX10_pays_5 : decode cX10_pays 5 = .ok (.aload_n 0, 1) := by decide +kernel
theorem dX10_pays_6 : decode cX10_pays 6 = .ok (.getfield 9, 3) := by decide +kernel
theorem dX10_pays_9 : decode cX10_pays 9 = .ok (.iload_n 3, 1) := by decide +kernel
theorem dX10_pays_10 : decode cX10_pays 10 = .ok (.iconst 4, 1) := by decide +kernel
theorem dX10_pays_11 : decode cX10_pays 11 = .ok (.iadd, 1) := by decide +kernel
theorem dX10_pays_12 : decode cX10_pays 12 = .ok (.iaload, 1) := by decide +kernel
theorem dX10_pays_13 : decode cX10_pays 13 = .ok (.iconst (-1), 1) := by decide +kernel
theorem dX10_pays_14 : decode cX10_pays 14 = .ok (.if_icmp .eq 16, 3) := by decide +kernel
theorem dX10_pays_17 : decode cX10_pays 17 = .ok (.aload_n 0, 1) := by decide +kernel
theorem dX10_pays_18 : decode cX10_pays 18 = .ok (.getfield 9, 3) := by decide +kernel
theorem dX10_pays_21 : decode cX10_pays 21 = .ok (.iload_n 3, 1) := by decide +kernel
theorem dX10_pays_22 : decode cX10_pays 22 = .ok (.bipush 6, 2) := by decide +kernel
theorem dX10_pays_24 : decode cX10_pays 24 = .ok (.iadd, 1) := by decide +kernel
theorem dX10_pays_25 : decode cX10_pays 25 = .ok (.iaload, 1) := by decide +kernel
theorem dX10_pays_26 : decode cX10_pays 26 = .ok (.iconst 1, 1) := by decide +kernel
theorem dX10_pays_27 : decode cX10_pays 27 = .ok (.if_icmp .ne 7, 3) := by decide +kernel
theorem dX10_pays_30 : decode cX10_pays 30 = .ok (.iconst 1, 1) := by decide +kernel
theorem dX10_pays_31 : decode cX10_pays 31 = .ok (.goto 4, 3) := by decide +kernel
theorem dX10_pays_34 : decode cX10_pays 34 = .ok (.iconst 0, 1) := by decide +kernel
theorem dX10_pays_35 : decode cX10_pays 35 = .ok (.istore 4, 2) := by decide +kernel
theorem dX10_pays_37 : decode cX10_pays 37 = .ok (.iload 4, 2) := by decide +kernel
theorem dX10_pays_39 : decode cX10_pays 39 = .ok (.ifCond .eq 7, 3) := by decide +kernel
theorem dX10_pays_42 : decode cX10_pays 42 = .ok (.iconst 0, 1) := by decide +kernel
theorem dX10_pays_43 : decode cX10_pays 43 = .ok (.goto 32, 3) := by decide +kernel
theorem dX10_pays_46 : decode cX10_pays 46 = .ok (.aload_n 0, 1) := by decide +kernel
theorem dX10_pays_47 : decode cX10_pays 47 = .ok (.getfield 9, 3) := by decide +kernel
theorem dX10_pays_50 : decode cX10_pays 50 = .ok (.iload_n 3, 1) := by decide +kernel
theorem dX10_pays_51 : decode cX10_pays 51 = .ok (.iconst 5, 1) := by decide +kernel
theorem dX10_pays_52 : decode cX10_pays 52 = .ok (.iadd, 1) := by decide +kernel
theorem dX10_pays_53 : decode cX10_pays 53 = .ok (.iaload, 1) := by decide +kernel
theorem dX10_pays_54 : decode cX10_pays 54 = .ok (.iload_n 2, 1) := by decide +kernel
theorem dX10_pays_55 : decode cX10_pays 55 = .ok (.imul, 1) := by decide +kernel
theorem dX10_pays_56 : decode cX10_pays 56 = .ok (.aload_n 0, 1) := by decide +kernel
theorem dX10_pays_57 : decode cX10_pays 57 = .ok (.getfield 9, 3) := by decide +kernel
theorem dX10_pays_60 : decode cX10_pays 60 = .ok (.aload_n 0, 1) := by decide +kernel
theorem dX10_pays_61 : decode cX10_pays 61 = .ok (.getfield 9, 3) := by decide +kernel
theorem dX10_pays_64 : decode cX10_pays 64 = .ok (.iload_n 3, 1) := by decide +kernel
theorem dX10_pays_65 : decode cX10_pays 65 = .ok (.iconst 4, 1) := by decide +kernel
theorem dX10_pays_66 : decode cX10_pays 66 = .ok (.iadd, 1) := by decide +kernel
theorem dX10_pays_67 : decode cX10_pays 67 = .ok (.iaload, 1) := by decide +kernel
theorem dX10_pays_68 : decode cX10_pays 68 = .ok (.invokestatic 120, 3) := by decide +kernel
theorem dX10_pays_71 : decode cX10_pays 71 = .ok (.iaload, 1) := by decide +kernel
theorem dX10_pays_72 : decode cX10_pays 72 = .ok (.invokestatic 65, 3) := by decide +kernel
theorem dX10_pays_75 : decode cX10_pays 75 = .ok (.ireturn, 1) := by decide +kernel
theorem dX10_walkIt_0 : decode cX10_walkIt 0 = .ok (.aload_n 0, 1) := by decide +kernel
theorem dX10_walkIt_1 : decode cX10_walkIt 1 = .ok (.iload_n 1, 1) := by decide +kernel
theorem dX10_walkIt_2 : decode cX10_walkIt 2 = .ok (.invokevirtual 154, 3) := by decide +kernel
theorem dX10_walkIt_5 : decode cX10_walkIt 5 = .ok (.ifCond .ne 16, 3) := by decide +kernel
theorem dX10_walkIt_8 : decode cX10_walkIt 8 = .ok (.aload_n 0, 1) := by decide +kernel
theorem dX10_walkIt_9 : decode cX10_walkIt 9 = .ok (.bipush 7, 2) := by decide +kernel
theorem dX10_walkIt_11 : decode cX10_walkIt 11 = .ok (.aload_n 0, 1) := by decide +kernel
theorem dX10_walkIt_12 : decode cX10_walkIt 12 = .ok (.getfield 9, 3) := by decide +kernel
theorem dX10_walkIt_15 : decode cX10_walkIt 15 = .ok (.iconst 1, 1) := by decide +kernel
theorem dX10_walkIt_16 : decode cX10_walkIt 16 = .ok (.iaload, 1) := by decide +kernel
theorem dX10_walkIt_17 : decode cX10_walkIt 17 = .ok (.invokevirtual 91, 3) := by decide +kernel
theorem dX10_walkIt_20 : decode cX10_walkIt 20 = .ok (.ireturn, 1) := by decide +kernel
theorem dX10_walkIt_21 : decode cX10_walkIt 21 = .ok (.iload_n 2, 1) := by decide +kernel
theorem dX10_walkIt_22 : decode cX10_walkIt 22 = .ok (.i2l, 1) := by decide +kernel
theorem dX10_walkIt_23 : decode cX10_walkIt 23 = .ok (.lconst 0, 1) := by decide +kernel
theorem dX10_walkIt_24 : decode cX10_walkIt 24 = .ok (.ldc2_w 63, 3) := by decide +kernel
theorem dX10_walkIt_27 : decode cX10_walkIt 27 = .ok (.invokestatic 59, 3) := by decide +kernel
theorem dX10_walkIt_30 : decode cX10_walkIt 30 = .ok (.ifCond .ne 10, 3) := by decide +kernel
theorem dX10_walkIt_33 : decode cX10_walkIt 33 = .ok (.aload_n 0, 1) := by decide +kernel
theorem dX10_walkIt_34 : decode cX10_walkIt 34 = .ok (.iconst 1, 1) := by decide +kernel
theorem dX10_walkIt_35 : decode cX10_walkIt 35 = .ok (.iconst 0, 1) := by decide +kernel
theorem dX10_walkIt_36 : decode cX10_walkIt 36 = .ok (.invokevirtual 91, 3) := by decide +kernel
theorem dX10_walkIt_39 : decode cX10_walkIt 39 = .ok (.ireturn, 1) := by decide +kernel
theorem dX10_walkIt_40 : decode cX10_walkIt 40 = .ok (.iload_n 1, 1) := by decide +kernel
theorem dX10_walkIt_41 : decode cX10_walkIt 41 = .ok (.invokestatic 126, 3) := by decide +kernel
theorem dX10_walkIt_44 : decode cX10_walkIt 44 = .ok (.istore_n 3, 1) := by decide +kernel
theorem dX10_walkIt_45 : decode cX10_walkIt 45 = .ok (.aload_n 0, 1) := by decide +kernel
theorem dX10_walkIt_46 : decode cX10_walkIt 46 = .ok (.getfield 9, 3) := by decide +kernel
theorem dX10_walkIt_49 : decode cX10_walkIt 49 = .ok (.iload_n 3, 1) := by decide +kernel
theorem dX10_walkIt_50 : decode cX10_walkIt 50 = .ok (.bipush 7, 2) := by decide +kernel
theorem dX10_walkIt_52 : decode cX10_walkIt 52 = .ok (.iadd, 1) := by decide +kernel
theorem dX10_walkIt_53 : decode cX10_walkIt 53 = .ok (.iaload, 1) := by decide +kernel
theorem dX10_walkIt_54 : decode cX10_walkIt 54 = .ok (.iconst 1, 1) := by decide +kernel
theorem dX10_walkIt_55 : decode cX10_walkIt 55 = .ok (.if_icmp .ne 18, 3) := by decide +kernel
theorem dX10_walkIt_58 : decode cX10_walkIt 58 = .ok (.aload_n 0, 1) := by decide +kernel
theorem dX10_walkIt_59 : decode cX10_walkIt 59 = .ok (.bipush 9, 2) := by decide +kernel
theorem dX10_walkIt_61 : decode cX10_walkIt 61 = .ok (.aload_n 0, 1) := by decide +kernel
theorem dX10_walkIt_62 : decode cX10_walkIt 62 = .ok (.getfield 9, 3) := by decide +kernel
theorem dX10_walkIt_65 : decode cX10_walkIt 65 = .ok (.iload_n 3, 1) := by decide +kernel
theorem dX10_walkIt_66 : decode cX10_walkIt 66 = .ok (.iconst 2, 1) := by decide +kernel
theorem dX10_walkIt_67 : decode cX10_walkIt 67 = .ok (.iadd, 1) := by decide +kernel
theorem dX10_walkIt_68 : decode cX10_walkIt 68 = .ok (.iaload, 1) := by decide +kernel
theorem dX10_walkIt_69 : decode cX10_walkIt 69 = .ok (.invokevirtual 91, 3) := by decide +kernel
theorem dX10_walkIt_72 : decode cX10_walkIt 72 = .ok (.ireturn, 1) := by decide +kernel
theorem dX10_walkIt_73 : decode cX10_walkIt 73 = .ok (.aload_n 0, 1) := by decide +kernel
