theorem dX10_commands_131 : decode cX10_commands 131 = .ok (.iconst 1, 1) := by decide +kernel
theorem dX10_commands_132 : decode cX10_commands 132 = .ok (.invokevirtual 50, 3) := by decide +kernel
theorem dX10_commands_135 : decode cX10_commands 135 = .ok (.ireturn, 1) := by decide +kernel
theorem dX10_commands_136 : decode cX10_commands 136 = .ok (.iconst 0, 1) := by decide +kernel
theorem dX10_commands_137 : decode cX10_commands 137 = .ok (.istore_n 2, 1) := by decide +kernel
theorem dX10_commands_138 : decode cX10_commands 138 = .ok (.iload_n 2, 1) := by decide +kernel
theorem dX10_commands_139 : decode cX10_commands 139 = .ok (.aload_n 0, 1) := by decide +kernel
theorem dX10_commands_140 : decode cX10_commands 140 = .ok (.getfield 225, 3) := by decide +kernel
theorem dX10_commands_143 : decode cX10_commands 143 = .ok (.if_icmp .ge 60, 3) := by decide +kernel
theorem dX10_commands_146 : decode cX10_commands 146 = .ok (.aload_n 0, 1) := by decide +kernel
theorem dX10_commands_147 : decode cX10_commands 147 = .ok (.iconst 4, 1) := by decide +kernel
theorem dX10_commands_148 : decode cX10_commands 148 = .ok (.iload_n 2, 1) := by decide +kernel
theorem dX10_commands_149 : decode cX10_commands 149 = .ok (.imul, 1) := by decide +kernel
theorem dX10_commands_150 : decode cX10_commands 150 = .ok (.invokevirtual 238, 3) := by decide +kernel
theorem dX10_commands_153 : decode cX10_commands 153 = .ok (.aload_n 0, 1) := by decide +kernel
theorem dX10_commands_154 : decode cX10_commands 154 = .ok (.getfield 38, 3) := by decide +kernel
theorem dX10_commands_157 : decode cX10_commands 157 = .ok (.ifCond .le 40, 3) := by decide +kernel
theorem dX10_commands_160 : decode cX10_commands 160 = .ok (.iconst 0, 1) := by decide +kernel
theorem dX10_commands_161 : decode cX10_commands 161 = .ok (.istore_n 3, 1) := by decide +kernel
theorem dX10_commands_162 : decode cX10_commands 162 = .ok (.iload_n 3, 1) := by decide +kernel
theorem dX10_commands_163 : decode cX10_commands 163 = .ok (.bipush 86, 2) := by decide +kernel
theorem dX10_commands_165 : decode cX10_commands 165 = .ok (.if_icmp .ge 21, 3) := by decide +kernel
theorem dX10_commands_168 : decode cX10_commands 168 = .ok (.aload_n 0, 1) := by decide +kernel
theorem dX10_commands_169 : decode cX10_commands 169 = .ok (.getfield 9, 3) := by decide +kernel
theorem dX10_commands_172 : decode cX10_commands 172 = .ok (.iload_n 3, 1) := by decide +kernel
theorem dX10_commands_173 : decode cX10_commands 173 = .ok (.aload_n 0, 1) := by decide +kernel
theorem dX10_commands_174 : decode cX10_commands 174 = .ok (.getfield 13, 3) := by decide +kernel
theorem dX10_commands_177 : decode cX10_commands 177 = .ok (.iload_n 3, 1) := by decide +kernel
theorem dX10_commands_178 : decode cX10_commands 178 = .ok (.iaload, 1) := by decide +kernel
theorem dX10_commands_179 : decode cX10_commands 179 = .ok (.iastore, 1) := by decide +kernel
theorem dX10_commands_180 : decode cX10_commands 180 = .ok (.iinc 3 1, 3) := by decide +kernel
theorem dX10_commands_183 : decode cX10_commands 183 = .ok (.goto (-21), 3) := by decide +kernel
theorem dX10_commands_186 : decode cX10_commands 186 = .ok (.aload_n 0, 1) := by decide +kernel
theorem dX10_commands_187 : decode cX10_commands 187 = .ok (.iload_n 2, 1) := by decide +kernel
theorem dX10_commands_188 : decode cX10_commands 188 = .ok (.putfield 47, 3) := by decide +kernel
theorem dX10_commands_191 : decode cX10_commands 191 = .ok (.aload_n 0, 1) := by decide +kernel
theorem dX10_commands_192 : decode cX10_commands 192 = .ok (.iconst 2, 1) := by decide +kernel
theorem dX10_commands_193 : decode cX10_commands 193 = .ok (.invokevirtual 50, 3) := by decide +kernel
theorem dX10_commands_196 : decode cX10_commands 196 = .ok (.ireturn, 1) := by decide +kernel
theorem dX10_commands_197 : decode cX10_commands 197 = .ok (.iinc 2 1, 3) := by decide +kernel
theorem dX10_commands_200 : decode cX10_commands 200 = .ok (.goto (-62), 3) := by decide +kernel
theorem dX10_commands_203 : decode cX10_commands 203 = .ok (.aload_n 0, 1) := by decide +kernel
theorem dX10_commands_204 : decode cX10_commands 204 = .ok (.aload_n 0, 1) := by decide +kernel
theorem dX10_commands_205 : decode cX10_commands 205 = .ok (.getfield 225, 3) := by decide +kernel
theorem dX10_commands_208 : decode cX10_commands 208 = .ok (.invokevirtual 107, 3) := by decide +kernel
theorem dX10_commands_211 : decode cX10_commands 211 = .ok (.ireturn, 1) := by decide +kernel
theorem dX10_faultPosition_0 : decode cX10_faultPosition 0 = .ok (.aload_n 0, 1) := by decide +kernel
theorem dX10_faultPosition_1 : decode cX10_faultPosition 1 = .ok (.iconst 0, 1) := by decide +kernel
theorem dX10_faultPosition_2 : decode cX10_faultPosition 2 = .ok (.putfield 38, 3) := by decide +kernel
theorem dX10_faultPosition_5 : decode cX10_faultPosition 5 = .ok (.aload_n 0, 1) := by decide +kernel
theorem dX10_faultPosition_6 : decode cX10_faultPosition 6 = .ok (.getfield 22, 3) := by decide +kernel
theorem dX10_faultPosition_9 : decode cX10_faultPosition 9 = .ok (.ireturn, 1) := by decide +kernel
theorem dX10_reason_0 : decode cX10_reason 0 = .ok (.aload_n 0, 1) := by decide +kernel
theorem dX10_reason_1 : decode cX10_reason 1 = .ok (.iconst 0, 1) := by decide +kernel
theorem dX10_reason_2 : decode cX10_reason 2 = .ok (.putfield 38, 3) := by decide +kernel
theorem dX10_reason_5 : decode cX10_reason 5 = .ok (.iload_n 1, 1) := by decide +kernel
theorem dX10_reason_6 : decode cX10_reason 6 = .ok (.i2l, 1) := by decide +kernel
theorem dX10_reason_7 : decode cX10_reason 7 = .ok (.lconst 0, 1) := by decide +kernel
theorem dX10_reason_8 : decode cX10_reason 8 = .ok (.ldc2_w 241, 3) := by decide +kernel
theorem dX10_reason_11 : decode cX10_reason 11 = .ok (.invokestatic 59, 3) := by decide +kernel
theorem dX10_reason_14 : decode cX10_reason 14 = .ok (.ifCond .ne 9, 3) := by decide +kernel
theorem dX10_reason_17 : decode cX10_reason 17 = .ok (.aload_n 0, 1) := by decide +kernel
theorem dX10_reason_18 : decode cX10_reason 18 = .ok (.iconst 1, 1) := by decide +kernel
theorem dX10_reason_19 : decode cX10_reason 19 = .ok (.invokevirtual 50, 3) := by decide +kernel
theorem dX10_reason_22 : decode cX10_reason 22 = .ok (.ireturn, 1) := by decide +kernel
theorem dX10_reason_23 : decode cX10_reason 23 = .ok (.aload_n 0, 1) := by decide +kernel
theorem dX10_reason_24 : decode cX10_reason 24 = .ok (.getfield 41, 3) := by decide +kernel
theorem dX10_reason_27 : decode cX10_reason 27 = .ok (.ifCond .ne 9, 3) := by decide +kernel
theorem dX10_reason_30 : decode cX10_reason 30 = .ok (.aload_n 0, 1) := by decide +kernel
theorem dX10_reason_31 : decode cX10_reason 31 = .ok (.iconst 2, 1) := by decide +kernel
theorem dX10_reason_32 : decode cX10_reason 32 = .ok (.invokevirtual 50, 3) := by decide +kernel
theorem dX10_reason_35 : decode cX10_reason 35 = .ok (.ireturn, 1) := by decide +kernel
theorem dX10_reason_36 : decode cX10_reason 36 = .ok (.iload_n 1, 1) := by decide +kernel
theorem dX10_reason_37 : decode cX10_reason 37 = .ok (.ifCond .ne 10, 3) := by decide +kernel
theorem dX10_reason_40 : decode cX10_reason 40 = .ok (.aload_n 0, 1) := by decide +kernel
theorem dX10_reason_41 : decode cX10_reason 41 = .ok (.getfield 41, 3) := by decide +kernel
theorem dX10_reason_44 : decode cX10_reason 44 = .ok (.goto 19, 3) := by decide +kernel
theorem dX10_reason_47 : decode cX10_reason 47 = .ok (.iload_n 1, 1) := by decide +kernel
theorem dX10_reason_48 : decode cX10_reason 48 = .ok (.iconst 1, 1) := by decide +kernel
theorem dX10_reason_49 : decode cX10_reason 49 = .ok (.if_icmp .ne 10, 3) := by decide +kernel
theorem dX10_reason_52 : decode cX10_reason 52 = .ok (.aload_n 0, 1) := by decide +kernel
theorem dX10_reason_53 : decode cX10_reason 53 = .ok (.getfield 44, 3) := by decide +kernel
theorem dX10_reason_56 : decode cX10_reason 56 = .ok (.goto 7, 3) := by decide +kernel
theorem dX10_reason_59 : decode cX10_reason 59 = .ok (.aload_n 0, 1) := by decide +kernel
theorem dX10_reason_60 : decode cX10_reason 60 = .ok (.getfield 47, 3) := by decide +kernel
theorem dX10_reason_63 : decode cX10_reason 63 = .ok (.ireturn, 1) := by decide +kernel
theorem dX10_sign_0 : decode cX10_sign 0 = .ok (.aload_n 0, 1) := by decide +kernel
theorem dX10_sign_1 : decode cX10_sign 1 = .ok (.getfield 35, 3) := by decide +kernel
theorem dX10_sign_4 : decode cX10_sign 4 = .ok (.aload_n 0, 1) := by decide +kernel
theorem dX10_sign_5 : decode cX10_sign 5 = .ok (.getfield 243, 3) := by decide +kernel
theorem dX10_sign_8 : decode cX10_sign 8 = .ok (.iload_n 1, 1) := by decide +kernel
theorem dX10_sign_9 : decode cX10_sign 9 = .ok (.iastore, 1) := by decide +kernel
theorem dX10_sign_10 : decode cX10_sign 10 = .ok (.aload_n 0, 1) := by decide +kernel
theorem dX10_sign_11 : decode cX10_sign 11 = .ok (.dup, 1) := by decide +kernel
theorem dX10_sign_12 : decode cX10_sign 12 = .ok (.getfield 243, 3) := by decide +kernel
theorem dX10_sign_15 : decode cX10_sign 15 = .ok (.iconst 1, 1) := by decide +kernel
theorem dX10_sign_16 : decode cX10_sign 16 = .ok (.iadd, 1) := by decide +kernel
theorem dX10_sign_17 : decode cX10_sign 17 = .ok (.putfield 243, 3) := by decide +kernel
theorem dX10_sign_20 : decode cX10_sign 20 = .ok (.return_, 1) := by decide +kernel
theorem dX10_writesNumber_0 : decode cX10_writesNumber 0 = .ok (.iconst 1, 1) := by decide +kernel
theorem dX10_writesNumber_1 : decode cX10_writesNumber 1 = .ok (.istore_n 2, 1) := by decide +kernel
theorem dX10_writesNumber_2 : decode cX10_writesNumber 2 = .ok (.iload_n 1, 1) := by decide +kernel
theorem dX10_writesNumber_3 : decode cX10_writesNumber 3 = .ok (.iload_n 2, 1) := by decide +kernel
theorem dX10_writesNumber_4 : decode cX10_writesNumber 4 = .ok (.idiv, 1) := by decide +kernel
theorem dX10_writesNumber_5 : decode cX10_writesNumber 5 = .ok (.bipush 9, 2) := by decide +kernel
theorem dX10_writesNumber_7 : decode cX10_writesNumber 7 = .ok (.if_icmp .le 11, 3) := by decide +kernel
theorem dX10_writesNumber_10 : decode cX10_writesNumber 10 = .ok (.iload_n 2, 1) := by decide +kernel
theorem dX10_writesNumber_11 : decode cX10_writesNumber 11 = .ok (.bipush 10, 2) := by decide +kernel
theorem dX10_writesNumber_13 : decode cX10_writesNumber 13 = .ok (.imul, 1) := by decide +kernel
theorem dX10_writesNumber_14 : decode cX10_writesNumber 14 = .ok (.istore_n 2, 1) := by decide +kernel
theorem dX10_writesNumber_15 : decode cX10_writesNumber 15 = .ok (.goto (-13), 3) := by decide +kernel
theorem dX10_writesNumber_18 : decode cX10_writesNumber 18 = .ok (.iload_n 2, 1) := by decide +kernel
theorem dX10_writesNumber_19 : decode cX10_writesNumber 19 = .ok (.istore_n 3, 1) := by decide +kernel
theorem dX10_writesNumber_20 : decode cX10_writesNumber 20 = .ok (.iload_n 3, 1) := by decide +kernel
theorem dX10_writesNumber_21 : decode cX10_writesNumber 21 = .ok (.ifCond .le 24, 3) := by decide +kernel
theorem dX10_writesNumber_24 : decode cX10_writesNumber 24 = .ok (.aload_n 0, 1) := by decide +kernel
theorem dX10_writesNumber_25 : decode cX10_writesNumber 25 = .ok (.bipush 48, 2) := by decide +kernel
theorem dX10_writesNumber_27 : decode cX10_writesNumber 27 = .ok (.iload_n 1, 1) := by decide +kernel
theorem dX10_writesNumber_28 : decode cX10_writesNumber 28 = .ok (.iload_n 3, 1) := by decide +kernel
theorem dX10_writesNumber_29 : decode cX10_writesNumber 29 = .ok (.idiv, 1) := by decide +kernel
theorem dX10_writesNumber_30 : decode cX10_writesNumber 30 = .ok (.bipush 10, 2) := by decide +kernel
theorem dX10_writesNumber_32 : decode cX10_writesNumber 32 = .ok (.irem, 1) := by decide +kernel
theorem dX10_writesNumber_33 : decode cX10_writesNumber 33 = .ok (.iadd, 1) := by decide +kernel
theorem dX10_writesNumber_34 : decode cX10_writesNumber 34 = .ok (.invokevirtual 246, 3) := by decide +kernel
theorem dX10_writesNumber_37 : decode cX10_writesNumber 37 = .ok (.iload_n 3, 1) := by decide +kernel
theorem dX10_writesNumber_38 : decode cX10_writesNumber 38 = .ok (.bipush 10, 2) := by decide +kernel
theorem dX10_writesNumber_40 : decode cX10_writesNumber 40 = .ok (.idiv, 1) := by decide +kernel
theorem dX10_writesNumber_41 : decode cX10_writesNumber 41 = .ok (.istore_n 3, 1) := by decide +kernel
theorem dX10_writesNumber_42 : decode cX10_writesNumber 42 = .ok (.goto (-22), 3) := by decide +kernel
theorem dX10_writesNumber_45 : decode cX10_writesNumber 45 = .ok (.return_, 1) := by decide +kernel
theorem dX10_line_0 : decode cX10_line 0 = .ok (.aload_n 0, 1) := by decide +kernel
theorem dX10_line_1 : decode cX10_line 1 = .ok (.iconst 0, 1) := by decide +kernel
theorem dX10_line_2 : decode cX10_line 2 = .ok (.putfield 38, 3) := by decide +kernel
theorem dX10_line_5 : decode cX10_line 5 = .ok (.aload_n 0, 1) := by decide +kernel
theorem dX10_line_6 : decode cX10_line 6 = .ok (.iload_n 1, 1) := by decide +kernel
theorem dX10_line_7 : decode cX10_line 7 = .ok (.invokevirtual 154, 3) := by decide +kernel
theorem dX10_line_10 : decode cX10_line 10 = .ok (.ifCond .ne 9, 3) := by decide +kernel
theorem dX10_line_13 : decode cX10_line 13 = .ok (.aload_n 0, 1) := by decide +kernel
theorem dX10_line_14 : decode cX10_line 14 = .ok (.iconst 1, 1) := by decide +kernel
theorem dX10_line_15 : decode cX10_line 15 = .ok (.invokevirtual 50, 3) := by decide +kernel
theorem dX10_line_18 : decode cX10_line 18 = .ok (.ireturn, 1) := by decide +kernel
theorem dX10_line_19 : decode cX10_line 19 = .ok (.iload_n 1, 1) := by decide +kernel
theorem dX10_line_20 : decode cX10_line 20 = .ok (.invokestatic 126, 3) := by decide +kernel
theorem dX10_line_23 : decode cX10_line 23 = .ok (.istore_n 2, 1) := by decide +kernel
theorem dX10_line_24 : decode cX10_line 24 = .ok (.aload_n 0, 1) := by decide +kernel
theorem dX10_line_25 : decode cX10_line 25 = .ok (.iconst 0, 1) := by decide +kernel
theorem dX10_line_26 : decode cX10_line 26 = .ok (.putfield 243, 3) := by decide +kernel
theorem dX10_line_29 : decode cX10_line 29 = .ok (.aload_n 0, 1) := by decide +kernel
theorem dX10_line_30 : decode cX10_line 30 = .ok (.getfield 9, 3) := by decide +kernel
theorem dX10_line_33 : decode cX10_line 33 = .ok (.iload_n 2, 1) := by decide +kernel
theorem dX10_line_34 : decode cX10_line 34 = .ok (.bipush 7, 2) := by decide +kernel
theorem dX10_line_36 : decode cX10_line 36 = .ok (.iadd, 1) := by decide +kernel
theorem dX10_line_37 : decode cX10_line 37 = .ok (.iaload, 1) := by decide +kernel
theorem dX10_line_38 : decode cX10_line 38 = .ok (.iconst 1, 1) := by decide +kernel
theorem dX10_line_39 : decode cX10_line 39 = .ok (.if_icmp .ne 24, 3) := by decide +kernel
theorem dX10_line_42 : decode cX10_line 42 = .ok (.aload_n 0, 1) := by decide +kernel
theorem dX10_line_43 : decode cX10_line 43 = .ok (.bipush 111, 2) := by decide +kernel
theorem dX10_line_45 : decode cX10_line 45 = .ok (.invokevirtual 246, 3) := by decide +kernel
theorem dX10_line_48 : decode cX10_line 48 = .ok (.aload_n 0, 1) := by decide +kernel
theorem dX10_line_49 : decode cX10_line 49 = .ok (.bipush 117, 2) := by decide +kernel
theorem dX10_line_51 : decode cX10_line 51 = .ok (.invokevirtual 246, 3) := by decide +kernel
theorem dX10_line_54 : decode cX10_line 54 = .ok (.aload_n 0, 1) := by decide +kernel
theorem dX10_line_55 : decode cX10_line 55 = .ok (.bipush 116, 2) := by decide +kernel
theorem dX10_line_57 : decode cX10_line 57 = .ok (.invokevirtual 246, 3) := by decide +kernel
theorem dX10_line_60 : decode cX10_line 60 = .ok (.goto 15, 3) := by decide +kernel
theorem dX10_line_63 : decode cX10_line 63 = .ok (.aload_n 0, 1) := by decide +kernel
theorem dX10_line_64 : decode cX10_line 64 = .ok (.aload_n 0, 1) := by decide +kernel
theorem dX10_line_65 : decode cX10_line 65 = .ok (.getfield 9, 3) := by decide +kernel
theorem dX10_line_68 : decode cX10_line 68 = .ok (.iload_n 2, 1) := by decide +kernel
theorem dX10_line_69 : decode cX10_line 69 = .ok (.iconst 1, 1) := by decide +kernel
theorem dX10_line_70 : decode cX10_line 70 = .ok (.iadd, 1) := by decide +kernel
theorem dX10_line_71 : decode cX10_line 71 = .ok (.iaload, 1) := by decide +kernel
theorem dX10_line_72 : decode cX10_line 72 = .ok (.invokevirtual 249, 3) := by decide +kernel
theorem dX10_line_75 : decode cX10_line 75 = .ok (.aload_n 0, 1) := by decide +kernel
theorem dX10_line_76 : decode cX10_line 76 = .ok (.bipush 43, 2) := by decide +kernel
theorem dX10_line_78 : decode cX10_line 78 = .ok (.invokevirtual 246, 3) := by decide +kernel
theorem dX10_line_81 : decode cX10_line 81 = .ok (.aload_n 0, 1) := by decide +kernel
theorem dX10_line_82 : decode cX10_line 82 = .ok (.aload_n 0, 1) := by decide +kernel
theorem dX10_line_83 : decode cX10_line 83 = .ok (.getfield 9, 3) := by decide +kernel
theorem dX10_line_86 : decode cX10_line 86 = .ok (.iload_n 2, 1) := by decide +kernel
theorem dX10_line_87 : decode cX10_line 87 = .ok (.iconst 2, 1) := by decide +kernel
theorem dX10_line_88 : decode cX10_line 88 = .ok (.iadd, 1) := by decide +kernel
theorem dX10_line_89 : decode cX10_line 89 = .ok (.iaload, 1) := by decide +kernel
theorem dX10_line_90 : decode cX10_line 90 = .ok (.invokevirtual 249, 3) := by decide +kernel
theorem dX10_line_93 : decode cX10_line 93 = .ok (.aload_n 0, 1) := by decide +kernel
theorem dX10_line_94 : decode cX10_line 94 = .ok (.getfield 9, 3) := by decide +kernel
theorem dX10_line_97 : decode cX10_line 97 = .ok (.iload_n 2, 1) := by decide +kernel
theorem dX10_line_98 : decode cX10_line 98 = .ok (.iconst 4, 1) := by decide +kernel
theorem dX10_line_99 : decode cX10_line 99 = .ok (.iadd, 1) := by decide +kernel
theorem dX10_line_100 : decode cX10_line 100 = .ok (.iaload, 1) := by decide +kernel
theorem dX10_line_101 : decode cX10_line 101 = .ok (.iconst (-1), 1) := by decide +kernel
theorem dX10_line_102 : decode cX10_line 102 = .ok (.if_icmp .eq 58, 3) := by decide +kernel
theorem dX10_line_105 : decode cX10_line 105 = .ok (.aload_n 0, 1) := by decide +kernel
theorem dX10_line_106 : decode cX10_line 106 = .ok (.bipush 35, 2) := by decide +kernel
theorem dX10_line_108 : decode cX10_line 108 = .ok (.invokevirtual 246, 3) := by decide +kernel
theorem dX10_line_111 : decode cX10_line 111 = .ok (.aload_n 0, 1) := by decide +kernel
theorem dX10_line_112 : decode cX10_line 112 = .ok (.aload_n 0, 1) := by decide +kernel
theorem dX10_line_113 : decode cX10_line 113 = .ok (.getfield 9, 3) := by decide +kernel
theorem dX10_line_116 : decode cX10_line 116 = .ok (.iload_n 2, 1) := by decide +kernel
theorem dX10_line_117 : decode cX10_line 117 = .ok (.iconst 4, 1) := by decide +kernel
theorem dX10_line_118 : decode cX10_line 118 = .ok (.iadd, 1) := by decide +kernel
theorem dX10_line_119 : decode cX10_line 119 = .ok (.iaload, 1) := by decide +kernel
theorem dX10_line_120 : decode cX10_line 120 = .ok (.invokevirtual 249, 3) := by decide +kernel
theorem dX10_line_123 : decode cX10_line 123 = .ok (.aload_n 0, 1) := by decide +kernel
theorem dX10_line_124 : decode cX10_line 124 = .ok (.bipush 42, 2) := by decide +kernel
theorem dX10_line_126 : decode cX10_line 126 = .ok (.invokevirtual 246, 3) := by decide +kernel
theorem dX10_line_129 : decode cX10_line 129 = .ok (.aload_n 0, 1) := by decide +kernel
theorem dX10_line_130 : decode cX10_line 130 = .ok (.aload_n 0, 1) := by decide +kernel
theorem dX10_line_131 : decode cX10_line 131 = .ok (.getfield 9, 3) := by decide +kernel
theorem dX10_line_134 : decode cX10_line 134 = .ok (.iload_n 2, 1) := by decide +kernel
theorem dX10_line_135 : decode cX10_line 135 = .ok (.iconst 5, 1) := by decide +kernel
theorem dX10_line_136 : decode cX10_line 136 = .ok (.iadd, 1) := by decide +kernel
theorem dX10_line_137 : decode cX10_line 137 = .ok (.iaload, 1) := by decide +kernel
theorem dX10_line_138 : decode cX10_line 138 = .ok (.invokevirtual 249, 3) := by decide +kernel
theorem dX10_line_141 : decode cX10_line 141 = .ok (.aload_n 0, 1) := by decide +kernel
theorem dX10_line_142 : decode cX10_line 142 = .ok (.getfield 9, 3) := by decide +kernel
theorem dX10_line_145 : decode cX10_line 145 = .ok (.iload_n 2, 1) := by decide +kernel
theorem dX10_line_146 : decode cX10_line 146 = .ok (.bipush 6, 2) := by decide +kernel
theorem dX10_line_148 : decode cX10_line 148 = .ok (.iadd, 1) := by decide +kernel
theorem dX10_line_149 : decode cX10_line 149 = .ok (.iaload, 1) := by decide +kernel
theorem dX10_line_150 : decode cX10_line 150 = .ok (.iconst 1, 1) := by decide +kernel
theorem dX10_line_151 : decode cX10_line 151 = .ok (.if_icmp .ne 9, 3) := by decide +kernel
theorem dX10_line_154 : decode cX10_line 154 = .ok (.aload_n 0, 1) := by decide +kernel
theorem dX10_line_155 : decode cX10_line 155 = .ok (.bipush 33, 2) := by decide +kernel
theorem dX10_line_157 : decode cX10_line 157 = .ok (.invokevirtual 246, 3) := by decide +kernel
theorem dX10_line_160 : decode cX10_line 160 = .ok (.aload_n 0, 1) := by decide +kernel
theorem dX10_line_161 : decode cX10_line 161 = .ok (.getfield 243, 3) := by decide +kernel
theorem dX10_line_164 : decode cX10_line 164 = .ok (.ireturn, 1) := by decide +kernel
theorem dX10_visitorsIn_0 : decode cX10_visitorsIn 0 = .ok (.iconst 0, 1) := by decide +kernel
theorem dX10_visitorsIn_1 : decode cX10_visitorsIn 1 = .ok (.istore_n 2, 1) := by decide +kernel
theorem dX10_visitorsIn_2 : decode cX10_visitorsIn 2 = .ok (.iconst 0, 1) := by decide +kernel
theorem dX10_visitorsIn_3 : decode cX10_visitorsIn 3 = .ok (.istore_n 3, 1) := by decide +kernel
theorem dX10_visitorsIn_4 : decode cX10_visitorsIn 4 = .ok (.iload_n 3, 1) := by decide +kernel
theorem dX10_visitorsIn_5 : decode cX10_visitorsIn 5 = .ok (.aload_n 0, 1) := by decide +kernel
theorem dX10_visitorsIn_6 : decode cX10_visitorsIn 6 = .ok (.getfield 9, 3) := by decide +kernel
theorem dX10_visitorsIn_9 : decode cX10_visitorsIn 9 = .ok (.iconst 1, 1) := by decide +kernel
theorem dX10_visitorsIn_10 : decode cX10_visitorsIn 10 = .ok (.iaload, 1) := by decide +kernel
theorem dX10_visitorsIn_11 : decode cX10_visitorsIn 11 = .ok (.if_icmp .ge 47, 3) := by decide +kernel
theorem dX10_visitorsIn_14 : decode cX10_visitorsIn 14 = .ok (.iload_n 2, 1) := by decide +kernel
theorem dX10_visitorsIn_15 : decode cX10_visitorsIn 15 = .ok (.aload_n 0, 1) := by decide +kernel
theorem dX10_visitorsIn_16 : decode cX10_visitorsIn 16 = .ok (.getfield 9, 3) := by decide +kernel
theorem dX10_visitorsIn_19 : decode cX10_visitorsIn 19 = .ok (.iload_n 3, 1) := by decide +kernel
theorem dX10_visitorsIn_20 : decode cX10_visitorsIn 20 = .ok (.invokestatic 126, 3) := by decide +kernel
theorem dX10_visitorsIn_23 : decode cX10_visitorsIn 23 = .ok (.bipush 7, 2) := by decide +kernel
theorem dX10_visitorsIn_25 : decode cX10_visitorsIn 25 = .ok (.iadd, 1) := by decide +kernel
theorem dX10_visitorsIn_26 : decode cX10_visitorsIn 26 = .ok (.iaload, 1) := by decide +kernel
theorem dX10_visitorsIn_27 : decode cX10_visitorsIn 27 = .ok (.ifCond .ne 22, 3) := by decide +kernel
theorem dX10_visitorsIn_30 : decode cX10_visitorsIn 30 = .ok (.aload_n 0, 1) := by decide +kernel
theorem dX10_visitorsIn_31 : decode cX10_visitorsIn 31 = .ok (.getfield 9, 3) := by decide +kernel
theorem dX10_visitorsIn_34 : decode cX10_visitorsIn 34 = .ok (.iload_n 3, 1) := by decide +kernel
theorem dX10_visitorsIn_35 : decode cX10_visitorsIn 35 = .ok (.invokestatic 126, 3) := by decide +kernel
theorem dX10_visitorsIn_38 : decode cX10_visitorsIn 38 = .ok (.iconst 1, 1) := by decide +kernel
theorem dX10_visitorsIn_39 : decode cX10_visitorsIn 39 = .ok (.iadd, 1) := by decide +kernel
theorem dX10_visitorsIn_40 : decode cX10_visitorsIn 40 = .ok (.iaload, 1) := by decide +kernel
theorem dX10_visitorsIn_41 : decode cX10_visitorsIn 41 = .ok (.iload_n 1, 1) := by decide +kernel
theorem dX10_visitorsIn_42 : decode cX10_visitorsIn 42 = .ok (.if_icmp .ne 7, 3) := by decide +kernel
theorem dX10_visitorsIn_45 : decode cX10_visitorsIn 45 = .ok (.iconst 1, 1) := by decide +kernel
theorem dX10_visitorsIn_46 : decode cX10_visitorsIn 46 = .ok (.goto 4, 3) := by decide +kernel
theorem dX10_visitorsIn_49 : decode cX10_visitorsIn 49 = .ok (.iconst 0, 1) := by decide +kernel
theorem dX10_visitorsIn_50 : decode cX10_visitorsIn 50 = .ok (.iadd, 1) := by decide +kernel
theorem dX10_visitorsIn_51 : decode cX10_visitorsIn 51 = .ok (.istore_n 2, 1) := by decide +kernel
theorem dX10_visitorsIn_52 : decode cX10_visitorsIn 52 = .ok (.iinc 3 1, 3) := by decide +kernel
theorem dX10_visitorsIn_55 : decode cX10_visitorsIn 55 = .ok (.goto (-51), 3) := by decide +kernel
theorem dX10_visitorsIn_58 : decode cX10_visitorsIn 58 = .ok (.iload_n 2, 1) := by decide +kernel
theorem dX10_visitorsIn_59 : decode cX10_visitorsIn 59 = .ok (.ireturn, 1) := by decide +kernel
theorem dX10_row_0 : decode cX10_row 0 = .ok (.aload_n 0, 1) := by decide +kernel
theorem dX10_row_1 : decode cX10_row 1 = .ok (.iconst 0, 1) := by decide +kernel
theorem dX10_row_2 : decode cX10_row 2 = .ok (.putfield 38, 3) := by decide +kernel
theorem dX10_row_5 : decode cX10_row 5 = .ok (.iload_n 1, 1) := by decide +kernel
theorem dX10_row_6 : decode cX10_row 6 = .ok (.i2l, 1) := by decide +kernel
theorem dX10_row_7 : decode cX10_row 7 = .ok (.lconst 0, 1) := by decide +kernel
theorem dX10_row_8 : decode cX10_row 8 = .ok (.ldc2_w 63, 3) := by decide +kernel
theorem dX10_row_11 : decode cX10_row 11 = .ok (.invokestatic 59, 3) := by decide +kernel
theorem dX10_row_14 : decode cX10_row 14 = .ok (.ifCond .ne 9, 3) := by decide +kernel
theorem dX10_row_17 : decode cX10_row 17 = .ok (.aload_n 0, 1) := by decide +kernel
theorem dX10_row_18 : decode cX10_row 18 = .ok (.iconst 1, 1) := by decide +kernel
theorem dX10_row_19 : decode cX10_row 19 = .ok (.invokevirtual 50, 3) := by decide +kernel
theorem dX10_row_22 : decode cX10_row 22 = .ok (.ireturn, 1) := by decide +kernel
theorem dX10_row_23 : decode cX10_row 23 = .ok (.aload_n 0, 1) := by decide +kernel
theorem dX10_row_24 : decode cX10_row 24 = .ok (.iconst 0, 1) := by decide +kernel
theorem dX10_row_25 : decode cX10_row 25 = .ok (.putfield 243, 3) := by decide +kernel
theorem dX10_row_28 : decode cX10_row 28 = .ok (.iconst 4, 1) := by decide +kernel
theorem dX10_row_29 : decode cX10_row 29 = .ok (.iload_n 1, 1) := by decide +kernel
theorem dX10_row_30 : decode cX10_row 30 = .ok (.imul, 1) := by decide +kernel
theorem dX10_row_31 : decode cX10_row 31 = .ok (.istore_n 2, 1) := by decide +kernel
theorem dX10_row_32 : decode cX10_row 32 = .ok (.iload_n 2, 1) := by decide +kernel
theorem dX10_row_33 : decode cX10_row 33 = .ok (.iconst 4, 1) := by decide +kernel
theorem dX10_row_34 : decode cX10_row 34 = .ok (.iload_n 1, 1) := by decide +kernel
theorem dX10_row_35 : decode cX10_row 35 = .ok (.imul, 1) := by decide +kernel
theorem dX10_row_36 : decode cX10_row 36 = .ok (.iconst 4, 1) := by decide +kernel
theorem dX10_row_37 : decode cX10_row 37 = .ok (.iadd, 1) := by decide +kernel
theorem dX10_row_38 : decode cX10_row 38 = .ok (.if_icmp .ge 68, 3) := by decide +kernel
theorem dX10_row_41 : decode cX10_row 41 = .ok (.iload_n 2, 1) := by decide +kernel
theorem dX10_row_42 : decode cX10_row 42 = .ok (.iconst 4, 1) := by decide +kernel
theorem dX10_row_43 : decode cX10_row 43 = .ok (.iload_n 1, 1) := by decide +kernel
theorem dX10_row_44 : decode cX10_row 44 = .ok (.imul, 1) := by decide +kernel
theorem dX10_row_45 : decode cX10_row 45 = .ok (.if_icmp .le 28, 3) := by decide +kernel
theorem dX10_row_48 : decode cX10_row 48 = .ok (.aload_n 0, 1) := by decide +kernel
theorem dX10_row_49 : decode cX10_row 49 = .ok (.aload_n 0, 1) := by decide +kernel
theorem dX10_row_50 : decode cX10_row 50 = .ok (.iload_n 2, 1) := by decide +kernel
theorem dX10_row_51 : decode cX10_row 51 = .ok (.iconst 1, 1) := by decide +kernel
theorem dX10_row_52 : decode cX10_row 52 = .ok (.isub, 1) := by decide +kernel
theorem dX10_row_53 : decode cX10_row 53 = .ok (.iload_n 2, 1) := by decide +kernel
theorem dX10_row_54 : decode cX10_row 54 = .ok (.invokestatic 77, 3) := by decide +kernel
theorem dX10_row_57 : decode cX10_row 57 = .ok (.invokevirtual 80, 3) := by decide +kernel
theorem dX10_row_60 : decode cX10_row 60 = .ok (.ifCond .eq 8, 3) := by decide +kernel
theorem dX10_row_63 : decode cX10_row 63 = .ok (.bipush 32, 2) := by decide +kernel
theorem dX10_row_65 : decode cX10_row 65 = .ok (.goto 5, 3) := by decide +kernel
theorem dX10_row_68 : decode cX10_row 68 = .ok (.bipush 124, 2) := by decide +kernel
theorem dX10_row_70 : decode cX10_row 70 = .ok (.invokevirtual 246, 3) := by decide +kernel
theorem dX10_row_73 : decode cX10_row 73 = .ok (.aload_n 0, 1) := by decide +kernel
theorem dX10_row_74 : decode cX10_row 74 = .ok (.aload_n 0, 1) := by decide +kernel
theorem dX10_row_75 : decode cX10_row 75 = .ok (.getfield 9, 3) := by decide +kernel
theorem dX10_row_78 : decode cX10_row 78 = .ok (.iconst 2, 1) := by decide +kernel
theorem dX10_row_79 : decode cX10_row 79 = .ok (.iaload, 1) := by decide +kernel
theorem dX10_row_80 : decode cX10_row 80 = .ok (.iload_n 2, 1) := by decide +kernel
theorem dX10_row_81 : decode cX10_row 81 = .ok (.if_icmp .ne 8, 3) := by decide +kernel
theorem dX10_row_84 : decode cX10_row 84 = .ok (.bipush 77, 2) := by decide +kernel
theorem dX10_row_86 : decode cX10_row 86 = .ok (.goto 11, 3) := by decide +kernel
theorem dX10_row_89 : decode cX10_row 89 = .ok (.bipush 48, 2) := by decide +kernel
theorem dX10_row_91 : decode cX10_row 91 = .ok (.aload_n 0, 1) := by decide +kernel
theorem dX10_row_92 : decode cX10_row 92 = .ok (.iload_n 2, 1) := by decide +kernel
theorem dX10_row_93 : decode cX10_row 93 = .ok (.invokevirtual 252, 3) := by decide +kernel
theorem dX10_row_96 : decode cX10_row 96 = .ok (.iadd, 1) := by decide +kernel
theorem dX10_row_97 : decode cX10_row 97 = .ok (.invokevirtual 246, 3) := by decide +kernel
theorem dX10_row_100 : decode cX10_row 100 = .ok (.iinc 2 1, 3) := by decide +kernel
theorem dX10_row_103 : decode cX10_row 103 = .ok (.goto (-71), 3) := by decide +kernel
theorem dX10_row_106 : decode cX10_row 106 = .ok (.aload_n 0, 1) := by decide +kernel
theorem dX10_row_107 : decode cX10_row 107 = .ok (.getfield 243, 3) := by decide +kernel
theorem dX10_row_110 : decode cX10_row 110 = .ok (.ireturn, 1) := by decide +kernel
theorem dX10_character_0 : decode cX10_character 0 = .ok (.aload_n 0, 1) := by decide +kernel
theorem dX10_character_1 : decode cX10_character 1 = .ok (.iconst 0, 1) := by decide +kernel
theorem dX10_character_2 : decode cX10_character 2 = .ok (.putfield 38, 3) := by decide +kernel
theorem dX10_character_5 : decode cX10_character 5 = .ok (.iload_n 1, 1) := by decide +kernel
theorem dX10_character_6 : decode cX10_character 6 = .ok (.i2l, 1) := by decide +kernel
theorem dX10_character_7 : decode cX10_character 7 = .ok (.lconst 0, 1) := by decide +kernel
theorem dX10_character_8 : decode cX10_character 8 = .ok (.aload_n 0, 1) := by decide +kernel
theorem dX10_character_9 : decode cX10_character 9 = .ok (.getfield 243, 3) := by decide +kernel
theorem dX10_character_12 : decode cX10_character 12 = .ok (.iconst 1, 1) := by decide +kernel
theorem dX10_character_13 : decode cX10_character 13 = .ok (.isub, 1) := by decide +kernel
theorem dX10_character_14 : decode cX10_character 14 = .ok (.i2l, 1) := by decide +kernel
theorem dX10_character_15 : decode cX10_character 15 = .ok (.invokestatic 59, 3) := by decide +kernel
theorem dX10_character_18 : decode cX10_character 18 = .ok (.ifCond .eq 13, 3) := by decide +kernel
theorem dX10_character_21 : decode cX10_character 21 = .ok (.aload_n 0, 1) := by decide +kernel
theorem dX10_character_22 : decode cX10_character 22 = .ok (.getfield 35, 3) := by decide +kernel
theorem dX10_character_25 : decode cX10_character 25 = .ok (.iload_n 1, 1) := by decide +kernel
theorem dX10_character_26 : decode cX10_character 26 = .ok (.iaload, 1) := by decide +kernel
theorem dX10_character_27 : decode cX10_character 27 = .ok (.i2c, 1) := by decide +kernel
theorem dX10_character_28 : decode cX10_character 28 = .ok (.goto 9, 3) := by decide +kernel
theorem dX10_character_31 : decode cX10_character 31 = .ok (.aload_n 0, 1) := by decide +kernel
theorem dX10_character_32 : decode cX10_character 32 = .ok (.iconst 1, 1) := by decide +kernel
theorem dX10_character_33 : decode cX10_character 33 = .ok (.invokevirtual 50, 3) := by decide +kernel
theorem dX10_character_36 : decode cX10_character 36 = .ok (.i2c, 1) := by decide +kernel
theorem dX10_character_37 : decode cX10_character 37 = .ok (.ireturn, 1) := by decide +kernel
theorem dX10_coins_0 : decode cX10_coins 0 = .ok (.iconst 0, 1) := by decide +kernel
theorem dX10_coins_1 : decode cX10_coins 1 = .ok (.istore_n 1, 1) := by decide +kernel
theorem dX10_coins_2 : decode cX10_coins 2 = .ok (.iconst 0, 1) := by decide +kernel
theorem dX10_coins_3 : decode cX10_coins 3 = .ok (.istore_n 2, 1) := by decide +kernel
theorem dX10_coins_4 : decode cX10_coins 4 = .ok (.iload_n 2, 1) := by decide +kernel
theorem dX10_coins_5 : decode cX10_coins 5 = .ok (.aload_n 0, 1) := by decide +kernel
theorem dX10_coins_6 : decode cX10_coins 6 = .ok (.getfield 9, 3) := by decide +kernel
theorem dX10_coins_9 : decode cX10_coins 9 = .ok (.iconst 0, 1) := by decide +kernel
theorem dX10_coins_10 : decode cX10_coins 10 = .ok (.iaload, 1) := by decide +kernel
theorem dX10_coins_11 : decode cX10_coins 11 = .ok (.if_icmp .ge 21, 3) := by decide +kernel
theorem dX10_coins_14 : decode cX10_coins 14 = .ok (.iload_n 1, 1) := by decide +kernel
theorem dX10_coins_15 : decode cX10_coins 15 = .ok (.aload_n 0, 1) := by decide +kernel
theorem dX10_coins_16 : decode cX10_coins 16 = .ok (.getfield 9, 3) := by decide +kernel
theorem dX10_coins_19 : decode cX10_coins 19 = .ok (.iload_n 2, 1) := by decide +kernel
theorem dX10_coins_20 : decode cX10_coins 20 = .ok (.invokestatic 120, 3) := by decide +kernel
theorem dX10_coins_23 : decode cX10_coins 23 = .ok (.iaload, 1) := by decide +kernel
theorem dX10_coins_24 : decode cX10_coins 24 = .ok (.iadd, 1) := by decide +kernel
theorem dX10_coins_25 : decode cX10_coins 25 = .ok (.istore_n 1, 1) := by decide +kernel
theorem dX10_coins_26 : decode cX10_coins 26 = .ok (.iinc 2 1, 3) := by decide +kernel
theorem dX10_coins_29 : decode cX10_coins 29 = .ok (.goto (-25), 3) := by decide +kernel
theorem dX10_coins_32 : decode cX10_coins 32 = .ok (.iconst 0, 1) := by decide +kernel
theorem dX10_coins_33 : decode cX10_coins 33 = .ok (.istore_n 2, 1) := by decide +kernel
theorem dX10_coins_34 : decode cX10_coins 34 = .ok (.iload_n 2, 1) := by decide +kernel
theorem dX10_coins_35 : decode cX10_coins 35 = .ok (.aload_n 0, 1) := by decide +kernel
theorem dX10_coins_36 : decode cX10_coins 36 = .ok (.getfield 9, 3) := by decide +kernel
theorem dX10_coins_39 : decode cX10_coins 39 = .ok (.iconst 1, 1) := by decide +kernel
theorem dX10_coins_40 : decode cX10_coins 40 = .ok (.iaload, 1) := by decide +kernel
theorem dX10_coins_41 : decode cX10_coins 41 = .ok (.if_icmp .ge 21, 3) := by decide +kernel
theorem dX10_coins_44 : decode cX10_coins 44 = .ok (.iload_n 1, 1) := by decide +kernel
theorem dX10_coins_45 : decode cX10_coins 45 = .ok (.aload_n 0, 1) := by decide +kernel
theorem dX10_coins_46 : decode cX10_coins 46 = .ok (.getfield 9, 3) := by decide +kernel
theorem dX10_coins_49 : decode cX10_coins 49 = .ok (.iload_n 2, 1) := by decide +kernel
theorem dX10_coins_50 : decode cX10_coins 50 = .ok (.invokestatic 126, 3) := by decide +kernel
theorem dX10_coins_53 : decode cX10_coins 53 = .ok (.iaload, 1) := by decide +kernel
theorem dX10_coins_54 : decode cX10_coins 54 = .ok (.iadd, 1) := by decide +kernel
theorem dX10_coins_55 : decode cX10_coins 55 = .ok (.istore_n 1, 1) := by decide +kernel
theorem dX10_coins_56 : decode cX10_coins 56 = .ok (.iinc 2 1, 3) := by decide +kernel
theorem dX10_coins_59 : decode cX10_coins 59 = .ok (.goto (-25), 3) := by decide +kernel
theorem dX10_coins_62 : decode cX10_coins 62 = .ok (.iload_n 1, 1) := by decide +kernel
theorem dX10_coins_63 : decode cX10_coins 63 = .ok (.ireturn, 1) := by decide +kernel
theorem dX10_voids_0 : decode cX10_voids 0 = .ok (.iconst 0, 1) := by decide +kernel
theorem dX10_voids_1 : decode cX10_voids 1 = .ok (.istore_n 1, 1) := by decide +kernel
theorem dX10_voids_2 : decode cX10_voids 2 = .ok (.iconst 0, 1) := by decide +kernel
theorem dX10_voids_3 : decode cX10_voids 3 = .ok (.istore_n 2, 1) := by decide +kernel
theorem dX10_voids_4 : decode cX10_voids 4 = .ok (.iload_n 2, 1) := by decide +kernel
theorem dX10_voids_5 : decode cX10_voids 5 = .ok (.aload_n 0, 1) := by decide +kernel
theorem dX10_voids_6 : decode cX10_voids 6 = .ok (.getfield 9, 3) := by decide +kernel
theorem dX10_voids_9 : decode cX10_voids 9 = .ok (.iconst 1, 1) := by decide +kernel
theorem dX10_voids_10 : decode cX10_voids 10 = .ok (.iaload, 1) := by decide +kernel
theorem dX10_voids_11 : decode cX10_voids 11 = .ok (.if_icmp .ge 36, 3) := by decide +kernel
theorem dX10_voids_14 : decode cX10_voids 14 = .ok (.iload_n 1, 1) := by decide +kernel
theorem dX10_voids_15 : decode cX10_voids 15 = .ok (.aload_n 0, 1) := by decide +kernel
theorem dX10_voids_16 : decode cX10_voids 16 = .ok (.iload_n 2, 1) := by decide +kernel
theorem dX10_voids_17 : decode cX10_voids 17 = .ok (.invokevirtual 183, 3) := by decide +kernel
theorem dX10_voids_20 : decode cX10_voids 20 = .ok (.ifCond .eq 18, 3) := by decide +kernel
theorem dX10_voids_23 : decode cX10_voids 23 = .ok (.aload_n 0, 1) := by decide +kernel
theorem dX10_voids_24 : decode cX10_voids 24 = .ok (.getfield 9, 3) := by decide +kernel
theorem dX10_voids_27 : decode cX10_voids 27 = .ok (.iload_n 2, 1) := by decide +kernel
theorem dX10_voids_28 : decode cX10_voids 28 = .ok (.invokestatic 126, 3) := by decide +kernel
theorem dX10_voids_31 : decode cX10_voids 31 = .ok (.bipush 6, 2) := by decide +kernel
theorem dX10_voids_33 : decode cX10_voids 33 = .ok (.iadd, 1) := by decide +kernel
theorem dX10_voids_34 : decode cX10_voids 34 = .ok (.iaload, 1) := by decide +kernel
theorem dX10_voids_35 : decode cX10_voids 35 = .ok (.goto 4, 3) := by decide +kernel
theorem dX10_voids_38 : decode cX10_voids 38 = .ok (.iconst 0, 1) := by decide +kernel
theorem dX10_voids_39 : decode cX10_voids 39 = .ok (.iadd, 1) := by decide +kernel
theorem dX10_voids_40 : decode cX10_voids 40 = .ok (.istore_n 1, 1) := by decide +kernel
theorem dX10_voids_41 : decode cX10_voids 41 = .ok (.iinc 2 1, 3) := by decide +kernel
theorem dX10_voids_44 : decode cX10_voids 44 = .ok (.goto (-40), 3) := by decide +kernel
theorem dX10_voids_47 : decode cX10_voids 47 = .ok (.iload_n 1, 1) := by decide +kernel
theorem dX10_voids_48 : decode cX10_voids 48 = .ok (.ireturn, 1) := by decide +kernel
theorem dX10_outs_0 : decode cX10_outs 0 = .ok (.iconst 0, 1) := by decide +kernel
theorem dX10_outs_1 : decode cX10_outs 1 = .ok (.istore_n 1, 1) := by decide +kernel
theorem dX10_outs_2 : decode cX10_outs 2 = .ok (.iconst 0, 1) := by decide +kernel
theorem dX10_outs_3 : decode cX10_outs 3 = .ok (.istore_n 2, 1) := by decide +kernel
theorem dX10_outs_4 : decode cX10_outs 4 = .ok (.iload_n 2, 1) := by decide +kernel
theorem dX10_outs_5 : decode cX10_outs 5 = .ok (.aload_n 0, 1) := by decide +kernel
theorem dX10_outs_6 : decode cX10_outs 6 = .ok (.getfield 9, 3) := by decide +kernel
theorem dX10_outs_9 : decode cX10_outs 9 = .ok (.iconst 1, 1) := by decide +kernel
theorem dX10_outs_10 : decode cX10_outs 10 = .ok (.iaload, 1) := by decide +kernel
theorem dX10_outs_11 : decode cX10_outs 11 = .ok (.if_icmp .ge 24, 3) := by decide +kernel
theorem dX10_outs_14 : decode cX10_outs 14 = .ok (.iload_n 1, 1) := by decide +kernel
theorem dX10_outs_15 : decode cX10_outs 15 = .ok (.aload_n 0, 1) := by decide +kernel
theorem dX10_outs_16 : decode cX10_outs 16 = .ok (.getfield 9, 3) := by decide +kernel
theorem dX10_outs_19 : decode cX10_outs 19 = .ok (.iload_n 2, 1) := by decide +kernel
theorem dX10_outs_20 : decode cX10_outs 20 = .ok (.invokestatic 126, 3) := by decide +kernel
theorem dX10_outs_23 : decode cX10_outs 23 = .ok (.bipush 7, 2) := by decide +kernel
theorem dX10_outs_25 : decode cX10_outs 25 = .ok (.iadd, 1) := by decide +kernel
theorem dX10_outs_26 : decode cX10_outs 26 = .ok (.iaload, 1) := by decide +kernel
theorem dX10_outs_27 : decode cX10_outs 27 = .ok (.iadd, 1) := by decide +kernel
theorem dX10_outs_28 : decode cX10_outs 28 = .ok (.istore_n 1, 1) := by decide +kernel
theorem dX10_outs_29 : decode cX10_outs 29 = .ok (.iinc 2 1, 3) := by decide +kernel
theorem dX10_outs_32 : decode cX10_outs 32 = .ok (.goto (-28), 3) := by decide +kernel
theorem dX10_outs_35 : decode cX10_outs 35 = .ok (.iload_n 1, 1) := by decide +kernel
theorem dX10_outs_36 : decode cX10_outs 36 = .ok (.ireturn, 1) := by decide +kernel
theorem dX10_account_0 : decode cX10_account 0 = .ok (.aload_n 0, 1) := by decide +kernel
theorem dX10_account_1 : decode cX10_account 1 = .ok (.iconst 0, 1) := by decide +kernel
theorem dX10_account_2 : decode cX10_account 2 = .ok (.putfield 38, 3) := by decide +kernel
theorem dX10_account_5 : decode cX10_account 5 = .ok (.iload_n 1, 1) := by decide +kernel
theorem dX10_account_6 : decode cX10_account 6 = .ok (.tableswitch 117 0 11 #[62, 62, 69, 74, 80, 85, 90, 90, 90, 102, 107, 112], 62) := by decide +kernel
theorem dX10_account_68 : decode cX10_account 68 = .ok (.aload_n 0, 1) := by decide +kernel
theorem dX10_account_69 : decode cX10_account 69 = .ok (.getfield 9, 3) := by decide +kernel
theorem dX10_account_72 : decode cX10_account 72 = .ok (.iload_n 1, 1) := by decide +kernel
theorem dX10_account_73 : decode cX10_account 73 = .ok (.iaload, 1) := by decide +kernel
theorem dX10_account_74 : decode cX10_account 74 = .ok (.ireturn, 1) := by decide +kernel
theorem dX10_account_75 : decode cX10_account 75 = .ok (.aload_n 0, 1) := by decide +kernel
theorem dX10_account_76 : decode cX10_account 76 = .ok (.invokevirtual 256, 3) := by decide +kernel
theorem dX10_account_79 : decode cX10_account 79 = .ok (.ireturn, 1) := by decide +kernel
theorem dX10_account_80 : decode cX10_account 80 = .ok (.aload_n 0, 1) := by decide +kernel
theorem dX10_account_81 : decode cX10_account 81 = .ok (.iconst (-1), 1) := by decide +kernel
theorem dX10_account_82 : decode cX10_account 82 = .ok (.invokevirtual 186, 3) := by decide +kernel
theorem dX10_account_85 : decode cX10_account 85 = .ok (.ireturn, 1) := by decide +kernel
theorem dX10_account_86 : decode cX10_account 86 = .ok (.aload_n 0, 1) := by decide +kernel
theorem dX10_account_87 : decode cX10_account 87 = .ok (.invokevirtual 259, 3) := by decide +kernel
theorem dX10_account_90 : decode cX10_account 90 = .ok (.ireturn, 1) := by decide +kernel
theorem dX10_account_91 : decode cX10_account 91 = .ok (.aload_n 0, 1) := by decide +kernel
theorem dX10_account_92 : decode cX10_account 92 = .ok (.invokevirtual 110, 3) := by decide +kernel
theorem dX10_account_95 : decode cX10_account 95 = .ok (.ireturn, 1) := by decide +kernel
theorem dX10_account_96 : decode cX10_account 96 = .ok (.aload_n 0, 1) := by decide +kernel
theorem dX10_account_97 : decode cX10_account 97 = .ok (.getfield 9, 3) := by decide +kernel
theorem dX10_account_100 : decode cX10_account 100 = .ok (.iconst 3, 1) := by decide +kernel
theorem dX10_account_101 : decode cX10_account 101 = .ok (.iload_n 1, 1) := by decide +kernel
theorem dX10_account_102 : decode cX10_account 102 = .ok (.iadd, 1) := by decide +kernel
theorem dX10_account_103 : decode cX10_account 103 = .ok (.bipush 6, 2) := by decide +kernel
theorem dX10_account_105 : decode cX10_account 105 = .ok (.isub, 1) := by decide +kernel
theorem dX10_account_106 : decode cX10_account 106 = .ok (.iaload, 1) := by decide +kernel
theorem dX10_account_107 : decode cX10_account 107 = .ok (.ireturn, 1) := by decide +kernel
theorem dX10_account_108 : decode cX10_account 108 = .ok (.aload_n 0, 1) := by decide +kernel
theorem dX10_account_109 : decode cX10_account 109 = .ok (.invokevirtual 262, 3) := by decide +kernel
theorem dX10_account_112 : decode cX10_account 112 = .ok (.ireturn, 1) := by decide +kernel
theorem dX10_account_113 : decode cX10_account 113 = .ok (.aload_n 0, 1) := by decide +kernel
theorem dX10_account_114 : decode cX10_account 114 = .ok (.getfield 54, 3) := by decide +kernel
theorem dX10_account_117 : decode cX10_account 117 = .ok (.ireturn, 1) := by decide +kernel
theorem dX10_account_118 : decode cX10_account 118 = .ok (.aload_n 0, 1) := by decide +kernel
theorem dX10_account_119 : decode cX10_account 119 = .ok (.getfield 195, 3) := by decide +kernel
theorem dX10_account_122 : decode cX10_account 122 = .ok (.ireturn, 1) := by decide +kernel
theorem dX10_account_123 : decode cX10_account 123 = .ok (.aload_n 0, 1) := by decide +kernel
theorem dX10_account_124 : decode cX10_account 124 = .ok (.iconst 1, 1) := by decide +kernel
theorem dX10_account_125 : decode cX10_account 125 = .ok (.invokevirtual 50, 3) := by decide +kernel
theorem dX10_account_128 : decode cX10_account 128 = .ok (.ireturn, 1) := by decide +kernel
theorem dX10_undo_0 : decode cX10_undo 0 = .ok (.aload_n 0, 1) := by decide +kernel
theorem dX10_undo_1 : decode cX10_undo 1 = .ok (.iconst 0, 1) := by decide +kernel
theorem dX10_undo_2 : decode cX10_undo 2 = .ok (.putfield 38, 3) := by decide +kernel
theorem dX10_undo_5 : decode cX10_undo 5 = .ok (.aload_n 0, 1) := by decide +kernel
theorem dX10_undo_6 : decode cX10_undo 6 = .ok (.getfield 54, 3) := by decide +kernel
theorem dX10_undo_9 : decode cX10_undo 9 = .ok (.ifCond .ne 9, 3) := by decide +kernel
theorem dX10_undo_12 : decode cX10_undo 12 = .ok (.aload_n 0, 1) := by decide +kernel
theorem dX10_undo_13 : decode cX10_undo 13 = .ok (.iconst 1, 1) := by decide +kernel
theorem dX10_undo_14 : decode cX10_undo 14 = .ok (.invokevirtual 50, 3) := by decide +kernel
theorem dX10_undo_17 : decode cX10_undo 17 = .ok (.ireturn, 1) := by decide +kernel
theorem dX10_undo_18 : decode cX10_undo 18 = .ok (.aload_n 0, 1) := by decide +kernel
theorem dX10_undo_19 : decode cX10_undo 19 = .ok (.dup, 1) := by decide +kernel
theorem dX10_undo_20 : decode cX10_undo 20 = .ok (.getfield 54, 3) := by decide +kernel
theorem dX10_undo_23 : decode cX10_undo 23 = .ok (.iconst 1, 1) := by decide +kernel
theorem dX10_undo_24 : decode cX10_undo 24 = .ok (.isub, 1) := by decide +kernel
theorem dX10_undo_25 : decode cX10_undo 25 = .ok (.putfield 54, 3) := by decide +kernel
theorem dX10_undo_28 : decode cX10_undo 28 = .ok (.iconst 0, 1) := by decide +kernel
theorem dX10_undo_29 : decode cX10_undo 29 = .ok (.istore_n 1, 1) := by decide +kernel
theorem dX10_undo_30 : decode cX10_undo 30 = .ok (.iload_n 1, 1) := by decide +kernel
theorem dX10_undo_31 : decode cX10_undo 31 = .ok (.bipush 86, 2) := by decide +kernel
theorem dX10_undo_33 : decode cX10_undo 33 = .ok (.if_icmp .ge 29, 3) := by decide +kernel
theorem dX10_undo_36 : decode cX10_undo 36 = .ok (.aload_n 0, 1) := by decide +kernel
theorem dX10_undo_37 : decode cX10_undo 37 = .ok (.getfield 9, 3) := by decide +kernel
theorem dX10_undo_40 : decode cX10_undo 40 = .ok (.iload_n 1, 1) := by decide +kernel
theorem dX10_undo_41 : decode cX10_undo 41 = .ok (.aload_n 0, 1) := by decide +kernel
theorem dX10_undo_42 : decode cX10_undo 42 = .ok (.getfield 19, 3) := by decide +kernel
theorem dX10_undo_45 : decode cX10_undo 45 = .ok (.bipush 86, 2) := by decide +kernel
theorem dX10_undo_47 : decode cX10_undo 47 = .ok (.aload_n 0, 1) := by decide +kernel
theorem dX10_undo_48 : decode cX10_undo 48 = .ok (.getfield 54, 3) := by decide +kernel
theorem dX10_undo_51 : decode cX10_undo 51 = .ok (.imul, 1) := by decide +kernel
theorem dX10_undo_52 : decode cX10_undo 52 = .ok (.iload_n 1, 1) := by decide +kernel
theorem dX10_undo_53 : decode cX10_undo 53 = .ok (.iadd, 1) := by decide +kernel
theorem dX10_undo_54 : decode cX10_undo 54 = .ok (.iaload, 1) := by decide +kernel
theorem dX10_undo_55 : decode cX10_undo 55 = .ok (.iastore, 1) := by decide +kernel
theorem dX10_undo_56 : decode cX10_undo 56 = .ok (.iinc 1 1, 3) := by decide +kernel
theorem dX10_undo_59 : decode cX10_undo 59 = .ok (.goto (-29), 3) := by decide +kernel
theorem dX10_undo_62 : decode cX10_undo 62 = .ok (.aload_n 0, 1) := by decide +kernel
theorem dX10_undo_63 : decode cX10_undo 63 = .ok (.getfield 54, 3) := by decide +kernel
theorem dX10_undo_66 : decode cX10_undo 66 = .ok (.ireturn, 1) := by decide +kernel
theorem dX10_save_0 : decode cX10_save 0 = .ok (.aload_n 0, 1) := by decide +kernel
theorem dX10_save_1 : decode cX10_save 1 = .ok (.iconst 0, 1) := by decide +kernel
theorem dX10_save_2 : decode cX10_save 2 = .ok (.putfield 38, 3) := by decide +kernel
theorem dX10_save_5 : decode cX10_save 5 = .ok (.iconst 0, 1) := by decide +kernel
theorem dX10_save_6 : decode cX10_save 6 = .ok (.istore_n 1, 1) := by decide +kernel
theorem dX10_save_7 : decode cX10_save 7 = .ok (.iload_n 1, 1) := by decide +kernel
theorem dX10_save_8 : decode cX10_save 8 = .ok (.bipush 86, 2) := by decide +kernel
theorem dX10_save_10 : decode cX10_save 10 = .ok (.if_icmp .ge 21, 3) := by decide +kernel
theorem dX10_save_13 : decode cX10_save 13 = .ok (.aload_n 0, 1) := by decide +kernel
theorem dX10_save_14 : decode cX10_save 14 = .ok (.getfield 16, 3) := by decide +kernel
theorem dX10_save_17 : decode cX10_save 17 = .ok (.iload_n 1, 1) := by decide +kernel
theorem dX10_save_18 : decode cX10_save 18 = .ok (.aload_n 0, 1) := by decide +kernel
theorem dX10_save_19 : decode cX10_save 19 = .ok (.getfield 9, 3) := by decide +kernel
theorem dX10_save_22 : decode cX10_save 22 = .ok (.iload_n 1, 1) := by decide +kernel
theorem dX10_save_23 : decode cX10_save 23 = .ok (.iaload, 1) := by decide +kernel
theorem dX10_save_24 : decode cX10_save 24 = .ok (.iastore, 1) := by decide +kernel
theorem dX10_save_25 : decode cX10_save 25 = .ok (.iinc 1 1, 3) := by decide +kernel
theorem dX10_save_28 : decode cX10_save 28 = .ok (.goto (-21), 3) := by decide +kernel
theorem dX10_save_31 : decode cX10_save 31 = .ok (.aload_n 0, 1) := by decide +kernel
theorem dX10_save_32 : decode cX10_save 32 = .ok (.iconst 1, 1) := by decide +kernel
theorem dX10_save_33 : decode cX10_save 33 = .ok (.putfield 265, 3) := by decide +kernel
theorem dX10_save_36 : decode cX10_save 36 = .ok (.aload_n 0, 1) := by decide +kernel
theorem dX10_save_37 : decode cX10_save 37 = .ok (.getfield 9, 3) := by decide +kernel
theorem dX10_save_40 : decode cX10_save 40 = .ok (.iconst 1, 1) := by decide +kernel
theorem dX10_save_41 : decode cX10_save 41 = .ok (.iaload, 1) := by decide +kernel
theorem dX10_save_42 : decode cX10_save 42 = .ok (.ireturn, 1) := by decide +kernel
theorem dX10_restore_0 : decode cX10_restore 0 = .ok (.aload_n 0, 1) := by decide +kernel
theorem dX10_restore_1 : decode cX10_restore 1 = .ok (.iconst 0, 1) := by decide +kernel
theorem dX10_restore_2 : decode cX10_restore 2 = .ok (.putfield 38, 3) := by decide +kernel
theorem dX10_restore_5 : decode cX10_restore 5 = .ok (.aload_n 0, 1) := by decide +kernel
theorem dX10_restore_6 : decode cX10_restore 6 = .ok (.getfield 265, 3) := by decide +kernel
theorem dX10_restore_9 : decode cX10_restore 9 = .ok (.ifCond .ne 9, 3) := by decide +kernel
theorem dX10_restore_12 : decode cX10_restore 12 = .ok (.aload_n 0, 1) := by decide +kernel
theorem dX10_restore_13 : decode cX10_restore 13 = .ok (.iconst 1, 1) := by decide +kernel
theorem dX10_restore_14 : decode cX10_restore 14 = .ok (.invokevirtual 50, 3) := by decide +kernel
theorem dX10_restore_17 : decode cX10_restore 17 = .ok (.ireturn, 1) := by decide +kernel
theorem dX10_restore_18 : decode cX10_restore 18 = .ok (.iconst 0, 1) := by decide +kernel
theorem dX10_restore_19 : decode cX10_restore 19 = .ok (.istore_n 1, 1) := by decide +kernel
theorem dX10_restore_20 : decode cX10_restore 20 = .ok (.iload_n 1, 1) := by decide +kernel
theorem dX10_restore_21 : decode cX10_restore 21 = .ok (.bipush 86, 2) := by decide +kernel
theorem dX10_restore_23 : decode cX10_restore 23 = .ok (.if_icmp .ge 21, 3) := by decide +kernel
theorem dX10_restore_26 : decode cX10_restore 26 = .ok (.aload_n 0, 1) := by decide +kernel
theorem dX10_restore_27 : decode cX10_restore 27 = .ok (.getfield 9, 3) := by decide +kernel
theorem dX10_restore_30 : decode cX10_restore 30 = .ok (.iload_n 1, 1) := by decide +kernel
theorem dX10_restore_31 : decode cX10_restore 31 = .ok (.aload_n 0, 1) := by decide +kernel
theorem dX10_restore_32 : decode cX10_restore 32 = .ok (.getfield 16, 3) := by decide +kernel
theorem dX10_restore_35 : decode cX10_restore 35 = .ok (.iload_n 1, 1) := by decide +kernel
theorem dX10_restore_36 : decode cX10_restore 36 = .ok (.iaload, 1) := by decide +kernel
theorem dX10_restore_37 : decode cX10_restore 37 = .ok (.iastore, 1) := by decide +kernel
theorem dX10_restore_38 : decode cX10_restore 38 = .ok (.iinc 1 1, 3) := by decide +kernel
theorem dX10_restore_41 : decode cX10_restore 41 = .ok (.goto (-21), 3) := by decide +kernel
theorem dX10_restore_44 : decode cX10_restore 44 = .ok (.aload_n 0, 1) := by decide +kernel
theorem dX10_restore_45 : decode cX10_restore 45 = .ok (.iconst 0, 1) := by decide +kernel
theorem dX10_restore_46 : decode cX10_restore 46 = .ok (.putfield 54, 3) := by decide +kernel
theorem dX10_restore_49 : decode cX10_restore 49 = .ok (.aload_n 0, 1) := by decide +kernel
theorem dX10_restore_50 : decode cX10_restore 50 = .ok (.getfield 9, 3) := by decide +kernel
theorem dX10_restore_53 : decode cX10_restore 53 = .ok (.iconst 1, 1) := by decide +kernel
theorem dX10_restore_54 : decode cX10_restore 54 = .ok (.iaload, 1) := by decide +kernel
theorem dX10_restore_55 : decode cX10_restore 55 = .ok (.ireturn, 1) := by decide +kernel
theorem dJ5_init_d00df_0 : decode cJ5_init_d00df 0 = .ok (.aload_n 0, 1) := by decide +kernel
theorem dJ5_init_d00df_1 : decode cJ5_init_d00df 1 = .ok (.invokespecial 3, 3) := by decide +kernel
theorem dJ5_init_d00df_4 : decode cJ5_init_d00df 4 = .ok (.getstatic 18, 3) := by decide +kernel
theorem dJ5_init_d00df_7 : decode cJ5_init_d00df 7 = .ok (.ifCond .eq 18, 3) := by decide +kernel
theorem dJ5_init_d00df_10 : decode cJ5_init_d00df 10 = .ok (.aload_n 0, 1) := by decide +kernel
theorem dJ5_init_d00df_11 : decode cJ5_init_d00df 11 = .ok (.iload_n 1, 1) := by decide +kernel
theorem dJ5_init_d00df_12 : decode cJ5_init_d00df 12 = .ok (.newarray .byte, 2) := by decide +kernel
theorem dJ5_init_d00df_14 : decode cJ5_init_d00df 14 = .ok (.putfield 15, 3) := by decide +kernel
theorem dJ5_init_d00df_17 : decode cJ5_init_d00df 17 = .ok (.aload_n 0, 1) := by decide +kernel
theorem dJ5_init_d00df_18 : decode cJ5_init_d00df 18 = .ok (.iconst 0, 1) := by decide +kernel
theorem dJ5_init_d00df_19 : decode cJ5_init_d00df 19 = .ok (.putfield 22, 3) := by decide +kernel
theorem dJ5_init_d00df_22 : decode cJ5_init_d00df 22 = .ok (.goto 16, 3) := by decide +kernel
theorem dJ5_init_d00df_25 : decode cJ5_init_d00df 25 = .ok (.aload_n 0, 1) := by decide +kernel
theorem dJ5_init_d00df_26 : decode cJ5_init_d00df 26 = .ok (.iload_n 1, 1) := by decide +kernel
theorem dJ5_init_d00df_27 : decode cJ5_init_d00df 27 = .ok (.invokestatic 26, 3) := by decide +kernel
theorem dJ5_init_d00df_30 : decode cJ5_init_d00df 30 = .ok (.putfield 15, 3) := by decide +kernel
theorem dJ5_init_d00df_33 : decode cJ5_init_d00df 33 = .ok (.aload_n 0, 1) := by decide +kernel
theorem dJ5_init_d00df_34 : decode cJ5_init_d00df 34 = .ok (.iconst 1, 1) := by decide +kernel
theorem dJ5_init_d00df_35 : decode cJ5_init_d00df 35 = .ok (.putfield 22, 3) := by decide +kernel
theorem dJ5_init_d00df_38 : decode cJ5_init_d00df 38 = .ok (.return_, 1) := by decide +kernel
theorem dJ5_length_8abf5_0 : decode cJ5_length_8abf5 0 = .ok (.aload_n 0, 1) := by decide +kernel
theorem dJ5_length_8abf5_1 : decode cJ5_length_8abf5 1 = .ok (.getfield 79, 3) := by decide +kernel
theorem dJ5_length_8abf5_4 : decode cJ5_length_8abf5 4 = .ok (.ireturn, 1) := by decide +kernel
theorem dJ5_ensureCapacityInternal_d00df_0 : decode cJ5_ensureCapacityInternal_d00df 0 = .ok (.aload_n 0, 1) := by decide +kernel
theorem dJ5_ensureCapacityInternal_d00df_1 : decode cJ5_ensureCapacityInternal_d00df 1 = .ok (.getfield 15, 3) := by decide +kernel
theorem dJ5_ensureCapacityInternal_d00df_4 : decode cJ5_ensureCapacityInternal_d00df 4 = .ok (.arraylength, 1) := by decide +kernel
theorem dJ5_ensureCapacityInternal_d00df_5 : decode cJ5_ensureCapacityInternal_d00df 5 = .ok (.aload_n 0, 1) := by decide +kernel
theorem dJ5_ensureCapacityInternal_d00df_6 : decode cJ5_ensureCapacityInternal_d00df 6 = .ok (.getfield 22, 3) := by decide +kernel
theorem dJ5_ensureCapacityInternal_d00df_9 : decode cJ5_ensureCapacityInternal_d00df 9 = .ok (.ishr, 1) := by decide +kernel
theorem dJ5_ensureCapacityInternal_d00df_10 : decode cJ5_ensureCapacityInternal_d00df 10 = .ok (.istore_n 2, 1) := by decide +kernel
theorem dJ5_ensureCapacityInternal_d00df_11 : decode cJ5_ensureCapacityInternal_d00df 11 = .ok (.iload_n 1, 1) := by decide +kernel
theorem dJ5_ensureCapacityInternal_d00df_12 : decode cJ5_ensureCapacityInternal_d00df 12 = .ok (.iload_n 2, 1) := by decide +kernel
theorem dJ5_ensureCapacityInternal_d00df_13 : decode cJ5_ensureCapacityInternal_d00df 13 = .ok (.isub, 1) := by decide +kernel
theorem dJ5_ensureCapacityInternal_d00df_14 : decode cJ5_ensureCapacityInternal_d00df 14 = .ok (.ifCond .le 24, 3) := by decide +kernel
theorem dJ5_ensureCapacityInternal_d00df_38 : decode cJ5_ensureCapacityInternal_d00df 38 = .ok (.return_, 1) := by decide +kernel
theorem dJ5_setLength_d00df_0 : decode cJ5_setLength_d00df 0 = .ok (.iload_n 1, 1) := by decide +kernel
theorem dJ5_setLength_d00df_1 : decode cJ5_setLength_d00df 1 = .ok (.ifCond .ge 12, 3) := by decide +kernel
theorem dJ5_setLength_d00df_13 : decode cJ5_setLength_d00df 13 = .ok (.aload_n 0, 1) := by decide +kernel
theorem dJ5_setLength_d00df_14 : decode cJ5_setLength_d00df 14 = .ok (.iload_n 1, 1) := by decide +kernel
theorem dJ5_setLength_d00df_15 : decode cJ5_setLength_d00df 15 = .ok (.invokevirtual 100, 3) := by decide +kernel
theorem dJ5_setLength_d00df_18 : decode cJ5_setLength_d00df 18 = .ok (.aload_n 0, 1) := by decide +kernel
theorem dJ5_setLength_d00df_19 : decode cJ5_setLength_d00df 19 = .ok (.getfield 79, 3) := by decide +kernel
theorem dJ5_setLength_d00df_22 : decode cJ5_setLength_d00df 22 = .ok (.iload_n 1, 1) := by decide +kernel
theorem dJ5_setLength_d00df_23 : decode cJ5_setLength_d00df 23 = .ok (.if_icmp .ge 40, 3) := by decide +kernel
theorem dJ5_setLength_d00df_63 : decode cJ5_setLength_d00df 63 = .ok (.aload_n 0, 1) := by decide +kernel
theorem dJ5_setLength_d00df_64 : decode cJ5_setLength_d00df 64 = .ok (.getfield 79, 3) := by decide +kernel
theorem dJ5_setLength_d00df_67 : decode cJ5_setLength_d00df 67 = .ok (.iload_n 1, 1) := by decide +kernel
theorem dJ5_setLength_d00df_68 : decode cJ5_setLength_d00df 68 = .ok (.if_icmp .le 8, 3) := by decide +kernel
theorem dJ5_setLength_d00df_71 : decode cJ5_setLength_d00df 71 = .ok (.aload_n 0, 1) := by decide +kernel
theorem dJ5_setLength_d00df_72 : decode cJ5_setLength_d00df 72 = .ok (.iconst 1, 1) := by decide +kernel
theorem dJ5_setLength_d00df_73 : decode cJ5_setLength_d00df 73 = .ok (.putfield 73, 3) := by decide +kernel
theorem dJ5_setLength_d00df_76 : decode cJ5_setLength_d00df 76 = .ok (.aload_n 0, 1) := by decide +kernel
theorem dJ5_setLength_d00df_77 : decode cJ5_setLength_d00df 77 = .ok (.iload_n 1, 1) := by decide +kernel
theorem dJ5_setLength_d00df_78 : decode cJ5_setLength_d00df 78 = .ok (.putfield 79, 3) := by decide +kernel
theorem dJ5_setLength_d00df_81 : decode cJ5_setLength_d00df 81 = .ok (.return_, 1) := by decide +kernel
theorem dJ5_charAt_5068e_0 : decode cJ5_charAt_5068e 0 = .ok (.aload_n 0, 1) := by decide +kernel
theorem dJ5_charAt_5068e_1 : decode cJ5_charAt_5068e 1 = .ok (.getfield 22, 3) := by decide +kernel
theorem dJ5_charAt_5068e_4 : decode cJ5_charAt_5068e 4 = .ok (.istore_n 2, 1) := by decide +kernel
theorem dJ5_charAt_5068e_5 : decode cJ5_charAt_5068e 5 = .ok (.aload_n 0, 1) := by decide +kernel
theorem dJ5_charAt_5068e_6 : decode cJ5_charAt_5068e 6 = .ok (.getfield 15, 3) := by decide +kernel
theorem dJ5_charAt_5068e_9 : decode cJ5_charAt_5068e 9 = .ok (.astore_n 3, 1) := by decide +kernel
theorem dJ5_charAt_5068e_10 : decode cJ5_charAt_5068e 10 = .ok (.aload_n 0, 1) := by decide +kernel
theorem dJ5_charAt_5068e_11 : decode cJ5_charAt_5068e 11 = .ok (.getfield 79, 3) := by decide +kernel
theorem dJ5_charAt_5068e_14 : decode cJ5_charAt_5068e 14 = .ok (.aload_n 3, 1) := by decide +kernel
theorem dJ5_charAt_5068e_15 : decode cJ5_charAt_5068e 15 = .ok (.arraylength, 1) := by decide +kernel
theorem dJ5_charAt_5068e_16 : decode cJ5_charAt_5068e 16 = .ok (.iload_n 2, 1) := by decide +kernel
theorem dJ5_charAt_5068e_17 : decode cJ5_charAt_5068e 17 = .ok (.ishr, 1) := by decide +kernel
theorem dJ5_charAt_5068e_18 : decode cJ5_charAt_5068e 18 = .ok (.invokestatic 138, 3) := by decide +kernel
theorem dJ5_charAt_5068e_21 : decode cJ5_charAt_5068e 21 = .ok (.istore 4, 2) := by decide +kernel
theorem dJ5_charAt_5068e_23 : decode cJ5_charAt_5068e 23 = .ok (.iload_n 1, 1) := by decide +kernel
theorem dJ5_charAt_5068e_24 : decode cJ5_charAt_5068e 24 = .ok (.iload 4, 2) := by decide +kernel
theorem dJ5_charAt_5068e_26 : decode cJ5_charAt_5068e 26 = .ok (.invokestatic 144, 3) := by decide +kernel
theorem dJ5_charAt_5068e_29 : decode cJ5_charAt_5068e 29 = .ok (.iload_n 2, 1) := by decide +kernel
theorem dJ5_charAt_5068e_30 : decode cJ5_charAt_5068e 30 = .ok (.ifCond .ne 12, 3) := by decide +kernel
theorem dJ5_charAt_5068e_33 : decode cJ5_charAt_5068e 33 = .ok (.aload_n 3, 1) := by decide +kernel
theorem dJ5_charAt_5068e_34 : decode cJ5_charAt_5068e 34 = .ok (.iload_n 1, 1) := by decide +kernel
theorem dJ5_charAt_5068e_35 : decode cJ5_charAt_5068e 35 = .ok (.baload, 1) := by decide +kernel
theorem dJ5_charAt_5068e_36 : decode cJ5_charAt_5068e 36 = .ok (.sipush 255, 3) := by decide +kernel
theorem dJ5_charAt_5068e_39 : decode cJ5_charAt_5068e 39 = .ok (.iand, 1) := by decide +kernel
theorem dJ5_charAt_5068e_40 : decode cJ5_charAt_5068e 40 = .ok (.i2c, 1) := by decide +kernel
theorem dJ5_charAt_5068e_41 : decode cJ5_charAt_5068e 41 = .ok (.ireturn, 1) := by decide +kernel
theorem dJ5_append_cf1ce_0 : decode cJ5_append_cf1ce 0 = .ok (.aload_n 1, 1) := by decide +kernel
theorem dJ5_append_cf1ce_1 : decode cJ5_append_cf1ce 1 = .ok (.ifnonnull 8, 3) := by decide +kernel
theorem dJ5_append_cf1ce_9 : decode cJ5_append_cf1ce 9 = .ok (.aload_n 1, 1) := by decide +kernel
theorem dJ5_append_cf1ce_10 : decode cJ5_append_cf1ce 10 = .ok (.invokevirtual 32, 3) := by decide +kernel
theorem dJ5_append_cf1ce_13 : decode cJ5_append_cf1ce 13 = .ok (.istore_n 2, 1) := by decide +kernel
theorem dJ5_append_cf1ce_14 : decode cJ5_append_cf1ce 14 = .ok (.aload_n 0, 1) := by decide +kernel
theorem dJ5_append_cf1ce_15 : decode cJ5_append_cf1ce 15 = .ok (.aload_n 0, 1) := by decide +kernel
theorem dJ5_append_cf1ce_16 : decode cJ5_append_cf1ce 16 = .ok (.getfield 79, 3) := by decide +kernel
theorem dJ5_append_cf1ce_19 : decode cJ5_append_cf1ce 19 = .ok (.iload_n 2, 1) := by decide +kernel
theorem dJ5_append_cf1ce_20 : decode cJ5_append_cf1ce 20 = .ok (.iadd, 1) := by decide +kernel
theorem dJ5_append_cf1ce_21 : decode cJ5_append_cf1ce 21 = .ok (.invokevirtual 100, 3) := by decide +kernel
theorem dJ5_append_cf1ce_24 : decode cJ5_append_cf1ce 24 = .ok (.aload_n 0, 1) := by decide +kernel
theorem dJ5_append_cf1ce_25 : decode cJ5_append_cf1ce 25 = .ok (.aload_n 0, 1) := by decide +kernel
theorem dJ5_append_cf1ce_26 : decode cJ5_append_cf1ce 26 = .ok (.getfield 79, 3) := by decide +kernel
theorem dJ5_append_cf1ce_29 : decode cJ5_append_cf1ce 29 = .ok (.aload_n 1, 1) := by decide +kernel
theorem dJ5_append_cf1ce_30 : decode cJ5_append_cf1ce 30 = .ok (.invokevirtual 208, 3) := by decide +kernel
theorem dJ5_append_cf1ce_33 : decode cJ5_append_cf1ce 33 = .ok (.aload_n 0, 1) := by decide +kernel
theorem dJ5_append_cf1ce_34 : decode cJ5_append_cf1ce 34 = .ok (.dup, 1) := by decide +kernel
theorem dJ5_append_cf1ce_35 : decode cJ5_append_cf1ce 35 = .ok (.getfield 79, 3) := by decide +kernel
theorem dJ5_append_cf1ce_38 : decode cJ5_append_cf1ce 38 = .ok (.iload_n 2, 1) := by decide +kernel
theorem dJ5_append_cf1ce_39 : decode cJ5_append_cf1ce 39 = .ok (.iadd, 1) := by decide +kernel
theorem dJ5_append_cf1ce_40 : decode cJ5_append_cf1ce 40 = .ok (.putfield 79, 3) := by decide +kernel
theorem dJ5_append_cf1ce_43 : decode cJ5_append_cf1ce 43 = .ok (.aload_n 0, 1) := by decide +kernel
theorem dJ5_append_cf1ce_44 : decode cJ5_append_cf1ce 44 = .ok (.areturn, 1) := by decide +kernel
theorem dJ5_append_3fe6f_0 : decode cJ5_append_3fe6f 0 = .ok (.aload_n 0, 1) := by decide +kernel
theorem dJ5_append_3fe6f_1 : decode cJ5_append_3fe6f 1 = .ok (.aload_n 0, 1) := by decide +kernel
theorem dJ5_append_3fe6f_2 : decode cJ5_append_3fe6f 2 = .ok (.getfield 79, 3) := by decide +kernel
theorem dJ5_append_3fe6f_5 : decode cJ5_append_3fe6f 5 = .ok (.iconst 1, 1) := by decide +kernel
theorem dJ5_append_3fe6f_6 : decode cJ5_append_3fe6f 6 = .ok (.iadd, 1) := by decide +kernel
theorem dJ5_append_3fe6f_7 : decode cJ5_append_3fe6f 7 = .ok (.invokevirtual 100, 3) := by decide +kernel
theorem dJ5_append_3fe6f_10 : decode cJ5_append_3fe6f 10 = .ok (.aload_n 0, 1) := by decide +kernel
theorem dJ5_append_3fe6f_11 : decode cJ5_append_3fe6f 11 = .ok (.invokevirtual 83, 3) := by decide +kernel
theorem dJ5_append_3fe6f_14 : decode cJ5_append_3fe6f 14 = .ok (.ifCond .eq 31, 3) := by decide +kernel
theorem dJ5_append_3fe6f_17 : decode cJ5_append_3fe6f 17 = .ok (.iload_n 1, 1) := by decide +kernel
theorem dJ5_append_3fe6f_18 : decode cJ5_append_3fe6f 18 = .ok (.invokestatic 191, 3) := by decide +kernel
theorem dJ5_append_3fe6f_21 : decode cJ5_append_3fe6f 21 = .ok (.ifCond .eq 24, 3) := by decide +kernel
theorem dJ5_append_3fe6f_24 : decode cJ5_append_3fe6f 24 = .ok (.aload_n 0, 1) := by decide +kernel
theorem dJ5_append_3fe6f_25 : decode cJ5_append_3fe6f 25 = .ok (.getfield 15, 3) := by decide +kernel
theorem dJ5_append_3fe6f_28 : decode cJ5_append_3fe6f 28 = .ok (.aload_n 0, 1) := by decide +kernel
theorem dJ5_append_3fe6f_29 : decode cJ5_append_3fe6f 29 = .ok (.dup, 1) := by decide +kernel
theorem dJ5_append_3fe6f_30 : decode cJ5_append_3fe6f 30 = .ok (.getfield 79, 3) := by decide +kernel
theorem dJ5_append_3fe6f_33 : decode cJ5_append_3fe6f 33 = .ok (.dup_x1, 1) := by decide +kernel
theorem dJ5_append_3fe6f_34 : decode cJ5_append_3fe6f 34 = .ok (.iconst 1, 1) := by decide +kernel
theorem dJ5_append_3fe6f_35 : decode cJ5_append_3fe6f 35 = .ok (.iadd, 1) := by decide +kernel
theorem dJ5_append_3fe6f_36 : decode cJ5_append_3fe6f 36 = .ok (.putfield 79, 3) := by decide +kernel
theorem dJ5_append_3fe6f_39 : decode cJ5_append_3fe6f 39 = .ok (.iload_n 1, 1) := by decide +kernel
theorem dJ5_append_3fe6f_40 : decode cJ5_append_3fe6f 40 = .ok (.i2b, 1) := by decide +kernel
theorem dJ5_append_3fe6f_41 : decode cJ5_append_3fe6f 41 = .ok (.bastore, 1) := by decide +kernel
theorem dJ5_append_3fe6f_42 : decode cJ5_append_3fe6f 42 = .ok (.goto 33, 3) := by decide +kernel
theorem dJ5_append_3fe6f_75 : decode cJ5_append_3fe6f 75 = .ok (.aload_n 0, 1) := by decide +kernel
theorem dJ5_append_3fe6f_76 : decode cJ5_append_3fe6f 76 = .ok (.areturn, 1) := by decide +kernel
theorem dJ5_append_c97b9_0 : decode cJ5_append_c97b9 0 = .ok (.aload_n 0, 1) := by decide +kernel
theorem dJ5_append_c97b9_1 : decode cJ5_append_c97b9 1 = .ok (.getfield 79, 3) := by decide +kernel
theorem dJ5_append_c97b9_4 : decode cJ5_append_c97b9 4 = .ok (.istore_n 2, 1) := by decide +kernel
theorem dJ5_append_c97b9_5 : decode cJ5_append_c97b9 5 = .ok (.iload_n 2, 1) := by decide +kernel
theorem dJ5_append_c97b9_6 : decode cJ5_append_c97b9 6 = .ok (.iload_n 1, 1) := by decide +kernel
theorem dJ5_append_c97b9_7 : decode cJ5_append_c97b9 7 = .ok (.invokestatic 245, 3) := by decide +kernel
theorem dJ5_append_c97b9_10 : decode cJ5_append_c97b9 10 = .ok (.iadd, 1) := by decide +kernel
theorem dJ5_append_c97b9_11 : decode cJ5_append_c97b9 11 = .ok (.istore_n 3, 1) := by decide +kernel
theorem dJ5_append_c97b9_12 : decode cJ5_append_c97b9 12 = .ok (.aload_n 0, 1) := by decide +kernel
theorem dJ5_append_c97b9_13 : decode cJ5_append_c97b9 13 = .ok (.iload_n 3, 1) := by decide +kernel
theorem dJ5_append_c97b9_14 : decode cJ5_append_c97b9 14 = .ok (.invokevirtual 100, 3) := by decide +kernel
theorem dJ5_append_c97b9_17 : decode cJ5_append_c97b9 17 = .ok (.aload_n 0, 1) := by decide +kernel
theorem dJ5_append_c97b9_18 : decode cJ5_append_c97b9 18 = .ok (.invokevirtual 83, 3) := by decide +kernel
theorem dJ5_append_c97b9_21 : decode cJ5_append_c97b9 21 = .ok (.ifCond .eq 16, 3) := by decide +kernel
theorem dJ5_append_c97b9_24 : decode cJ5_append_c97b9 24 = .ok (.iload_n 1, 1) := by decide +kernel
theorem dJ5_append_c97b9_25 : decode cJ5_append_c97b9 25 = .ok (.iload_n 3, 1) := by decide +kernel
theorem dJ5_append_c97b9_26 : decode cJ5_append_c97b9 26 = .ok (.aload_n 0, 1) := by decide +kernel
theorem dJ5_append_c97b9_27 : decode cJ5_append_c97b9 27 = .ok (.getfield 15, 3) := by decide +kernel
theorem dJ5_append_c97b9_30 : decode cJ5_append_c97b9 30 = .ok (.invokestatic 248, 3) := by decide +kernel
theorem dJ5_append_c97b9_33 : decode cJ5_append_c97b9 33 = .ok (.pop, 1) := by decide +kernel
theorem dJ5_append_c97b9_34 : decode cJ5_append_c97b9 34 = .ok (.goto 14, 3) := by decide +kernel
theorem dJ5_append_c97b9_48 : decode cJ5_append_c97b9 48 = .ok (.aload_n 0, 1) := by decide +kernel
theorem dJ5_append_c97b9_49 : decode cJ5_append_c97b9 49 = .ok (.iload_n 3, 1) := by decide +kernel
theorem dJ5_append_c97b9_50 : decode cJ5_append_c97b9 50 = .ok (.putfield 79, 3) := by decide +kernel
theorem dJ5_append_c97b9_53 : decode cJ5_append_c97b9 53 = .ok (.aload_n 0, 1) := by decide +kernel
theorem dJ5_append_c97b9_54 : decode cJ5_append_c97b9 54 = .ok (.areturn, 1) := by decide +kernel
theorem dJ5_isLatin1_aae02_0 : decode cJ5_isLatin1_aae02 0 = .ok (.getstatic 18, 3) := by decide +kernel
theorem dJ5_isLatin1_aae02_3 : decode cJ5_isLatin1_aae02 3 = .ok (.ifCond .eq 14, 3) := by decide +kernel
theorem dJ5_isLatin1_aae02_6 : decode cJ5_isLatin1_aae02 6 = .ok (.aload_n 0, 1) := by decide +kernel
theorem dJ5_isLatin1_aae02_7 : decode cJ5_isLatin1_aae02 7 = .ok (.getfield 22, 3) := by decide +kernel
theorem dJ5_isLatin1_aae02_10 : decode cJ5_isLatin1_aae02 10 = .ok (.ifCond .ne 7, 3) := by decide +kernel
theorem dJ5_isLatin1_aae02_13 : decode cJ5_isLatin1_aae02 13 = .ok (.iconst 1, 1) := by decide +kernel
theorem dJ5_isLatin1_aae02_14 : decode cJ5_isLatin1_aae02 14 = .ok (.goto 4, 3) := by decide +kernel
theorem dJ5_isLatin1_aae02_17 : decode cJ5_isLatin1_aae02 17 = .ok (.iconst 0, 1) := by decide +kernel
theorem dJ5_isLatin1_aae02_18 : decode cJ5_isLatin1_aae02 18 = .ok (.ireturn, 1) := by decide +kernel
theorem dJ5_inflateIfNeededFor_a7421_0 : decode cJ5_inflateIfNeededFor_a7421 0 = .ok (.getstatic 18, 3) := by decide +kernel
theorem dJ5_inflateIfNeededFor_a7421_3 : decode cJ5_inflateIfNeededFor_a7421 3 = .ok (.ifCond .eq 18, 3) := by decide +kernel
theorem dJ5_inflateIfNeededFor_a7421_6 : decode cJ5_inflateIfNeededFor_a7421 6 = .ok (.aload_n 0, 1) := by decide +kernel
theorem dJ5_inflateIfNeededFor_a7421_7 : decode cJ5_inflateIfNeededFor_a7421 7 = .ok (.getfield 22, 3) := by decide +kernel
theorem dJ5_inflateIfNeededFor_a7421_10 : decode cJ5_inflateIfNeededFor_a7421 10 = .ok (.aload_n 1, 1) := by decide +kernel
theorem dJ5_inflateIfNeededFor_a7421_11 : decode cJ5_inflateIfNeededFor_a7421 11 = .ok (.invokevirtual 40, 3) := by decide +kernel
theorem dJ5_inflateIfNeededFor_a7421_14 : decode cJ5_inflateIfNeededFor_a7421 14 = .ok (.if_icmp .eq 7, 3) := by decide +kernel
theorem dJ5_inflateIfNeededFor_a7421_21 : decode cJ5_inflateIfNeededFor_a7421 21 = .ok (.return_, 1) := by decide +kernel
theorem dJ5_putStringAt_47b60_0 : decode cJ5_putStringAt_47b60 0 = .ok (.aload_n 0, 1) := by decide +kernel
theorem dJ5_putStringAt_47b60_1 : decode cJ5_putStringAt_47b60 1 = .ok (.aload_n 2, 1) := by decide +kernel
theorem dJ5_putStringAt_47b60_2 : decode cJ5_putStringAt_47b60 2 = .ok (.invokevirtual 397, 3) := by decide +kernel
theorem dJ5_putStringAt_47b60_5 : decode cJ5_putStringAt_47b60 5 = .ok (.aload_n 2, 1) := by decide +kernel
theorem dJ5_putStringAt_47b60_6 : decode cJ5_putStringAt_47b60 6 = .ok (.aload_n 0, 1) := by decide +kernel
theorem dJ5_putStringAt_47b60_7 : decode cJ5_putStringAt_47b60 7 = .ok (.getfield 15, 3) := by decide +kernel
theorem dJ5_putStringAt_47b60_10 : decode cJ5_putStringAt_47b60 10 = .ok (.iload_n 1, 1) := by decide +kernel
theorem dJ5_putStringAt_47b60_11 : decode cJ5_putStringAt_47b60 11 = .ok (.aload_n 0, 1) := by decide +kernel
theorem dJ5_putStringAt_47b60_12 : decode cJ5_putStringAt_47b60 12 = .ok (.getfield 22, 3) := by decide +kernel
theorem dJ5_putStringAt_47b60_15 : decode cJ5_putStringAt_47b60 15 = .ok (.invokevirtual 399, 3) := by decide +kernel
theorem dJ5_putStringAt_47b60_18 : decode cJ5_putStringAt_47b60 18 = .ok (.return_, 1) := by decide +kernel
theorem dJx00060_init_a7421_0 : decode cJx00060_init_a7421 0 = .ok (.aload_n 0, 1) := by decide +kernel
theorem dJx00060_init_a7421_1 : decode cJx00060_init_a7421 1 = .ok (.aload_n 1, 1) := by decide +kernel
theorem dJx00060_init_a7421_2 : decode cJx00060_init_a7421 2 = .ok (.invokespecial 7, 3) := by decide +kernel
theorem dJx00060_init_a7421_5 : decode cJx00060_init_a7421 5 = .ok (.return_, 1) := by decide +kernel
theorem dJx00060_init_d00df_0 : decode cJx00060_init_d00df 0 = .ok (.aload_n 0, 1) := by decide +kernel
theorem dJx00060_init_d00df_1 : decode cJx00060_init_d00df 1 = .ok (.new 10, 3) := by decide +kernel
theorem dJx00060_init_d00df_4 : decode cJx00060_init_d00df 4 = .ok (.dup, 1) := by decide +kernel
theorem dJx00060_init_d00df_5 : decode cJx00060_init_d00df 5 = .ok (.invokespecial 12, 3) := by decide +kernel
theorem dJx00060_init_d00df_8 : decode cJx00060_init_d00df 8 = .ok (.ldc 13, 2) := by decide +kernel
theorem dJx00060_init_d00df_10 : decode cJx00060_init_d00df 10 = .ok (.invokevirtual 15, 3) := by decide +kernel
theorem dJx00060_init_d00df_13 : decode cJx00060_init_d00df 13 = .ok (.iload_n 1, 1) := by decide +kernel
theorem dJx00060_init_d00df_14 : decode cJx00060_init_d00df 14 = .ok (.invokevirtual 19, 3) := by decide +kernel
theorem dJx00060_init_d00df_17 : decode cJx00060_init_d00df 17 = .ok (.invokevirtual 22, 3) := by decide +kernel
theorem dJx00060_init_d00df_20 : decode cJx00060_init_d00df 20 = .ok (.invokespecial 7, 3) := by decide +kernel
theorem dJx00060_init_d00df_23 : decode cJx00060_init_d00df 23 = .ok (.return_, 1) := by decide +kernel
theorem dJ6_getChars_ba4f3_0 : decode cJ6_getChars_ba4f3 0 = .ok (.iload_n 1, 1) := by decide +kernel
theorem dJ6_getChars_ba4f3_1 : decode cJ6_getChars_ba4f3 1 = .ok (.istore 5, 2) := by decide +kernel
theorem dJ6_getChars_ba4f3_3 : decode cJ6_getChars_ba4f3 3 = .ok (.iload_n 0, 1) := by decide +kernel
theorem dJ6_getChars_ba4f3_4 : decode cJ6_getChars_ba4f3 4 = .ok (.ifCond .ge 7, 3) := by decide +kernel
theorem dJ6_getChars_ba4f3_7 : decode cJ6_getChars_ba4f3 7 = .ok (.iconst 1, 1) := by decide +kernel
theorem dJ6_getChars_ba4f3_8 : decode cJ6_getChars_ba4f3 8 = .ok (.goto 4, 3) := by decide +kernel
theorem dJ6_getChars_ba4f3_11 : decode cJ6_getChars_ba4f3 11 = .ok (.iconst 0, 1) := by decide +kernel
theorem dJ6_getChars_ba4f3_12 : decode cJ6_getChars_ba4f3 12 = .ok (.istore 6, 2) := by decide +kernel
theorem dJ6_getChars_ba4f3_14 : decode cJ6_getChars_ba4f3 14 = .ok (.iload 6, 2) := by decide +kernel
theorem dJ6_getChars_ba4f3_16 : decode cJ6_getChars_ba4f3 16 = .ok (.ifCond .ne 6, 3) := by decide +kernel
theorem dJ6_getChars_ba4f3_19 : decode cJ6_getChars_ba4f3 19 = .ok (.iload_n 0, 1) := by decide +kernel
theorem dJ6_getChars_ba4f3_20 : decode cJ6_getChars_ba4f3 20 = .ok (.ineg, 1) := by decide +kernel
theorem dJ6_getChars_ba4f3_21 : decode cJ6_getChars_ba4f3 21 = .ok (.istore_n 0, 1) := by decide +kernel
theorem dJ6_getChars_ba4f3_22 : decode cJ6_getChars_ba4f3 22 = .ok (.iload_n 0, 1) := by decide +kernel
theorem dJ6_getChars_ba4f3_23 : decode cJ6_getChars_ba4f3 23 = .ok (.bipush (-100), 2) := by decide +kernel
theorem dJ6_getChars_ba4f3_25 : decode cJ6_getChars_ba4f3 25 = .ok (.if_icmp .gt 47, 3) := by decide +kernel
theorem dJ6_getChars_ba4f3_28 : decode cJ6_getChars_ba4f3 28 = .ok (.iload_n 0, 1) := by decide +kernel
theorem dJ6_getChars_ba4f3_29 : decode cJ6_getChars_ba4f3 29 = .ok (.bipush 100, 2) := by decide +kernel
theorem dJ6_getChars_ba4f3_31 : decode cJ6_getChars_ba4f3 31 = .ok (.idiv, 1) := by decide +kernel
theorem dJ6_getChars_ba4f3_32 : decode cJ6_getChars_ba4f3 32 = .ok (.istore_n 3, 1) := by decide +kernel
theorem dJ6_getChars_ba4f3_33 : decode cJ6_getChars_ba4f3 33 = .ok (.iload_n 3, 1) := by decide +kernel
theorem dJ6_getChars_ba4f3_34 : decode cJ6_getChars_ba4f3 34 = .ok (.bipush 100, 2) := by decide +kernel
theorem dJ6_getChars_ba4f3_36 : decode cJ6_getChars_ba4f3 36 = .ok (.imul, 1) := by decide +kernel
theorem dJ6_getChars_ba4f3_37 : decode cJ6_getChars_ba4f3 37 = .ok (.iload_n 0, 1) := by decide +kernel
theorem dJ6_getChars_ba4f3_38 : decode cJ6_getChars_ba4f3 38 = .ok (.isub, 1) := by decide +kernel
theorem dJ6_getChars_ba4f3_39 : decode cJ6_getChars_ba4f3 39 = .ok (.istore 4, 2) := by decide +kernel
theorem dJ6_getChars_ba4f3_41 : decode cJ6_getChars_ba4f3 41 = .ok (.iload_n 3, 1) := by decide +kernel
theorem dJ6_getChars_ba4f3_42 : decode cJ6_getChars_ba4f3 42 = .ok (.istore_n 0, 1) := by decide +kernel
theorem dJ6_getChars_ba4f3_43 : decode cJ6_getChars_ba4f3 43 = .ok (.aload_n 2, 1) := by decide +kernel
theorem dJ6_getChars_ba4f3_44 : decode cJ6_getChars_ba4f3 44 = .ok (.iinc 5 (-1), 3) := by decide +kernel
theorem dJ6_getChars_ba4f3_47 : decode cJ6_getChars_ba4f3 47 = .ok (.iload 5, 2) := by decide +kernel
theorem dJ6_getChars_ba4f3_49 : decode cJ6_getChars_ba4f3 49 = .ok (.getstatic 83, 3) := by decide +kernel
theorem dJ6_getChars_ba4f3_52 : decode cJ6_getChars_ba4f3 52 = .ok (.iload 4, 2) := by decide +kernel
theorem dJ6_getChars_ba4f3_54 : decode cJ6_getChars_ba4f3 54 = .ok (.baload, 1) := by decide +kernel
theorem dJ6_getChars_ba4f3_55 : decode cJ6_getChars_ba4f3 55 = .ok (.bastore, 1) := by decide +kernel
theorem dJ6_getChars_ba4f3_56 : decode cJ6_getChars_ba4f3 56 = .ok (.aload_n 2, 1) := by decide +kernel
theorem dJ6_getChars_ba4f3_57 : decode cJ6_getChars_ba4f3 57 = .ok (.iinc 5 (-1), 3) := by decide +kernel
theorem dJ6_getChars_ba4f3_60 : decode cJ6_getChars_ba4f3 60 = .ok (.iload 5, 2) := by decide +kernel
theorem dJ6_getChars_ba4f3_62 : decode cJ6_getChars_ba4f3 62 = .ok (.getstatic 87, 3) := by decide +kernel
theorem dJ6_getChars_ba4f3_65 : decode cJ6_getChars_ba4f3 65 = .ok (.iload 4, 2) := by decide +kernel
theorem dJ6_getChars_ba4f3_67 : decode cJ6_getChars_ba4f3 67 = .ok (.baload, 1) := by decide +kernel
theorem dJ6_getChars_ba4f3_68 : decode cJ6_getChars_ba4f3 68 = .ok (.bastore, 1) := by decide +kernel
theorem dJ6_getChars_ba4f3_69 : decode cJ6_getChars_ba4f3 69 = .ok (.goto (-47), 3) := by decide +kernel
theorem dJ6_getChars_ba4f3_72 : decode cJ6_getChars_ba4f3 72 = .ok (.aload_n 2, 1) := by decide +kernel
theorem dJ6_getChars_ba4f3_73 : decode cJ6_getChars_ba4f3 73 = .ok (.iinc 5 (-1), 3) := by decide +kernel
theorem dJ6_getChars_ba4f3_76 : decode cJ6_getChars_ba4f3 76 = .ok (.iload 5, 2) := by decide +kernel
theorem dJ6_getChars_ba4f3_78 : decode cJ6_getChars_ba4f3 78 = .ok (.getstatic 83, 3) := by decide +kernel
theorem dJ6_getChars_ba4f3_81 : decode cJ6_getChars_ba4f3 81 = .ok (.iload_n 0, 1) := by decide +kernel
theorem dJ6_getChars_ba4f3_82 : decode cJ6_getChars_ba4f3 82 = .ok (.ineg, 1) := by decide +kernel
theorem dJ6_getChars_ba4f3_83 : decode cJ6_getChars_ba4f3 83 = .ok (.baload, 1) := by decide +kernel
theorem dJ6_getChars_ba4f3_84 : decode cJ6_getChars_ba4f3 84 = .ok (.bastore, 1) := by decide +kernel
theorem dJ6_getChars_ba4f3_85 : decode cJ6_getChars_ba4f3 85 = .ok (.iload_n 0, 1) := by decide +kernel
theorem dJ6_getChars_ba4f3_86 : decode cJ6_getChars_ba4f3 86 = .ok (.bipush (-9), 2) := by decide +kernel
theorem dJ6_getChars_ba4f3_88 : decode cJ6_getChars_ba4f3 88 = .ok (.if_icmp .ge 16, 3) := by decide +kernel
theorem dJ6_getChars_ba4f3_91 : decode cJ6_getChars_ba4f3 91 = .ok (.aload_n 2, 1) := by decide +kernel
theorem dJ6_getChars_ba4f3_92 : decode cJ6_getChars_ba4f3 92 = .ok (.iinc 5 (-1), 3) := by decide +kernel
theorem dJ6_getChars_ba4f3_95 : decode cJ6_getChars_ba4f3 95 = .ok (.iload 5, 2) := by decide +kernel
theorem dJ6_getChars_ba4f3_97 : decode cJ6_getChars_ba4f3 97 = .ok (.getstatic 87, 3) := by decide +kernel
theorem dJ6_getChars_ba4f3_100 : decode cJ6_getChars_ba4f3 100 = .ok (.iload_n 0, 1) := by decide +kernel
theorem dJ6_getChars_ba4f3_101 : decode cJ6_getChars_ba4f3 101 = .ok (.ineg, 1) := by decide +kernel
theorem dJ6_getChars_ba4f3_102 : decode cJ6_getChars_ba4f3 102 = .ok (.baload, 1) := by decide +kernel
theorem dJ6_getChars_ba4f3_103 : decode cJ6_getChars_ba4f3 103 = .ok (.bastore, 1) := by decide +kernel
theorem dJ6_getChars_ba4f3_104 : decode cJ6_getChars_ba4f3 104 = .ok (.iload 6, 2) := by decide +kernel
theorem dJ6_getChars_ba4f3_106 : decode cJ6_getChars_ba4f3 106 = .ok (.ifCond .eq 12, 3) := by decide +kernel
theorem dJ6_getChars_ba4f3_109 : decode cJ6_getChars_ba4f3 109 = .ok (.aload_n 2, 1) := by decide +kernel
theorem dJ6_getChars_ba4f3_110 : decode cJ6_getChars_ba4f3 110 = .ok (.iinc 5 (-1), 3) := by decide +kernel
theorem dJ6_getChars_ba4f3_113 : decode cJ6_getChars_ba4f3 113 = .ok (.iload 5, 2) := by decide +kernel
theorem dJ6_getChars_ba4f3_115 : decode cJ6_getChars_ba4f3 115 = .ok (.bipush 45, 2) := by decide +kernel
theorem dJ6_getChars_ba4f3_117 : decode cJ6_getChars_ba4f3 117 = .ok (.bastore, 1) := by decide +kernel
theorem dJ6_getChars_ba4f3_118 : decode cJ6_getChars_ba4f3 118 = .ok (.iload 5, 2) := by decide +kernel
theorem dJ6_getChars_ba4f3_120 : decode cJ6_getChars_ba4f3 120 = .ok (.ireturn, 1) := by decide +kernel
theorem dJ6_stringSize_0f7a4_0 : decode cJ6_stringSize_0f7a4 0 = .ok (.iconst 1, 1) := by decide +kernel
theorem dJ6_stringSize_0f7a4_1 : decode cJ6_stringSize_0f7a4 1 = .ok (.istore_n 1, 1) := by decide +kernel
theorem dJ6_stringSize_0f7a4_2 : decode cJ6_stringSize_0f7a4 2 = .ok (.iload_n 0, 1) := by decide +kernel
theorem dJ6_stringSize_0f7a4_3 : decode cJ6_stringSize_0f7a4 3 = .ok (.ifCond .lt 8, 3) := by decide +kernel
theorem dJ6_stringSize_0f7a4_6 : decode cJ6_stringSize_0f7a4 6 = .ok (.iconst 0, 1) := by decide +kernel
theorem dJ6_stringSize_0f7a4_7 : decode cJ6_stringSize_0f7a4 7 = .ok (.istore_n 1, 1) := by decide +kernel
theorem dJ6_stringSize_0f7a4_8 : decode cJ6_stringSize_0f7a4 8 = .ok (.iload_n 0, 1) := by decide +kernel
theorem dJ6_stringSize_0f7a4_9 : decode cJ6_stringSize_0f7a4 9 = .ok (.ineg, 1) := by decide +kernel
theorem dJ6_stringSize_0f7a4_10 : decode cJ6_stringSize_0f7a4 10 = .ok (.istore_n 0, 1) := by decide +kernel
theorem dJ6_stringSize_0f7a4_11 : decode cJ6_stringSize_0f7a4 11 = .ok (.bipush (-10), 2) := by decide +kernel
theorem dJ6_stringSize_0f7a4_13 : decode cJ6_stringSize_0f7a4 13 = .ok (.istore_n 2, 1) := by decide +kernel
theorem dJ6_stringSize_0f7a4_14 : decode cJ6_stringSize_0f7a4 14 = .ok (.iconst 1, 1) := by decide +kernel
theorem dJ6_stringSize_0f7a4_15 : decode cJ6_stringSize_0f7a4 15 = .ok (.istore_n 3, 1) := by decide +kernel
theorem dJ6_stringSize_0f7a4_16 : decode cJ6_stringSize_0f7a4 16 = .ok (.iload_n 3, 1) := by decide +kernel
theorem dJ6_stringSize_0f7a4_17 : decode cJ6_stringSize_0f7a4 17 = .ok (.bipush 10, 2) := by decide +kernel
theorem dJ6_stringSize_0f7a4_19 : decode cJ6_stringSize_0f7a4 19 = .ok (.if_icmp .ge 23, 3) := by decide +kernel
theorem dJ6_stringSize_0f7a4_22 : decode cJ6_stringSize_0f7a4 22 = .ok (.iload_n 0, 1) := by decide +kernel
theorem dJ6_stringSize_0f7a4_23 : decode cJ6_stringSize_0f7a4 23 = .ok (.iload_n 2, 1) := by decide +kernel
theorem dJ6_stringSize_0f7a4_24 : decode cJ6_stringSize_0f7a4 24 = .ok (.if_icmp .le 7, 3) := by decide +kernel
theorem dJ6_stringSize_0f7a4_27 : decode cJ6_stringSize_0f7a4 27 = .ok (.iload_n 3, 1) := by decide +kernel
theorem dJ6_stringSize_0f7a4_28 : decode cJ6_stringSize_0f7a4 28 = .ok (.iload_n 1, 1) := by decide +kernel
theorem dJ6_stringSize_0f7a4_29 : decode cJ6_stringSize_0f7a4 29 = .ok (.iadd, 1) := by decide +kernel
theorem dJ6_stringSize_0f7a4_30 : decode cJ6_stringSize_0f7a4 30 = .ok (.ireturn, 1) := by decide +kernel
theorem dJ6_stringSize_0f7a4_31 : decode cJ6_stringSize_0f7a4 31 = .ok (.bipush 10, 2) := by decide +kernel
theorem dJ6_stringSize_0f7a4_33 : decode cJ6_stringSize_0f7a4 33 = .ok (.iload_n 2, 1) := by decide +kernel
theorem dJ6_stringSize_0f7a4_34 : decode cJ6_stringSize_0f7a4 34 = .ok (.imul, 1) := by decide +kernel
theorem dJ6_stringSize_0f7a4_35 : decode cJ6_stringSize_0f7a4 35 = .ok (.istore_n 2, 1) := by decide +kernel
theorem dJ6_stringSize_0f7a4_36 : decode cJ6_stringSize_0f7a4 36 = .ok (.iinc 3 1, 3) := by decide +kernel
theorem dJ6_stringSize_0f7a4_39 : decode cJ6_stringSize_0f7a4 39 = .ok (.goto (-23), 3) := by decide +kernel
theorem dJ6_stringSize_0f7a4_42 : decode cJ6_stringSize_0f7a4 42 = .ok (.bipush 10, 2) := by decide +kernel
theorem dJ6_stringSize_0f7a4_44 : decode cJ6_stringSize_0f7a4 44 = .ok (.iload_n 1, 1) := by decide +kernel
theorem dJ6_stringSize_0f7a4_45 : decode cJ6_stringSize_0f7a4 45 = .ok (.iadd, 1) := by decide +kernel
theorem dJ6_stringSize_0f7a4_46 : decode cJ6_stringSize_0f7a4 46 = .ok (.ireturn, 1) := by decide +kernel
theorem dJ6_bitCount_0f7a4_0 : decode cJ6_bitCount_0f7a4 0 = .ok (.iload_n 0, 1) := by decide +kernel
theorem dJ6_bitCount_0f7a4_1 : decode cJ6_bitCount_0f7a4 1 = .ok (.iload_n 0, 1) := by decide +kernel
theorem dJ6_bitCount_0f7a4_2 : decode cJ6_bitCount_0f7a4 2 = .ok (.iconst 1, 1) := by decide +kernel
theorem dJ6_bitCount_0f7a4_3 : decode cJ6_bitCount_0f7a4 3 = .ok (.iushr, 1) := by decide +kernel
theorem dJ6_bitCount_0f7a4_4 : decode cJ6_bitCount_0f7a4 4 = .ok (.ldc_w 265, 3) := by decide +kernel
theorem dJ6_bitCount_0f7a4_7 : decode cJ6_bitCount_0f7a4 7 = .ok (.iand, 1) := by decide +kernel
theorem dJ6_bitCount_0f7a4_8 : decode cJ6_bitCount_0f7a4 8 = .ok (.isub, 1) := by decide +kernel
theorem dJ6_bitCount_0f7a4_9 : decode cJ6_bitCount_0f7a4 9 = .ok (.istore_n 0, 1) := by decide +kernel
theorem dJ6_bitCount_0f7a4_10 : decode cJ6_bitCount_0f7a4 10 = .ok (.iload_n 0, 1) := by decide +kernel
theorem dJ6_bitCount_0f7a4_11 : decode cJ6_bitCount_0f7a4 11 = .ok (.ldc_w 266, 3) := by decide +kernel
theorem dJ6_bitCount_0f7a4_14 : decode cJ6_bitCount_0f7a4 14 = .ok (.iand, 1) := by decide +kernel
theorem dJ6_bitCount_0f7a4_15 : decode cJ6_bitCount_0f7a4 15 = .ok (.iload_n 0, 1) := by decide +kernel
theorem dJ6_bitCount_0f7a4_16 : decode cJ6_bitCount_0f7a4 16 = .ok (.iconst 2, 1) := by decide +kernel
theorem dJ6_bitCount_0f7a4_17 : decode cJ6_bitCount_0f7a4 17 = .ok (.iushr, 1) := by decide +kernel
theorem dJ6_bitCount_0f7a4_18 : decode cJ6_bitCount_0f7a4 18 = .ok (.ldc_w 266, 3) := by decide +kernel
theorem dJ6_bitCount_0f7a4_21 : decode cJ6_bitCount_0f7a4 21 = .ok (.iand, 1) := by decide +kernel
theorem dJ6_bitCount_0f7a4_22 : decode cJ6_bitCount_0f7a4 22 = .ok (.iadd, 1) := by decide +kernel
theorem dJ6_bitCount_0f7a4_23 : decode cJ6_bitCount_0f7a4 23 = .ok (.istore_n 0, 1) := by decide +kernel
theorem dJ6_bitCount_0f7a4_24 : decode cJ6_bitCount_0f7a4 24 = .ok (.iload_n 0, 1) := by decide +kernel
theorem dJ6_bitCount_0f7a4_25 : decode cJ6_bitCount_0f7a4 25 = .ok (.iload_n 0, 1) := by decide +kernel
theorem dJ6_bitCount_0f7a4_26 : decode cJ6_bitCount_0f7a4 26 = .ok (.iconst 4, 1) := by decide +kernel
theorem dJ6_bitCount_0f7a4_27 : decode cJ6_bitCount_0f7a4 27 = .ok (.iushr, 1) := by decide +kernel
theorem dJ6_bitCount_0f7a4_28 : decode cJ6_bitCount_0f7a4 28 = .ok (.iadd, 1) := by decide +kernel
theorem dJ6_bitCount_0f7a4_29 : decode cJ6_bitCount_0f7a4 29 = .ok (.ldc_w 267, 3) := by decide +kernel
theorem dJ6_bitCount_0f7a4_32 : decode cJ6_bitCount_0f7a4 32 = .ok (.iand, 1) := by decide +kernel
theorem dJ6_bitCount_0f7a4_33 : decode cJ6_bitCount_0f7a4 33 = .ok (.istore_n 0, 1) := by decide +kernel
theorem dJ6_bitCount_0f7a4_34 : decode cJ6_bitCount_0f7a4 34 = .ok (.iload_n 0, 1) := by decide +kernel
theorem dJ6_bitCount_0f7a4_35 : decode cJ6_bitCount_0f7a4 35 = .ok (.iload_n 0, 1) := by decide +kernel
theorem dJ6_bitCount_0f7a4_36 : decode cJ6_bitCount_0f7a4 36 = .ok (.bipush 8, 2) := by decide +kernel
theorem dJ6_bitCount_0f7a4_38 : decode cJ6_bitCount_0f7a4 38 = .ok (.iushr, 1) := by decide +kernel
theorem dJ6_bitCount_0f7a4_39 : decode cJ6_bitCount_0f7a4 39 = .ok (.iadd, 1) := by decide +kernel
theorem dJ6_bitCount_0f7a4_40 : decode cJ6_bitCount_0f7a4 40 = .ok (.istore_n 0, 1) := by decide +kernel
theorem dJ6_bitCount_0f7a4_41 : decode cJ6_bitCount_0f7a4 41 = .ok (.iload_n 0, 1) := by decide +kernel
theorem dJ6_bitCount_0f7a4_42 : decode cJ6_bitCount_0f7a4 42 = .ok (.iload_n 0, 1) := by decide +kernel
theorem dJ6_bitCount_0f7a4_43 : decode cJ6_bitCount_0f7a4 43 = .ok (.bipush 16, 2) := by decide +kernel
theorem dJ6_bitCount_0f7a4_45 : decode cJ6_bitCount_0f7a4 45 = .ok (.iushr, 1) := by decide +kernel
theorem dJ6_bitCount_0f7a4_46 : decode cJ6_bitCount_0f7a4 46 = .ok (.iadd, 1) := by decide +kernel
theorem dJ6_bitCount_0f7a4_47 : decode cJ6_bitCount_0f7a4 47 = .ok (.istore_n 0, 1) := by decide +kernel
theorem dJ6_bitCount_0f7a4_48 : decode cJ6_bitCount_0f7a4 48 = .ok (.iload_n 0, 1) := by decide +kernel
theorem dJ6_bitCount_0f7a4_49 : decode cJ6_bitCount_0f7a4 49 = .ok (.bipush 63, 2) := by decide +kernel
theorem dJ6_bitCount_0f7a4_51 : decode cJ6_bitCount_0f7a4 51 = .ok (.iand, 1) := by decide +kernel
theorem dJ6_bitCount_0f7a4_52 : decode cJ6_bitCount_0f7a4 52 = .ok (.ireturn, 1) := by decide +kernel
theorem dJ0_init_81219_0 : decode cJ0_init_81219 0 = .ok (.aload_n 0, 1) := by decide +kernel
theorem dJ0_init_81219_1 : decode cJ0_init_81219 1 = .ok (.aload_n 1, 1) := by decide +kernel
theorem dJ0_init_81219_2 : decode cJ0_init_81219 2 = .ok (.aconst_null, 1) := by decide +kernel
theorem dJ0_init_81219_3 : decode cJ0_init_81219 3 = .ok (.invokespecial 489, 3) := by decide +kernel
theorem dJ0_init_81219_6 : decode cJ0_init_81219 6 = .ok (.return_, 1) := by decide +kernel
theorem dJ0_length_8abf5_0 : decode cJ0_length_8abf5 0 = .ok (.aload_n 0, 1) := by decide +kernel
theorem dJ0_length_8abf5_1 : decode cJ0_length_8abf5 1 = .ok (.getfield 9, 3) := by decide +kernel
theorem dJ0_length_8abf5_4 : decode cJ0_length_8abf5 4 = .ok (.arraylength, 1) := by decide +kernel
theorem dJ0_length_8abf5_5 : decode cJ0_length_8abf5 5 = .ok (.aload_n 0, 1) := by decide +kernel
theorem dJ0_length_8abf5_6 : decode cJ0_length_8abf5 6 = .ok (.invokevirtual 335, 3) := by decide +kernel
theorem dJ0_length_8abf5_9 : decode cJ0_length_8abf5 9 = .ok (.ishr, 1) := by decide +kernel
theorem dJ0_length_8abf5_10 : decode cJ0_length_8abf5 10 = .ok (.ireturn, 1) := by decide +kernel
theorem dJ0_charAt_5068e_0 : decode cJ0_charAt_5068e 0 = .ok (.aload_n 0, 1) := by decide +kernel
theorem dJ0_charAt_5068e_1 : decode cJ0_charAt_5068e 1 = .ok (.invokevirtual 492, 3) := by decide +kernel
theorem dJ0_charAt_5068e_4 : decode cJ0_charAt_5068e 4 = .ok (.ifCond .eq 12, 3) := by decide +kernel
theorem dJ0_charAt_5068e_7 : decode cJ0_charAt_5068e 7 = .ok (.aload_n 0, 1) := by decide +kernel
theorem dJ0_charAt_5068e_8 : decode cJ0_charAt_5068e 8 = .ok (.getfield 9, 3) := by decide +kernel
theorem dJ0_charAt_5068e_11 : decode cJ0_charAt_5068e 11 = .ok (.iload_n 1, 1) := by decide +kernel
theorem dJ0_charAt_5068e_12 : decode cJ0_charAt_5068e 12 = .ok (.invokestatic 495, 3) := by decide +kernel
theorem dJ0_charAt_5068e_15 : decode cJ0_charAt_5068e 15 = .ok (.ireturn, 1) := by decide +kernel
theorem dJ0_getBytes_840e7_0 : decode cJ0_getBytes_840e7 0 = .ok (.aload_n 0, 1) := by decide +kernel
theorem dJ0_getBytes_840e7_1 : decode cJ0_getBytes_840e7 1 = .ok (.invokevirtual 335, 3) := by decide +kernel
theorem dJ0_getBytes_840e7_4 : decode cJ0_getBytes_840e7 4 = .ok (.iload_n 3, 1) := by decide +kernel
theorem dJ0_getBytes_840e7_5 : decode cJ0_getBytes_840e7 5 = .ok (.if_icmp .ne 23, 3) := by decide +kernel
theorem dJ0_getBytes_840e7_8 : decode cJ0_getBytes_840e7 8 = .ok (.aload_n 0, 1) := by decide +kernel
theorem dJ0_getBytes_840e7_9 : decode cJ0_getBytes_840e7 9 = .ok (.getfield 9, 3) := by decide +kernel
theorem dJ0_getBytes_840e7_12 : decode cJ0_getBytes_840e7 12 = .ok (.iconst 0, 1) := by decide +kernel
theorem dJ0_getBytes_840e7_13 : decode cJ0_getBytes_840e7 13 = .ok (.aload_n 1, 1) := by decide +kernel
theorem dJ0_getBytes_840e7_14 : decode cJ0_getBytes_840e7 14 = .ok (.iload_n 2, 1) := by decide +kernel
theorem dJ0_getBytes_840e7_15 : decode cJ0_getBytes_840e7 15 = .ok (.iload_n 3, 1) := by decide +kernel
theorem dJ0_getBytes_840e7_16 : decode cJ0_getBytes_840e7 16 = .ok (.ishl, 1) := by decide +kernel
theorem dJ0_getBytes_840e7_17 : decode cJ0_getBytes_840e7 17 = .ok (.aload_n 0, 1) := by decide +kernel
theorem dJ0_getBytes_840e7_18 : decode cJ0_getBytes_840e7 18 = .ok (.getfield 9, 3) := by decide +kernel
theorem dJ0_getBytes_840e7_21 : decode cJ0_getBytes_840e7 21 = .ok (.arraylength, 1) := by decide +kernel
theorem dJ0_getBytes_840e7_22 : decode cJ0_getBytes_840e7 22 = .ok (.invokestatic 212, 3) := by decide +kernel
theorem dJ0_getBytes_840e7_25 : decode cJ0_getBytes_840e7 25 = .ok (.goto 18, 3) := by decide +kernel
theorem dJ0_getBytes_840e7_43 : decode cJ0_getBytes_840e7 43 = .ok (.return_, 1) := by decide +kernel
theorem dJ0_init_db425_0 : decode cJ0_init_db425 0 = .ok (.aload_n 0, 1) := by decide +kernel
theorem dJ0_init_db425_1 : decode cJ0_init_db425 1 = .ok (.invokespecial 1, 3) := by decide +kernel
theorem dJ0_init_db425_4 : decode cJ0_init_db425 4 = .ok (.aload_n 1, 1) := by decide +kernel
theorem dJ0_init_db425_5 : decode cJ0_init_db425 5 = .ok (.invokevirtual 552, 3) := by decide +kernel
theorem dJ0_init_db425_8 : decode cJ0_init_db425 8 = .ok (.astore_n 3, 1) := by decide +kernel
theorem dJ0_init_db425_9 : decode cJ0_init_db425 9 = .ok (.aload_n 1, 1) := by decide +kernel
theorem dJ0_init_db425_10 : decode cJ0_init_db425 10 = .ok (.invokevirtual 549, 3) := by decide +kernel
theorem dJ0_init_db425_13 : decode cJ0_init_db425 13 = .ok (.istore 4, 2) := by decide +kernel
theorem dJ0_init_db425_15 : decode cJ0_init_db425 15 = .ok (.aload_n 1, 1) := by decide +kernel
theorem dJ0_init_db425_16 : decode cJ0_init_db425 16 = .ok (.invokevirtual 1047, 3) := by decide +kernel
theorem dJ0_init_db425_19 : decode cJ0_init_db425 19 = .ok (.ifCond .eq 22, 3) := by decide +kernel
theorem dJ0_init_db425_22 : decode cJ0_init_db425 22 = .ok (.aload_n 0, 1) := by decide +kernel
theorem dJ0_init_db425_23 : decode cJ0_init_db425 23 = .ok (.iconst 0, 1) := by decide +kernel
theorem dJ0_init_db425_24 : decode cJ0_init_db425 24 = .ok (.putfield 15, 3) := by decide +kernel
theorem dJ0_init_db425_27 : decode cJ0_init_db425 27 = .ok (.aload_n 0, 1) := by decide +kernel
theorem dJ0_init_db425_28 : decode cJ0_init_db425 28 = .ok (.aload_n 3, 1) := by decide +kernel
theorem dJ0_init_db425_29 : decode cJ0_init_db425 29 = .ok (.iconst 0, 1) := by decide +kernel
theorem dJ0_init_db425_30 : decode cJ0_init_db425 30 = .ok (.iload 4, 2) := by decide +kernel
theorem dJ0_init_db425_32 : decode cJ0_init_db425 32 = .ok (.invokestatic 54, 3) := by decide +kernel
theorem dJ0_init_db425_35 : decode cJ0_init_db425 35 = .ok (.putfield 9, 3) := by decide +kernel
theorem dJ0_init_db425_38 : decode cJ0_init_db425 38 = .ok (.goto 59, 3) := by decide +kernel
theorem dJ0_init_db425_41 : decode cJ0_init_db425 41 = .ok (.getstatic 38, 3) := by decide +kernel
theorem dJ0_init_db425_44 : decode cJ0_init_db425 44 = .ok (.ifCond .eq 35, 3) := by decide +kernel
theorem dJ0_init_db425_47 : decode cJ0_init_db425 47 = .ok (.aload_n 1, 1) := by decide +kernel
theorem dJ0_init_db425_48 : decode cJ0_init_db425 48 = .ok (.getfield 1048, 3) := by decide +kernel
theorem dJ0_init_db425_51 : decode cJ0_init_db425 51 = .ok (.ifCond .eq 28, 3) := by decide +kernel
theorem dJ0_init_db425_54 : decode cJ0_init_db425 54 = .ok (.aload_n 0, 1) := by decide +kernel
theorem dJ0_init_db425_55 : decode cJ0_init_db425 55 = .ok (.aload_n 3, 1) := by decide +kernel
theorem dJ0_init_db425_56 : decode cJ0_init_db425 56 = .ok (.iconst 0, 1) := by decide +kernel
theorem dJ0_init_db425_57 : decode cJ0_init_db425 57 = .ok (.iload 4, 2) := by decide +kernel
theorem dJ0_init_db425_59 : decode cJ0_init_db425 59 = .ok (.invokestatic 1051, 3) := by decide +kernel
theorem dJ0_init_db425_62 : decode cJ0_init_db425 62 = .ok (.putfield 9, 3) := by decide +kernel
theorem dJ0_init_db425_65 : decode cJ0_init_db425 65 = .ok (.aload_n 0, 1) := by decide +kernel
theorem dJ0_init_db425_66 : decode cJ0_init_db425 66 = .ok (.aload_n 0, 1) := by decide +kernel
theorem dJ0_init_db425_67 : decode cJ0_init_db425 67 = .ok (.getfield 9, 3) := by decide +kernel
theorem dJ0_init_db425_70 : decode cJ0_init_db425 70 = .ok (.iload 4, 2) := by decide +kernel
theorem dJ0_init_db425_72 : decode cJ0_init_db425 72 = .ok (.invokestatic 47, 3) := by decide +kernel
theorem dJ0_init_db425_75 : decode cJ0_init_db425 75 = .ok (.putfield 15, 3) := by decide +kernel
theorem dJ0_init_db425_78 : decode cJ0_init_db425 78 = .ok (.return_, 1) := by decide +kernel
theorem dJ0_init_db425_79 : decode cJ0_init_db425 79 = .ok (.aload_n 0, 1) := by decide +kernel
theorem dJ0_init_db425_80 : decode cJ0_init_db425 80 = .ok (.iconst 1, 1) := by decide +kernel
theorem dJ0_init_db425_81 : decode cJ0_init_db425 81 = .ok (.putfield 15, 3) := by decide +kernel
theorem dJ0_init_db425_84 : decode cJ0_init_db425 84 = .ok (.aload_n 0, 1) := by decide +kernel
theorem dJ0_init_db425_85 : decode cJ0_init_db425 85 = .ok (.aload_n 3, 1) := by decide +kernel
theorem dJ0_init_db425_86 : decode cJ0_init_db425 86 = .ok (.iconst 0, 1) := by decide +kernel
theorem dJ0_init_db425_87 : decode cJ0_init_db425 87 = .ok (.iload 4, 2) := by decide +kernel
theorem dJ0_init_db425_89 : decode cJ0_init_db425 89 = .ok (.iconst 1, 1) := by decide +kernel
theorem dJ0_init_db425_90 : decode cJ0_init_db425 90 = .ok (.ishl, 1) := by decide +kernel
theorem dJ0_init_db425_91 : decode cJ0_init_db425 91 = .ok (.invokestatic 54, 3) := by decide +kernel
theorem dJ0_init_db425_94 : decode cJ0_init_db425 94 = .ok (.putfield 9, 3) := by decide +kernel
theorem dJ0_init_db425_97 : decode cJ0_init_db425 97 = .ok (.return_, 1) := by decide +kernel
theorem dJ0_coder_7d493_0 : decode cJ0_coder_7d493 0 = .ok (.getstatic 38, 3) := by decide +kernel
theorem dJ0_coder_7d493_3 : decode cJ0_coder_7d493 3 = .ok (.ifCond .eq 10, 3) := by decide +kernel
theorem dJ0_coder_7d493_6 : decode cJ0_coder_7d493 6 = .ok (.aload_n 0, 1) := by decide +kernel
theorem dJ0_coder_7d493_7 : decode cJ0_coder_7d493 7 = .ok (.getfield 15, 3) := by decide +kernel
theorem dJ0_coder_7d493_10 : decode cJ0_coder_7d493 10 = .ok (.goto 4, 3) := by decide +kernel
theorem dJ0_coder_7d493_14 : decode cJ0_coder_7d493 14 = .ok (.ireturn, 1) := by decide +kernel
theorem dJ0_isLatin1_aae02_0 : decode cJ0_isLatin1_aae02 0 = .ok (.getstatic 38, 3) := by decide +kernel
theorem dJ0_isLatin1_aae02_3 : decode cJ0_isLatin1_aae02 3 = .ok (.ifCond .eq 14, 3) := by decide +kernel
theorem dJ0_isLatin1_aae02_6 : decode cJ0_isLatin1_aae02 6 = .ok (.aload_n 0, 1) := by decide +kernel
theorem dJ0_isLatin1_aae02_7 : decode cJ0_isLatin1_aae02 7 = .ok (.getfield 15, 3) := by decide +kernel
theorem dJ0_isLatin1_aae02_10 : decode cJ0_isLatin1_aae02 10 = .ok (.ifCond .ne 7, 3) := by decide +kernel
theorem dJ0_isLatin1_aae02_13 : decode cJ0_isLatin1_aae02 13 = .ok (.iconst 1, 1) := by decide +kernel
theorem dJ0_isLatin1_aae02_14 : decode cJ0_isLatin1_aae02 14 = .ok (.goto 4, 3) := by decide +kernel
theorem dJ0_isLatin1_aae02_18 : decode cJ0_isLatin1_aae02 18 = .ok (.ireturn, 1) := by decide +kernel
theorem dJ0_checkIndex_df160_0 : decode cJ0_checkIndex_df160 0 = .ok (.iload_n 0, 1) := by decide +kernel
theorem dJ0_checkIndex_df160_1 : decode cJ0_checkIndex_df160 1 = .ok (.iload_n 1, 1) := by decide +kernel
theorem dJ0_checkIndex_df160_2 : decode cJ0_checkIndex_df160 2 = .ok (.getstatic 1053, 3) := by decide +kernel
theorem dJ0_checkIndex_df160_5 : decode cJ0_checkIndex_df160 5 = .ok (.invokestatic 1059, 3) := by decide +kernel
theorem dJ0_checkIndex_df160_8 : decode cJ0_checkIndex_df160 8 = .ok (.pop, 1) := by decide +kernel
theorem dJ0_checkIndex_df160_9 : decode cJ0_checkIndex_df160 9 = .ok (.return_, 1) := by decide +kernel
theorem dJ4_init_da8c8_0 : decode cJ4_init_da8c8 0 = .ok (.aload_n 0, 1) := by decide +kernel
theorem dJ4_init_da8c8_1 : decode cJ4_init_da8c8 1 = .ok (.bipush 16, 2) := by decide +kernel
theorem dJ4_init_da8c8_3 : decode cJ4_init_da8c8 3 = .ok (.invokespecial 1, 3) := by decide +kernel
theorem dJ4_init_da8c8_6 : decode cJ4_init_da8c8 6 = .ok (.return_, 1) := by decide +kernel
theorem dJ4_append_15ec4_0 : decode cJ4_append_15ec4 0 = .ok (.aload_n 0, 1) := by decide +kernel
theorem dJ4_append_15ec4_1 : decode cJ4_append_15ec4 1 = .ok (.aload_n 1, 1) := by decide +kernel
theorem dJ4_append_15ec4_2 : decode cJ4_append_15ec4 2 = .ok (.invokespecial 29, 3) := by decide +kernel
theorem dJ4_append_15ec4_5 : decode cJ4_append_15ec4 5 = .ok (.pop, 1) := by decide +kernel
theorem dJ4_append_15ec4_6 : decode cJ4_append_15ec4 6 = .ok (.aload_n 0, 1) := by decide +kernel
theorem dJ4_append_15ec4_7 : decode cJ4_append_15ec4 7 = .ok (.areturn, 1) := by decide +kernel
theorem dJ4_append_cf468_0 : decode cJ4_append_cf468 0 = .ok (.aload_n 0, 1) := by decide +kernel
theorem dJ4_append_cf468_1 : decode cJ4_append_cf468 1 = .ok (.iload_n 1, 1) := by decide +kernel
theorem dJ4_append_cf468_2 : decode cJ4_append_cf468 2 = .ok (.invokespecial 50, 3) := by decide +kernel
theorem dJ4_append_cf468_5 : decode cJ4_append_cf468 5 = .ok (.pop, 1) := by decide +kernel
theorem dJ4_append_cf468_6 : decode cJ4_append_cf468 6 = .ok (.aload_n 0, 1) := by decide +kernel
theorem dJ4_append_cf468_7 : decode cJ4_append_cf468 7 = .ok (.areturn, 1) := by decide +kernel
theorem dJ4_append_bf812_0 : decode cJ4_append_bf812 0 = .ok (.aload_n 0, 1) := by decide +kernel
theorem dJ4_append_bf812_1 : decode cJ4_append_bf812 1 = .ok (.iload_n 1, 1) := by decide +kernel
theorem dJ4_append_bf812_2 : decode cJ4_append_bf812 2 = .ok (.invokespecial 53, 3) := by decide +kernel
theorem dJ4_append_bf812_5 : decode cJ4_append_bf812 5 = .ok (.pop, 1) := by decide +kernel
theorem dJ4_append_bf812_6 : decode cJ4_append_bf812 6 = .ok (.aload_n 0, 1) := by decide +kernel
theorem dJ4_append_bf812_7 : decode cJ4_append_bf812 7 = .ok (.areturn, 1) := by decide +kernel
theorem dJ4_charAt_5068e_0 : decode cJ4_charAt_5068e 0 = .ok (.aload_n 0, 1) := by decide +kernel
theorem dJ4_charAt_5068e_1 : decode cJ4_charAt_5068e 1 = .ok (.iload_n 1, 1) := by decide +kernel
theorem dJ4_charAt_5068e_2 : decode cJ4_charAt_5068e 2 = .ok (.invokespecial 329, 3) := by decide +kernel
theorem dJ4_charAt_5068e_5 : decode cJ4_charAt_5068e 5 = .ok (.ireturn, 1) := by decide +kernel
theorem dJ4_setLength_d00df_0 : decode cJ4_setLength_d00df 0 = .ok (.aload_n 0, 1) := by decide +kernel
theorem dJ4_setLength_d00df_1 : decode cJ4_setLength_d00df 1 = .ok (.iload_n 1, 1) := by decide +kernel
theorem dJ4_setLength_d00df_2 : decode cJ4_setLength_d00df 2 = .ok (.invokespecial 333, 3) := by decide +kernel
theorem dJ4_setLength_d00df_5 : decode cJ4_setLength_d00df 5 = .ok (.return_, 1) := by decide +kernel
theorem dJ4_length_8abf5_0 : decode cJ4_length_8abf5 0 = .ok (.aload_n 0, 1) := by decide +kernel
theorem dJ4_length_8abf5_1 : decode cJ4_length_8abf5 1 = .ok (.invokespecial 343, 3) := by decide +kernel
theorem dJ4_length_8abf5_4 : decode cJ4_length_8abf5 4 = .ok (.ireturn, 1) := by decide +kernel
theorem dJx7c733_init_d00df_0 : decode cJx7c733_init_d00df 0 = .ok (.aload_n 0, 1) := by decide +kernel
theorem dJx7c733_init_d00df_1 : decode cJx7c733_init_d00df 1 = .ok (.new 10, 3) := by decide +kernel
theorem dJx7c733_init_d00df_4 : decode cJx7c733_init_d00df 4 = .ok (.dup, 1) := by decide +kernel
theorem dJx7c733_init_d00df_5 : decode cJx7c733_init_d00df 5 = .ok (.invokespecial 12, 3) := by decide +kernel
theorem dJx7c733_init_d00df_8 : decode cJx7c733_init_d00df 8 = .ok (.ldc 13, 2) := by decide +kernel
theorem dJx7c733_init_d00df_10 : decode cJx7c733_init_d00df 10 = .ok (.invokevirtual 15, 3) := by decide +kernel
theorem dJx7c733_init_d00df_13 : decode cJx7c733_init_d00df 13 = .ok (.iload_n 1, 1) := by decide +kernel
theorem dJx7c733_init_d00df_14 : decode cJx7c733_init_d00df 14 = .ok (.invokevirtual 19, 3) := by decide +kernel
theorem dJx7c733_init_d00df_17 : decode cJx7c733_init_d00df 17 = .ok (.invokevirtual 22, 3) := by decide +kernel
theorem dJx7c733_init_d00df_20 : decode cJx7c733_init_d00df 20 = .ok (.invokespecial 7, 3) := by decide +kernel
theorem dJx7c733_init_d00df_23 : decode cJx7c733_init_d00df 23 = .ok (.return_, 1) := by decide +kernel
theorem dJ1_charAt_3b067_0 : decode cJ1_charAt_3b067 0 = .ok (.iload_n 1, 1) := by decide +kernel
theorem dJ1_charAt_3b067_1 : decode cJ1_charAt_3b067 1 = .ok (.aload_n 0, 1) := by decide +kernel
theorem dJ1_charAt_3b067_2 : decode cJ1_charAt_3b067 2 = .ok (.arraylength, 1) := by decide +kernel
theorem dJ1_charAt_3b067_3 : decode cJ1_charAt_3b067 3 = .ok (.invokestatic 9, 3) := by decide +kernel
theorem dJ1_charAt_3b067_6 : decode cJ1_charAt_3b067 6 = .ok (.aload_n 0, 1) := by decide +kernel
theorem dJ1_charAt_3b067_7 : decode cJ1_charAt_3b067 7 = .ok (.iload_n 1, 1) := by decide +kernel
theorem dJ1_charAt_3b067_8 : decode cJ1_charAt_3b067 8 = .ok (.baload, 1) := by decide +kernel
theorem dJ1_charAt_3b067_9 : decode cJ1_charAt_3b067 9 = .ok (.sipush 255, 3) := by decide +kernel
theorem dJ1_charAt_3b067_12 : decode cJ1_charAt_3b067 12 = .ok (.iand, 1) := by decide +kernel
theorem dJ1_charAt_3b067_13 : decode cJ1_charAt_3b067 13 = .ok (.i2c, 1) := by decide +kernel
theorem dJ1_charAt_3b067_14 : decode cJ1_charAt_3b067 14 = .ok (.ireturn, 1) := by decide +kernel
theorem dJ1_canEncode_fc78d_0 : decode cJ1_canEncode_fc78d 0 = .ok (.iload_n 0, 1) := by decide +kernel
theorem dJ1_canEncode_fc78d_1 : decode cJ1_canEncode_fc78d 1 = .ok (.sipush 255, 3) := by decide +kernel
theorem dJ1_canEncode_fc78d_4 : decode cJ1_canEncode_fc78d 4 = .ok (.if_icmp .gt 7, 3) := by decide +kernel
theorem dJ1_canEncode_fc78d_7 : decode cJ1_canEncode_fc78d 7 = .ok (.iconst 1, 1) := by decide +kernel
theorem dJ1_canEncode_fc78d_8 : decode cJ1_canEncode_fc78d 8 = .ok (.goto 4, 3) := by decide +kernel
theorem dJ1_canEncode_fc78d_11 : decode cJ1_canEncode_fc78d 11 = .ok (.iconst 0, 1) := by decide +kernel
theorem dJ1_canEncode_fc78d_12 : decode cJ1_canEncode_fc78d 12 = .ok (.ireturn, 1) := by decide +kernel
theorem dJ7_fill_53178_0 : decode cJ7_fill_53178 0 = .ok (.iconst 0, 1) := by decide +kernel
theorem dJ7_fill_53178_1 : decode cJ7_fill_53178 1 = .ok (.istore_n 2, 1) := by decide +kernel
theorem dJ7_fill_53178_2 : decode cJ7_fill_53178 2 = .ok (.aload_n 0, 1) := by decide +kernel
theorem dJ7_fill_53178_3 : decode cJ7_fill_53178 3 = .ok (.arraylength, 1) := by decide +kernel
theorem dJ7_fill_53178_4 : decode cJ7_fill_53178 4 = .ok (.istore_n 3, 1) := by decide +kernel
theorem dJ7_fill_53178_5 : decode cJ7_fill_53178 5 = .ok (.iload_n 2, 1) := by decide +kernel
theorem dJ7_fill_53178_6 : decode cJ7_fill_53178 6 = .ok (.iload_n 3, 1) := by decide +kernel
theorem dJ7_fill_53178_7 : decode cJ7_fill_53178 7 = .ok (.if_icmp .ge 13, 3) := by decide +kernel
theorem dJ7_fill_53178_10 : decode cJ7_fill_53178 10 = .ok (.aload_n 0, 1) := by decide +kernel
theorem dJ7_fill_53178_11 : decode cJ7_fill_53178 11 = .ok (.iload_n 2, 1) := by decide +kernel
theorem dJ7_fill_53178_12 : decode cJ7_fill_53178 12 = .ok (.iload_n 1, 1) := by decide +kernel
theorem dJ7_fill_53178_13 : decode cJ7_fill_53178 13 = .ok (.iastore, 1) := by decide +kernel
theorem dJ7_fill_53178_14 : decode cJ7_fill_53178 14 = .ok (.iinc 2 1, 3) := by decide +kernel
theorem dJ7_fill_53178_17 : decode cJ7_fill_53178 17 = .ok (.goto (-12), 3) := by decide +kernel
theorem dJ7_fill_53178_20 : decode cJ7_fill_53178 20 = .ok (.return_, 1) := by decide +kernel
theorem dJ3_checkIndex_8e157_0 : decode cJ3_checkIndex_8e157 0 = .ok (.iload_n 0, 1) := by decide +kernel
theorem dJ3_checkIndex_8e157_1 : decode cJ3_checkIndex_8e157 1 = .ok (.ifCond .lt 8, 3) := by decide +kernel
theorem dJ3_checkIndex_8e157_4 : decode cJ3_checkIndex_8e157 4 = .ok (.iload_n 0, 1) := by decide +kernel
theorem dJ3_checkIndex_8e157_5 : decode cJ3_checkIndex_8e157 5 = .ok (.iload_n 1, 1) := by decide +kernel
theorem dJ3_checkIndex_8e157_6 : decode cJ3_checkIndex_8e157 6 = .ok (.if_icmp .lt 10, 3) := by decide +kernel
theorem dJ3_checkIndex_8e157_16 : decode cJ3_checkIndex_8e157 16 = .ok (.iload_n 0, 1) := by decide +kernel
theorem dJ3_checkIndex_8e157_17 : decode cJ3_checkIndex_8e157 17 = .ok (.ireturn, 1) := by decide +kernel
theorem dL_hedge_0 : decode cL_hedge 0 = .ok (.aload 4, 2) := by decide +kernel
theorem dL_hedge_2 : decode cL_hedge 2 = .ok (.iconst 0, 1) := by decide +kernel
theorem dL_hedge_3 : decode cL_hedge 3 = .ok (.aload_n 0, 1) := by decide +kernel
theorem dL_hedge_4 : decode cL_hedge 4 = .ok (.iload_n 1, 1) := by decide +kernel
theorem dL_hedge_5 : decode cL_hedge 5 = .ok (.iload_n 2, 1) := by decide +kernel
theorem dL_hedge_6 : decode cL_hedge 6 = .ok (.iload_n 3, 1) := by decide +kernel
theorem dL_hedge_7 : decode cL_hedge 7 = .ok (.invokevirtual 7, 3) := by decide +kernel
theorem dL_hedge_10 : decode cL_hedge 10 = .ok (.i2l, 1) := by decide +kernel
theorem dL_hedge_11 : decode cL_hedge 11 = .ok (.lastore, 1) := by decide +kernel
theorem dL_hedge_12 : decode cL_hedge 12 = .ok (.goto 7, 3) := by decide +kernel
theorem dL_hedge_15 : decode cL_hedge 15 = .ok (.astore 5, 2) := by decide +kernel
theorem dL_hedge_17 : decode cL_hedge 17 = .ok (.iconst 1, 1) := by decide +kernel
theorem dL_hedge_18 : decode cL_hedge 18 = .ok (.ireturn, 1) := by decide +kernel
theorem dL_hedge_19 : decode cL_hedge 19 = .ok (.iconst 0, 1) := by decide +kernel
theorem dL_hedge_20 : decode cL_hedge 20 = .ok (.ireturn, 1) := by decide +kernel
theorem dL_trim_0 : decode cL_trim 0 = .ok (.aload 4, 2) := by decide +kernel
theorem dL_trim_2 : decode cL_trim 2 = .ok (.iconst 0, 1) := by decide +kernel
theorem dL_trim_3 : decode cL_trim 3 = .ok (.aload_n 0, 1) := by decide +kernel
theorem dL_trim_4 : decode cL_trim 4 = .ok (.iload_n 1, 1) := by decide +kernel
theorem dL_trim_5 : decode cL_trim 5 = .ok (.iload_n 2, 1) := by decide +kernel
theorem dL_trim_6 : decode cL_trim 6 = .ok (.iload_n 3, 1) := by decide +kernel
theorem dL_trim_7 : decode cL_trim 7 = .ok (.invokevirtual 15, 3) := by decide +kernel
theorem dL_trim_10 : decode cL_trim 10 = .ok (.i2l, 1) := by decide +kernel
theorem dL_trim_11 : decode cL_trim 11 = .ok (.lastore, 1) := by decide +kernel
theorem dL_trim_12 : decode cL_trim 12 = .ok (.goto 7, 3) := by decide +kernel
theorem dL_trim_15 : decode cL_trim 15 = .ok (.astore 5, 2) := by decide +kernel
theorem dL_trim_17 : decode cL_trim 17 = .ok (.iconst 1, 1) := by decide +kernel
theorem dL_trim_18 : decode cL_trim 18 = .ok (.ireturn, 1) := by decide +kernel
theorem dL_trim_19 : decode cL_trim 19 = .ok (.iconst 0, 1) := by decide +kernel
theorem dL_trim_20 : decode cL_trim 20 = .ok (.ireturn, 1) := by decide +kernel
theorem dL_minotaur_0 : decode cL_minotaur 0 = .ok (.aload_n 2, 1) := by decide +kernel
theorem dL_minotaur_1 : decode cL_minotaur 1 = .ok (.iconst 0, 1) := by decide +kernel
theorem dL_minotaur_2 : decode cL_minotaur 2 = .ok (.aload_n 0, 1) := by decide +kernel
theorem dL_minotaur_3 : decode cL_minotaur 3 = .ok (.iload_n 1, 1) := by decide +kernel
theorem dL_minotaur_4 : decode cL_minotaur 4 = .ok (.invokevirtual 18, 3) := by decide +kernel
theorem dL_minotaur_7 : decode cL_minotaur 7 = .ok (.i2l, 1) := by decide +kernel
theorem dL_minotaur_8 : decode cL_minotaur 8 = .ok (.lastore, 1) := by decide +kernel
theorem dL_minotaur_9 : decode cL_minotaur 9 = .ok (.goto 6, 3) := by decide +kernel
theorem dL_minotaur_12 : decode cL_minotaur 12 = .ok (.astore_n 3, 1) := by decide +kernel
theorem dL_minotaur_13 : decode cL_minotaur 13 = .ok (.iconst 1, 1) := by decide +kernel
theorem dL_minotaur_14 : decode cL_minotaur 14 = .ok (.ireturn, 1) := by decide +kernel
theorem dL_minotaur_15 : decode cL_minotaur 15 = .ok (.iconst 0, 1) := by decide +kernel
theorem dL_minotaur_16 : decode cL_minotaur 16 = .ok (.ireturn, 1) := by decide +kernel
theorem dL_gardener_0 : decode cL_gardener 0 = .ok (.aload_n 2, 1) := by decide +kernel
theorem dL_gardener_1 : decode cL_gardener 1 = .ok (.iconst 0, 1) := by decide +kernel
theorem dL_gardener_2 : decode cL_gardener 2 = .ok (.aload_n 0, 1) := by decide +kernel
theorem dL_gardener_3 : decode cL_gardener 3 = .ok (.iload_n 1, 1) := by decide +kernel
theorem dL_gardener_4 : decode cL_gardener 4 = .ok (.invokevirtual 22, 3) := by decide +kernel
theorem dL_gardener_7 : decode cL_gardener 7 = .ok (.i2l, 1) := by decide +kernel
theorem dL_gardener_8 : decode cL_gardener 8 = .ok (.lastore, 1) := by decide +kernel
theorem dL_gardener_9 : decode cL_gardener 9 = .ok (.goto 6, 3) := by decide +kernel
theorem dL_gardener_12 : decode cL_gardener 12 = .ok (.astore_n 3, 1) := by decide +kernel
theorem dL_gardener_13 : decode cL_gardener 13 = .ok (.iconst 1, 1) := by decide +kernel
theorem dL_gardener_14 : decode cL_gardener 14 = .ok (.ireturn, 1) := by decide +kernel
theorem dL_gardener_15 : decode cL_gardener 15 = .ok (.iconst 0, 1) := by decide +kernel
theorem dL_gardener_16 : decode cL_gardener 16 = .ok (.ireturn, 1) := by decide +kernel
theorem dL_visitor_0 : decode cL_visitor 0 = .ok (.aload_n 2, 1) := by decide +kernel
theorem dL_visitor_1 : decode cL_visitor 1 = .ok (.iconst 0, 1) := by decide +kernel
theorem dL_visitor_2 : decode cL_visitor 2 = .ok (.aload_n 0, 1) := by decide +kernel
theorem dL_visitor_3 : decode cL_visitor 3 = .ok (.iload_n 1, 1) := by decide +kernel
theorem dL_visitor_4 : decode cL_visitor 4 = .ok (.invokevirtual 25, 3) := by decide +kernel
theorem dL_visitor_7 : decode cL_visitor 7 = .ok (.i2l, 1) := by decide +kernel
theorem dL_visitor_8 : decode cL_visitor 8 = .ok (.lastore, 1) := by decide +kernel
theorem dL_visitor_9 : decode cL_visitor 9 = .ok (.goto 6, 3) := by decide +kernel
theorem dL_visitor_12 : decode cL_visitor 12 = .ok (.astore_n 3, 1) := by decide +kernel
theorem dL_visitor_13 : decode cL_visitor 13 = .ok (.iconst 1, 1) := by decide +kernel
theorem dL_visitor_14 : decode cL_visitor 14 = .ok (.ireturn, 1) := by decide +kernel
theorem dL_visitor_15 : decode cL_visitor 15 = .ok (.iconst 0, 1) := by decide +kernel
theorem dL_visitor_16 : decode cL_visitor 16 = .ok (.ireturn, 1) := by decide +kernel
theorem dL_bond_0 : decode cL_bond 0 = .ok (.aload 4, 2) := by decide +kernel
theorem dL_bond_2 : decode cL_bond 2 = .ok (.iconst 0, 1) := by decide +kernel
theorem dL_bond_3 : decode cL_bond 3 = .ok (.aload_n 0, 1) := by decide +kernel
theorem dL_bond_4 : decode cL_bond 4 = .ok (.iload_n 1, 1) := by decide +kernel
theorem dL_bond_5 : decode cL_bond 5 = .ok (.iload_n 2, 1) := by decide +kernel
theorem dL_bond_6 : decode cL_bond 6 = .ok (.iload_n 3, 1) := by decide +kernel
theorem dL_bond_7 : decode cL_bond 7 = .ok (.invokevirtual 28, 3) := by decide +kernel
theorem dL_bond_10 : decode cL_bond 10 = .ok (.i2l, 1) := by decide +kernel
theorem dL_bond_11 : decode cL_bond 11 = .ok (.lastore, 1) := by decide +kernel
theorem dL_bond_12 : decode cL_bond 12 = .ok (.goto 7, 3) := by decide +kernel
theorem dL_bond_15 : decode cL_bond 15 = .ok (.astore 5, 2) := by decide +kernel
theorem dL_bond_17 : decode cL_bond 17 = .ok (.iconst 1, 1) := by decide +kernel
theorem dL_bond_18 : decode cL_bond 18 = .ok (.ireturn, 1) := by decide +kernel
theorem dL_bond_19 : decode cL_bond 19 = .ok (.iconst 0, 1) := by decide +kernel
theorem dL_bond_20 : decode cL_bond 20 = .ok (.ireturn, 1) := by decide +kernel
theorem dL_walk_0 : decode cL_walk 0 = .ok (.aload_n 3, 1) := by decide +kernel
theorem dL_walk_1 : decode cL_walk 1 = .ok (.iconst 0, 1) := by decide +kernel
theorem dL_walk_2 : decode cL_walk 2 = .ok (.aload_n 0, 1) := by decide +kernel
theorem dL_walk_3 : decode cL_walk 3 = .ok (.iload_n 1, 1) := by decide +kernel
theorem dL_walk_4 : decode cL_walk 4 = .ok (.iload_n 2, 1) := by decide +kernel
theorem dL_walk_5 : decode cL_walk 5 = .ok (.invokevirtual 31, 3) := by decide +kernel
theorem dL_walk_8 : decode cL_walk 8 = .ok (.i2l, 1) := by decide +kernel
theorem dL_walk_9 : decode cL_walk 9 = .ok (.lastore, 1) := by decide +kernel
theorem dL_walk_10 : decode cL_walk 10 = .ok (.goto 7, 3) := by decide +kernel
theorem dL_walk_13 : decode cL_walk 13 = .ok (.astore 4, 2) := by decide +kernel
theorem dL_walk_15 : decode cL_walk 15 = .ok (.iconst 1, 1) := by decide +kernel
theorem dL_walk_16 : decode cL_walk 16 = .ok (.ireturn, 1) := by decide +kernel
theorem dL_walk_17 : decode cL_walk 17 = .ok (.iconst 0, 1) := by decide +kernel
theorem dL_walk_18 : decode cL_walk 18 = .ok (.ireturn, 1) := by decide +kernel
theorem dL_rest_0 : decode cL_rest 0 = .ok (.aload_n 3, 1) := by decide +kernel
theorem dL_rest_1 : decode cL_rest 1 = .ok (.iconst 0, 1) := by decide +kernel
theorem dL_rest_2 : decode cL_rest 2 = .ok (.aload_n 0, 1) := by decide +kernel
theorem dL_rest_3 : decode cL_rest 3 = .ok (.iload_n 1, 1) := by decide +kernel
theorem dL_rest_4 : decode cL_rest 4 = .ok (.iload_n 2, 1) := by decide +kernel
theorem dL_rest_5 : decode cL_rest 5 = .ok (.invokevirtual 35, 3) := by decide +kernel
theorem dL_rest_8 : decode cL_rest 8 = .ok (.i2l, 1) := by decide +kernel
theorem dL_rest_9 : decode cL_rest 9 = .ok (.lastore, 1) := by decide +kernel
theorem dL_rest_10 : decode cL_rest 10 = .ok (.goto 7, 3) := by decide +kernel
theorem dL_rest_13 : decode cL_rest 13 = .ok (.astore 4, 2) := by decide +kernel
theorem dL_rest_15 : decode cL_rest 15 = .ok (.iconst 1, 1) := by decide +kernel
theorem dL_rest_16 : decode cL_rest 16 = .ok (.ireturn, 1) := by decide +kernel
theorem dL_rest_17 : decode cL_rest 17 = .ok (.iconst 0, 1) := by decide +kernel
theorem dL_rest_18 : decode cL_rest 18 = .ok (.ireturn, 1) := by decide +kernel
theorem dL_leaves_0 : decode cL_leaves 0 = .ok (.aload_n 3, 1) := by decide +kernel
theorem dL_leaves_1 : decode cL_leaves 1 = .ok (.iconst 0, 1) := by decide +kernel
theorem dL_leaves_2 : decode cL_leaves 2 = .ok (.aload_n 0, 1) := by decide +kernel
theorem dL_leaves_3 : decode cL_leaves 3 = .ok (.iload_n 1, 1) := by decide +kernel
theorem dL_leaves_4 : decode cL_leaves 4 = .ok (.iload_n 2, 1) := by decide +kernel
theorem dL_leaves_5 : decode cL_leaves 5 = .ok (.invokevirtual 38, 3) := by decide +kernel
theorem dL_leaves_8 : decode cL_leaves 8 = .ok (.i2l, 1) := by decide +kernel
theorem dL_leaves_9 : decode cL_leaves 9 = .ok (.lastore, 1) := by decide +kernel
theorem dL_leaves_10 : decode cL_leaves 10 = .ok (.goto 11, 3) := by decide +kernel
theorem dL_leaves_13 : decode cL_leaves 13 = .ok (.astore 4, 2) := by decide +kernel
theorem dL_leaves_15 : decode cL_leaves 15 = .ok (.iconst 1, 1) := by decide +kernel
theorem dL_leaves_16 : decode cL_leaves 16 = .ok (.ireturn, 1) := by decide +kernel
theorem dL_leaves_17 : decode cL_leaves 17 = .ok (.astore 4, 2) := by decide +kernel
theorem dL_leaves_19 : decode cL_leaves 19 = .ok (.iconst 2, 1) := by decide +kernel
theorem dL_leaves_20 : decode cL_leaves 20 = .ok (.ireturn, 1) := by decide +kernel
theorem dL_leaves_21 : decode cL_leaves 21 = .ok (.iconst 0, 1) := by decide +kernel
theorem dL_leaves_22 : decode cL_leaves 22 = .ok (.ireturn, 1) := by decide +kernel
theorem dL_isGap_0 : decode cL_isGap 0 = .ok (.aload_n 3, 1) := by decide +kernel
theorem dL_isGap_1 : decode cL_isGap 1 = .ok (.iconst 0, 1) := by decide +kernel
theorem dL_isGap_2 : decode cL_isGap 2 = .ok (.aload_n 0, 1) := by decide +kernel
theorem dL_isGap_3 : decode cL_isGap 3 = .ok (.iload_n 1, 1) := by decide +kernel
theorem dL_isGap_4 : decode cL_isGap 4 = .ok (.iload_n 2, 1) := by decide +kernel
theorem dL_isGap_5 : decode cL_isGap 5 = .ok (.invokevirtual 45, 3) := by decide +kernel
theorem dL_isGap_8 : decode cL_isGap 8 = .ok (.ifCond .eq 7, 3) := by decide +kernel
theorem dL_isGap_11 : decode cL_isGap 11 = .ok (.lconst 1, 1) := by decide +kernel
theorem dL_isGap_12 : decode cL_isGap 12 = .ok (.goto 4, 3) := by decide +kernel
theorem dL_isGap_15 : decode cL_isGap 15 = .ok (.lconst 0, 1) := by decide +kernel
theorem dL_isGap_16 : decode cL_isGap 16 = .ok (.lastore, 1) := by decide +kernel
theorem dL_isGap_17 : decode cL_isGap 17 = .ok (.goto 7, 3) := by decide +kernel
theorem dL_isGap_20 : decode cL_isGap 20 = .ok (.astore 4, 2) := by decide +kernel
theorem dL_isGap_22 : decode cL_isGap 22 = .ok (.iconst 1, 1) := by decide +kernel
theorem dL_isGap_23 : decode cL_isGap 23 = .ok (.ireturn, 1) := by decide +kernel
theorem dL_isGap_24 : decode cL_isGap 24 = .ok (.iconst 0, 1) := by decide +kernel
theorem dL_isGap_25 : decode cL_isGap 25 = .ok (.ireturn, 1) := by decide +kernel
theorem dL_hours_0 : decode cL_hours 0 = .ok (.aload_n 3, 1) := by decide +kernel
theorem dL_hours_1 : decode cL_hours 1 = .ok (.iconst 0, 1) := by decide +kernel
theorem dL_hours_2 : decode cL_hours 2 = .ok (.aload_n 0, 1) := by decide +kernel
theorem dL_hours_3 : decode cL_hours 3 = .ok (.iload_n 1, 1) := by decide +kernel
theorem dL_hours_4 : decode cL_hours 4 = .ok (.iload_n 2, 1) := by decide +kernel
theorem dL_hours_5 : decode cL_hours 5 = .ok (.invokevirtual 49, 3) := by decide +kernel
theorem dL_hours_8 : decode cL_hours 8 = .ok (.i2l, 1) := by decide +kernel
theorem dL_hours_9 : decode cL_hours 9 = .ok (.lastore, 1) := by decide +kernel
theorem dL_hours_10 : decode cL_hours 10 = .ok (.goto 11, 3) := by decide +kernel
theorem dL_hours_13 : decode cL_hours 13 = .ok (.astore 4, 2) := by decide +kernel
theorem dL_hours_15 : decode cL_hours 15 = .ok (.iconst 1, 1) := by decide +kernel
theorem dL_hours_16 : decode cL_hours 16 = .ok (.ireturn, 1) := by decide +kernel
theorem dL_hours_17 : decode cL_hours 17 = .ok (.astore 4, 2) := by decide +kernel
theorem dL_hours_19 : decode cL_hours 19 = .ok (.iconst 2, 1) := by decide +kernel
theorem dL_hours_20 : decode cL_hours 20 = .ok (.ireturn, 1) := by decide +kernel
theorem dL_hours_21 : decode cL_hours 21 = .ok (.iconst 0, 1) := by decide +kernel
theorem dL_hours_22 : decode cL_hours 22 = .ok (.ireturn, 1) := by decide +kernel
theorem dL_hoursAgain_0 : decode cL_hoursAgain 0 = .ok (.aload_n 3, 1) := by decide +kernel
theorem dL_hoursAgain_1 : decode cL_hoursAgain 1 = .ok (.iconst 0, 1) := by decide +kernel
theorem dL_hoursAgain_2 : decode cL_hoursAgain 2 = .ok (.aload_n 0, 1) := by decide +kernel
theorem dL_hoursAgain_3 : decode cL_hoursAgain 3 = .ok (.iload_n 1, 1) := by decide +kernel
theorem dL_hoursAgain_4 : decode cL_hoursAgain 4 = .ok (.iload_n 2, 1) := by decide +kernel
theorem dL_hoursAgain_5 : decode cL_hoursAgain 5 = .ok (.invokevirtual 52, 3) := by decide +kernel
theorem dL_hoursAgain_8 : decode cL_hoursAgain 8 = .ok (.i2l, 1) := by decide +kernel
theorem dL_hoursAgain_9 : decode cL_hoursAgain 9 = .ok (.lastore, 1) := by decide +kernel
theorem dL_hoursAgain_10 : decode cL_hoursAgain 10 = .ok (.goto 11, 3) := by decide +kernel
theorem dL_hoursAgain_13 : decode cL_hoursAgain 13 = .ok (.astore 4, 2) := by decide +kernel
theorem dL_hoursAgain_15 : decode cL_hoursAgain 15 = .ok (.iconst 1, 1) := by decide +kernel
theorem dL_hoursAgain_16 : decode cL_hoursAgain 16 = .ok (.ireturn, 1) := by decide +kernel
theorem dL_hoursAgain_17 : decode cL_hoursAgain 17 = .ok (.astore 4, 2) := by decide +kernel
theorem dL_hoursAgain_19 : decode cL_hoursAgain 19 = .ok (.iconst 2, 1) := by decide +kernel
theorem dL_hoursAgain_20 : decode cL_hoursAgain 20 = .ok (.ireturn, 1) := by decide +kernel
theorem dL_hoursAgain_21 : decode cL_hoursAgain 21 = .ok (.iconst 0, 1) := by decide +kernel
theorem dL_hoursAgain_22 : decode cL_hoursAgain 22 = .ok (.ireturn, 1) := by decide +kernel
theorem dL_next_0 : decode cL_next 0 = .ok (.aload_n 2, 1) := by decide +kernel
theorem dL_next_1 : decode cL_next 1 = .ok (.iconst 0, 1) := by decide +kernel
theorem dL_next_2 : decode cL_next 2 = .ok (.aload_n 0, 1) := by decide +kernel
theorem dL_next_3 : decode cL_next 3 = .ok (.iload_n 1, 1) := by decide +kernel
theorem dL_next_4 : decode cL_next 4 = .ok (.invokevirtual 55, 3) := by decide +kernel
theorem dL_next_7 : decode cL_next 7 = .ok (.i2l, 1) := by decide +kernel
theorem dL_next_8 : decode cL_next 8 = .ok (.lastore, 1) := by decide +kernel
theorem dL_next_9 : decode cL_next 9 = .ok (.goto 9, 3) := by decide +kernel
theorem dL_next_12 : decode cL_next 12 = .ok (.astore_n 3, 1) := by decide +kernel
theorem dL_next_13 : decode cL_next 13 = .ok (.iconst 1, 1) := by decide +kernel
theorem dL_next_14 : decode cL_next 14 = .ok (.ireturn, 1) := by decide +kernel
theorem dL_next_15 : decode cL_next 15 = .ok (.astore_n 3, 1) := by decide +kernel
theorem dL_next_16 : decode cL_next 16 = .ok (.iconst 2, 1) := by decide +kernel
theorem dL_next_17 : decode cL_next 17 = .ok (.ireturn, 1) := by decide +kernel
theorem dL_next_18 : decode cL_next 18 = .ok (.iconst 0, 1) := by decide +kernel
theorem dL_next_19 : decode cL_next 19 = .ok (.ireturn, 1) := by decide +kernel
theorem dL_reached_0 : decode cL_reached 0 = .ok (.aload_n 2, 1) := by decide +kernel
theorem dL_reached_1 : decode cL_reached 1 = .ok (.iconst 0, 1) := by decide +kernel
theorem dL_reached_2 : decode cL_reached 2 = .ok (.aload_n 0, 1) := by decide +kernel
theorem dL_reached_3 : decode cL_reached 3 = .ok (.iload_n 1, 1) := by decide +kernel
theorem dL_reached_4 : decode cL_reached 4 = .ok (.invokevirtual 58, 3) := by decide +kernel
theorem dL_reached_7 : decode cL_reached 7 = .ok (.i2l, 1) := by decide +kernel
theorem dL_reached_8 : decode cL_reached 8 = .ok (.lastore, 1) := by decide +kernel
theorem dL_reached_9 : decode cL_reached 9 = .ok (.goto 6, 3) := by decide +kernel
theorem dL_reached_12 : decode cL_reached 12 = .ok (.astore_n 3, 1) := by decide +kernel
theorem dL_reached_13 : decode cL_reached 13 = .ok (.iconst 1, 1) := by decide +kernel
theorem dL_reached_14 : decode cL_reached 14 = .ok (.ireturn, 1) := by decide +kernel
theorem dL_reached_15 : decode cL_reached 15 = .ok (.iconst 0, 1) := by decide +kernel
theorem dL_reached_16 : decode cL_reached 16 = .ok (.ireturn, 1) := by decide +kernel
theorem dL_trims_0 : decode cL_trims 0 = .ok (.aload_n 2, 1) := by decide +kernel
theorem dL_trims_1 : decode cL_trims 1 = .ok (.iconst 0, 1) := by decide +kernel
theorem dL_trims_2 : decode cL_trims 2 = .ok (.aload_n 0, 1) := by decide +kernel
theorem dL_trims_3 : decode cL_trims 3 = .ok (.iload_n 1, 1) := by decide +kernel
theorem dL_trims_4 : decode cL_trims 4 = .ok (.invokevirtual 61, 3) := by decide +kernel
theorem dL_trims_7 : decode cL_trims 7 = .ok (.i2l, 1) := by decide +kernel
theorem dL_trims_8 : decode cL_trims 8 = .ok (.lastore, 1) := by decide +kernel
theorem dL_trims_9 : decode cL_trims 9 = .ok (.goto 6, 3) := by decide +kernel
theorem dL_trims_12 : decode cL_trims 12 = .ok (.astore_n 3, 1) := by decide +kernel
theorem dL_trims_13 : decode cL_trims 13 = .ok (.iconst 1, 1) := by decide +kernel
theorem dL_trims_14 : decode cL_trims 14 = .ok (.ireturn, 1) := by decide +kernel
theorem dL_trims_15 : decode cL_trims 15 = .ok (.iconst 0, 1) := by decide +kernel
theorem dL_trims_16 : decode cL_trims 16 = .ok (.ireturn, 1) := by decide +kernel
theorem dL_trimsAgain_0 : decode cL_trimsAgain 0 = .ok (.aload_n 2, 1) := by decide +kernel
theorem dL_trimsAgain_1 : decode cL_trimsAgain 1 = .ok (.iconst 0, 1) := by decide +kernel
theorem dL_trimsAgain_2 : decode cL_trimsAgain 2 = .ok (.aload_n 0, 1) := by decide +kernel
theorem dL_trimsAgain_3 : decode cL_trimsAgain 3 = .ok (.iload_n 1, 1) := by decide +kernel
theorem dL_trimsAgain_4 : decode cL_trimsAgain 4 = .ok (.invokevirtual 64, 3) := by decide +kernel
theorem dL_trimsAgain_7 : decode cL_trimsAgain 7 = .ok (.i2l, 1) := by decide +kernel
theorem dL_trimsAgain_8 : decode cL_trimsAgain 8 = .ok (.lastore, 1) := by decide +kernel
theorem dL_trimsAgain_9 : decode cL_trimsAgain 9 = .ok (.goto 6, 3) := by decide +kernel
theorem dL_trimsAgain_12 : decode cL_trimsAgain 12 = .ok (.astore_n 3, 1) := by decide +kernel
theorem dL_trimsAgain_13 : decode cL_trimsAgain 13 = .ok (.iconst 1, 1) := by decide +kernel
theorem dL_trimsAgain_14 : decode cL_trimsAgain 14 = .ok (.ireturn, 1) := by decide +kernel
theorem dL_trimsAgain_15 : decode cL_trimsAgain 15 = .ok (.iconst 0, 1) := by decide +kernel
theorem dL_trimsAgain_16 : decode cL_trimsAgain 16 = .ok (.ireturn, 1) := by decide +kernel
theorem dL_isNeeded_0 : decode cL_isNeeded 0 = .ok (.aload_n 3, 1) := by decide +kernel
theorem dL_isNeeded_1 : decode cL_isNeeded 1 = .ok (.iconst 0, 1) := by decide +kernel
theorem dL_isNeeded_2 : decode cL_isNeeded 2 = .ok (.aload_n 0, 1) := by decide +kernel
theorem dL_isNeeded_3 : decode cL_isNeeded 3 = .ok (.iload_n 1, 1) := by decide +kernel
theorem dL_isNeeded_4 : decode cL_isNeeded 4 = .ok (.iload_n 2, 1) := by decide +kernel
theorem dL_isNeeded_5 : decode cL_isNeeded 5 = .ok (.invokevirtual 67, 3) := by decide +kernel
theorem dL_isNeeded_8 : decode cL_isNeeded 8 = .ok (.ifCond .eq 7, 3) := by decide +kernel
theorem dL_isNeeded_11 : decode cL_isNeeded 11 = .ok (.lconst 1, 1) := by decide +kernel
theorem dL_isNeeded_12 : decode cL_isNeeded 12 = .ok (.goto 4, 3) := by decide +kernel
theorem dL_isNeeded_15 : decode cL_isNeeded 15 = .ok (.lconst 0, 1) := by decide +kernel
theorem dL_isNeeded_16 : decode cL_isNeeded 16 = .ok (.lastore, 1) := by decide +kernel
theorem dL_isNeeded_17 : decode cL_isNeeded 17 = .ok (.goto 11, 3) := by decide +kernel
theorem dL_isNeeded_20 : decode cL_isNeeded 20 = .ok (.astore 4, 2) := by decide +kernel
theorem dL_isNeeded_22 : decode cL_isNeeded 22 = .ok (.iconst 1, 1) := by decide +kernel
theorem dL_isNeeded_23 : decode cL_isNeeded 23 = .ok (.ireturn, 1) := by decide +kernel
theorem dL_isNeeded_24 : decode cL_isNeeded 24 = .ok (.astore 4, 2) := by decide +kernel
theorem dL_isNeeded_26 : decode cL_isNeeded 26 = .ok (.iconst 2, 1) := by decide +kernel
theorem dL_isNeeded_27 : decode cL_isNeeded 27 = .ok (.ireturn, 1) := by decide +kernel
theorem dL_isNeeded_28 : decode cL_isNeeded 28 = .ok (.iconst 0, 1) := by decide +kernel
theorem dL_isNeeded_29 : decode cL_isNeeded 29 = .ok (.ireturn, 1) := by decide +kernel
theorem dL_closesIn_0 : decode cL_closesIn 0 = .ok (.aload_n 3, 1) := by decide +kernel
theorem dL_closesIn_1 : decode cL_closesIn 1 = .ok (.iconst 0, 1) := by decide +kernel
theorem dL_closesIn_2 : decode cL_closesIn 2 = .ok (.aload_n 0, 1) := by decide +kernel
theorem dL_closesIn_3 : decode cL_closesIn 3 = .ok (.iload_n 1, 1) := by decide +kernel
theorem dL_closesIn_4 : decode cL_closesIn 4 = .ok (.iload_n 2, 1) := by decide +kernel
theorem dL_closesIn_5 : decode cL_closesIn 5 = .ok (.invokevirtual 70, 3) := by decide +kernel
theorem dL_closesIn_8 : decode cL_closesIn 8 = .ok (.i2l, 1) := by decide +kernel
theorem dL_closesIn_9 : decode cL_closesIn 9 = .ok (.lastore, 1) := by decide +kernel
theorem dL_closesIn_10 : decode cL_closesIn 10 = .ok (.goto 11, 3) := by decide +kernel
theorem dL_closesIn_13 : decode cL_closesIn 13 = .ok (.astore 4, 2) := by decide +kernel
theorem dL_closesIn_15 : decode cL_closesIn 15 = .ok (.iconst 1, 1) := by decide +kernel
theorem dL_closesIn_16 : decode cL_closesIn 16 = .ok (.ireturn, 1) := by decide +kernel
theorem dL_closesIn_17 : decode cL_closesIn 17 = .ok (.astore 4, 2) := by decide +kernel
theorem dL_closesIn_19 : decode cL_closesIn 19 = .ok (.iconst 2, 1) := by decide +kernel
theorem dL_closesIn_20 : decode cL_closesIn 20 = .ok (.ireturn, 1) := by decide +kernel
theorem dL_closesIn_21 : decode cL_closesIn 21 = .ok (.iconst 0, 1) := by decide +kernel
theorem dL_closesIn_22 : decode cL_closesIn 22 = .ok (.ireturn, 1) := by decide +kernel
theorem dL_gardenerOf_0 : decode cL_gardenerOf 0 = .ok (.aload_n 3, 1) := by decide +kernel
theorem dL_gardenerOf_1 : decode cL_gardenerOf 1 = .ok (.iconst 0, 1) := by decide +kernel
theorem dL_gardenerOf_2 : decode cL_gardenerOf 2 = .ok (.aload_n 0, 1) := by decide +kernel
theorem dL_gardenerOf_3 : decode cL_gardenerOf 3 = .ok (.iload_n 1, 1) := by decide +kernel
theorem dL_gardenerOf_4 : decode cL_gardenerOf 4 = .ok (.iload_n 2, 1) := by decide +kernel
theorem dL_gardenerOf_5 : decode cL_gardenerOf 5 = .ok (.invokevirtual 73, 3) := by decide +kernel
theorem dL_gardenerOf_8 : decode cL_gardenerOf 8 = .ok (.i2l, 1) := by decide +kernel
theorem dL_gardenerOf_9 : decode cL_gardenerOf 9 = .ok (.lastore, 1) := by decide +kernel
theorem dL_gardenerOf_10 : decode cL_gardenerOf 10 = .ok (.goto 11, 3) := by decide +kernel
theorem dL_gardenerOf_13 : decode cL_gardenerOf 13 = .ok (.astore 4, 2) := by decide +kernel
theorem dL_gardenerOf_15 : decode cL_gardenerOf 15 = .ok (.iconst 1, 1) := by decide +kernel
theorem dL_gardenerOf_16 : decode cL_gardenerOf 16 = .ok (.ireturn, 1) := by decide +kernel
theorem dL_gardenerOf_17 : decode cL_gardenerOf 17 = .ok (.astore 4, 2) := by decide +kernel
theorem dL_gardenerOf_19 : decode cL_gardenerOf 19 = .ok (.iconst 2, 1) := by decide +kernel
theorem dL_gardenerOf_20 : decode cL_gardenerOf 20 = .ok (.ireturn, 1) := by decide +kernel
theorem dL_gardenerOf_21 : decode cL_gardenerOf 21 = .ok (.iconst 0, 1) := by decide +kernel
theorem dL_gardenerOf_22 : decode cL_gardenerOf 22 = .ok (.ireturn, 1) := by decide +kernel
theorem dL_visitorOf_0 : decode cL_visitorOf 0 = .ok (.aload_n 3, 1) := by decide +kernel
theorem dL_visitorOf_1 : decode cL_visitorOf 1 = .ok (.iconst 0, 1) := by decide +kernel
theorem dL_visitorOf_2 : decode cL_visitorOf 2 = .ok (.aload_n 0, 1) := by decide +kernel
theorem dL_visitorOf_3 : decode cL_visitorOf 3 = .ok (.iload_n 1, 1) := by decide +kernel
theorem dL_visitorOf_4 : decode cL_visitorOf 4 = .ok (.iload_n 2, 1) := by decide +kernel
theorem dL_visitorOf_5 : decode cL_visitorOf 5 = .ok (.invokevirtual 78, 3) := by decide +kernel
theorem dL_visitorOf_8 : decode cL_visitorOf 8 = .ok (.i2l, 1) := by decide +kernel
theorem dL_visitorOf_9 : decode cL_visitorOf 9 = .ok (.lastore, 1) := by decide +kernel
theorem dL_visitorOf_10 : decode cL_visitorOf 10 = .ok (.goto 11, 3) := by decide +kernel
theorem dL_visitorOf_13 : decode cL_visitorOf 13 = .ok (.astore 4, 2) := by decide +kernel
theorem dL_visitorOf_15 : decode cL_visitorOf 15 = .ok (.iconst 1, 1) := by decide +kernel
theorem dL_visitorOf_16 : decode cL_visitorOf 16 = .ok (.ireturn, 1) := by decide +kernel
theorem dL_visitorOf_17 : decode cL_visitorOf 17 = .ok (.astore 4, 2) := by decide +kernel
theorem dL_visitorOf_19 : decode cL_visitorOf 19 = .ok (.iconst 2, 1) := by decide +kernel
theorem dL_visitorOf_20 : decode cL_visitorOf 20 = .ok (.ireturn, 1) := by decide +kernel
theorem dL_visitorOf_21 : decode cL_visitorOf 21 = .ok (.iconst 0, 1) := by decide +kernel
theorem dL_visitorOf_22 : decode cL_visitorOf 22 = .ok (.ireturn, 1) := by decide +kernel
theorem dL_wouldPay_0 : decode cL_wouldPay 0 = .ok (.aload_n 2, 1) := by decide +kernel
theorem dL_wouldPay_1 : decode cL_wouldPay 1 = .ok (.iconst 0, 1) := by decide +kernel
theorem dL_wouldPay_2 : decode cL_wouldPay 2 = .ok (.aload_n 0, 1) := by decide +kernel
theorem dL_wouldPay_3 : decode cL_wouldPay 3 = .ok (.iload_n 1, 1) := by decide +kernel
theorem dL_wouldPay_4 : decode cL_wouldPay 4 = .ok (.invokevirtual 81, 3) := by decide +kernel
theorem dL_wouldPay_7 : decode cL_wouldPay 7 = .ok (.i2l, 1) := by decide +kernel
theorem dL_wouldPay_8 : decode cL_wouldPay 8 = .ok (.lastore, 1) := by decide +kernel
theorem dL_wouldPay_9 : decode cL_wouldPay 9 = .ok (.goto 9, 3) := by decide +kernel
theorem dL_wouldPay_12 : decode cL_wouldPay 12 = .ok (.astore_n 3, 1) := by decide +kernel
theorem dL_wouldPay_13 : decode cL_wouldPay 13 = .ok (.iconst 1, 1) := by decide +kernel
theorem dL_wouldPay_14 : decode cL_wouldPay 14 = .ok (.ireturn, 1) := by decide +kernel
theorem dL_wouldPay_15 : decode cL_wouldPay 15 = .ok (.astore_n 3, 1) := by decide +kernel
theorem dL_wouldPay_16 : decode cL_wouldPay 16 = .ok (.iconst 2, 1) := by decide +kernel
theorem dL_wouldPay_17 : decode cL_wouldPay 17 = .ok (.ireturn, 1) := by decide +kernel
theorem dL_wouldPay_18 : decode cL_wouldPay 18 = .ok (.iconst 0, 1) := by decide +kernel
theorem dL_wouldPay_19 : decode cL_wouldPay 19 = .ok (.ireturn, 1) := by decide +kernel
theorem dL_owed_0 : decode cL_owed 0 = .ok (.aload_n 2, 1) := by decide +kernel
theorem dL_owed_1 : decode cL_owed 1 = .ok (.iconst 0, 1) := by decide +kernel
theorem dL_owed_2 : decode cL_owed 2 = .ok (.aload_n 0, 1) := by decide +kernel
theorem dL_owed_3 : decode cL_owed 3 = .ok (.iload_n 1, 1) := by decide +kernel
theorem dL_owed_4 : decode cL_owed 4 = .ok (.invokevirtual 84, 3) := by decide +kernel
theorem dL_owed_7 : decode cL_owed 7 = .ok (.i2l, 1) := by decide +kernel
theorem dL_owed_8 : decode cL_owed 8 = .ok (.lastore, 1) := by decide +kernel
theorem dL_owed_9 : decode cL_owed 9 = .ok (.goto 6, 3) := by decide +kernel
theorem dL_owed_12 : decode cL_owed 12 = .ok (.astore_n 3, 1) := by decide +kernel
theorem dL_owed_13 : decode cL_owed 13 = .ok (.iconst 1, 1) := by decide +kernel
theorem dL_owed_14 : decode cL_owed 14 = .ok (.ireturn, 1) := by decide +kernel
theorem dL_owed_15 : decode cL_owed 15 = .ok (.iconst 0, 1) := by decide +kernel
theorem dL_owed_16 : decode cL_owed 16 = .ok (.ireturn, 1) := by decide +kernel
theorem dL_ranked_0 : decode cL_ranked 0 = .ok (.aload_n 3, 1) := by decide +kernel
theorem dL_ranked_1 : decode cL_ranked 1 = .ok (.iconst 0, 1) := by decide +kernel
theorem dL_ranked_2 : decode cL_ranked 2 = .ok (.aload_n 0, 1) := by decide +kernel
theorem dL_ranked_3 : decode cL_ranked 3 = .ok (.iload_n 1, 1) := by decide +kernel
theorem dL_ranked_4 : decode cL_ranked 4 = .ok (.iload_n 2, 1) := by decide +kernel
theorem dL_ranked_5 : decode cL_ranked 5 = .ok (.invokevirtual 87, 3) := by decide +kernel
theorem dL_ranked_8 : decode cL_ranked 8 = .ok (.i2l, 1) := by decide +kernel
theorem dL_ranked_9 : decode cL_ranked 9 = .ok (.lastore, 1) := by decide +kernel
theorem dL_ranked_10 : decode cL_ranked 10 = .ok (.goto 11, 3) := by decide +kernel
theorem dL_ranked_13 : decode cL_ranked 13 = .ok (.astore 4, 2) := by decide +kernel
theorem dL_ranked_15 : decode cL_ranked 15 = .ok (.iconst 1, 1) := by decide +kernel
theorem dL_ranked_16 : decode cL_ranked 16 = .ok (.ireturn, 1) := by decide +kernel
theorem dL_ranked_17 : decode cL_ranked 17 = .ok (.astore 4, 2) := by decide +kernel
theorem dL_ranked_19 : decode cL_ranked 19 = .ok (.iconst 2, 1) := by decide +kernel
theorem dL_ranked_20 : decode cL_ranked 20 = .ok (.ireturn, 1) := by decide +kernel
theorem dL_ranked_21 : decode cL_ranked 21 = .ok (.iconst 0, 1) := by decide +kernel
theorem dL_ranked_22 : decode cL_ranked 22 = .ok (.ireturn, 1) := by decide +kernel
theorem dL_richest_0 : decode cL_richest 0 = .ok (.aload_n 2, 1) := by decide +kernel
theorem dL_richest_1 : decode cL_richest 1 = .ok (.iconst 0, 1) := by decide +kernel
theorem dL_richest_2 : decode cL_richest 2 = .ok (.aload_n 0, 1) := by decide +kernel
theorem dL_richest_3 : decode cL_richest 3 = .ok (.iload_n 1, 1) := by decide +kernel
theorem dL_richest_4 : decode cL_richest 4 = .ok (.invokevirtual 90, 3) := by decide +kernel
theorem dL_richest_7 : decode cL_richest 7 = .ok (.i2l, 1) := by decide +kernel
theorem dL_richest_8 : decode cL_richest 8 = .ok (.lastore, 1) := by decide +kernel
theorem dL_richest_9 : decode cL_richest 9 = .ok (.goto 6, 3) := by decide +kernel
theorem dL_richest_12 : decode cL_richest 12 = .ok (.astore_n 3, 1) := by decide +kernel
theorem dL_richest_13 : decode cL_richest 13 = .ok (.iconst 1, 1) := by decide +kernel
theorem dL_richest_14 : decode cL_richest 14 = .ok (.ireturn, 1) := by decide +kernel
theorem dL_richest_15 : decode cL_richest 15 = .ok (.iconst 0, 1) := by decide +kernel
theorem dL_richest_16 : decode cL_richest 16 = .ok (.ireturn, 1) := by decide +kernel
theorem dL_append_0 : decode cL_append 0 = .ok (.aload_n 2, 1) := by decide +kernel
theorem dL_append_1 : decode cL_append 1 = .ok (.iconst 0, 1) := by decide +kernel
theorem dL_append_2 : decode cL_append 2 = .ok (.aload_n 0, 1) := by decide +kernel
theorem dL_append_3 : decode cL_append 3 = .ok (.iload_n 1, 1) := by decide +kernel
theorem dL_append_4 : decode cL_append 4 = .ok (.invokevirtual 93, 3) := by decide +kernel
