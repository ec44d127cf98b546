set_option maxRecDepth 20000 in
theorem gX10_commands_X10_does : GoodIn wsX10_commands (wsV RX10 238 RX10 yX10_does wsX10_does) := goodIn_app (goodIn_of _ (by decide +kernel)) ggX10_commands_X10_does
set_option maxRecDepth 20000 in
theorem ggX10_commands_X10_changed : GoodIn wsX10_commands wsX10_changed := goodIn_ca (goodIn_r _ [179, 7, 180, 181, 9, 182, 183, 184, 185, 186, 187, 188, 189, 190, 191, 192, 193, 194, 195, 196, 197, 198, 199, 200, 201, 202] (by decide +kernel) (by decide +kernel)) (goodIn_sub (fun _ h => List.mem_cons_of_mem _ (List.mem_append_right _ h)) (by decide +kernel))
set_option maxRecDepth 20000 in
theorem gX10_commands_X10_changed : GoodIn wsX10_commands (wsV RX10 107 RX10 yX10_changed wsX10_changed) := goodIn_app (goodIn_of _ (by decide +kernel)) ggX10_commands_X10_changed
theorem dX10_commands_0 : decode cX10_commands 0 = .ok (.aload_n 0, 1) := by decide +kernel
theorem dX10_commands_1 : decode cX10_commands 1 = .ok (.invokevirtual 100, 3) := by decide +kernel
theorem dX10_commands_4 : decode cX10_commands 4 = .ok (.aload_n 0, 1) := by decide +kernel
theorem dX10_commands_5 : decode cX10_commands 5 = .ok (.aload_n 0, 1) := by decide +kernel
theorem dX10_commands_6 : decode cX10_commands 6 = .ok (.getfield 195, 3) := by decide +kernel
theorem dX10_commands_9 : decode cX10_commands 9 = .ok (.putfield 201, 3) := by decide +kernel
theorem dX10_commands_12 : decode cX10_commands 12 = .ok (.aload_n 0, 1) := by decide +kernel
theorem dX10_commands_13 : decode cX10_commands 13 = .ok (.iconst 0, 1) := by decide +kernel
theorem dX10_commands_14 : decode cX10_commands 14 = .ok (.putfield 195, 3) := by decide +kernel
theorem dX10_commands_17 : decode cX10_commands 17 = .ok (.aload_n 0, 1) := by decide +kernel
theorem dX10_commands_18 : decode cX10_commands 18 = .ok (.iconst 0, 1) := by decide +kernel
theorem dX10_commands_19 : decode cX10_commands 19 = .ok (.putfield 198, 3) := by decide +kernel
theorem dX10_commands_22 : decode cX10_commands 22 = .ok (.aload_n 0, 1) := by decide +kernel
theorem dX10_commands_23 : decode cX10_commands 23 = .ok (.iconst 0, 1) := by decide +kernel
theorem dX10_commands_24 : decode cX10_commands 24 = .ok (.putfield 225, 3) := by decide +kernel
theorem dX10_commands_27 : decode cX10_commands 27 = .ok (.aload_n 0, 1) := by decide +kernel
theorem dX10_commands_28 : decode cX10_commands 28 = .ok (.iconst 0, 1) := by decide +kernel
theorem dX10_commands_29 : decode cX10_commands 29 = .ok (.putfield 204, 3) := by decide +kernel
theorem dX10_commands_32 : decode cX10_commands 32 = .ok (.iconst 1, 1) := by decide +kernel
theorem dX10_commands_33 : decode cX10_commands 33 = .ok (.istore_n 1, 1) := by decide +kernel
theorem dX10_commands_34 : decode cX10_commands 34 = .ok (.iload_n 1, 1) := by decide +kernel
theorem dX10_commands_35 : decode cX10_commands 35 = .ok (.ifCond .eq 69, 3) := by decide +kernel
theorem dX10_commands_38 : decode cX10_commands 38 = .ok (.aload_n 0, 1) := by decide +kernel
theorem dX10_commands_39 : decode cX10_commands 39 = .ok (.invokevirtual 235, 3) := by decide +kernel
theorem dX10_commands_42 : decode cX10_commands 42 = .ok (.aload_n 0, 1) := by decide +kernel
theorem dX10_commands_43 : decode cX10_commands 43 = .ok (.getfield 204, 3) := by decide +kernel
theorem dX10_commands_46 : decode cX10_commands 46 = .ok (.ifCond .ne 18, 3) := by decide +kernel
theorem dX10_commands_49 : decode cX10_commands 49 = .ok (.aload_n 0, 1) := by decide +kernel
theorem dX10_commands_50 : decode cX10_commands 50 = .ok (.getfield 198, 3) := by decide +kernel
theorem dX10_commands_53 : decode cX10_commands 53 = .ok (.aload_n 0, 1) := by decide +kernel
theorem dX10_commands_54 : decode cX10_commands 54 = .ok (.getfield 201, 3) := by decide +kernel
theorem dX10_commands_57 : decode cX10_commands 57 = .ok (.if_icmp .ge 7, 3) := by decide +kernel
theorem dX10_commands_60 : decode cX10_commands 60 = .ok (.iconst 1, 1) := by decide +kernel
theorem dX10_commands_61 : decode cX10_commands 61 = .ok (.goto 4, 3) := by decide +kernel
theorem dX10_commands_64 : decode cX10_commands 64 = .ok (.iconst 0, 1) := by decide +kernel
theorem dX10_commands_65 : decode cX10_commands 65 = .ok (.istore_n 1, 1) := by decide +kernel
theorem dX10_commands_66 : decode cX10_commands 66 = .ok (.iload_n 1, 1) := by decide +kernel
theorem dX10_commands_67 : decode cX10_commands 67 = .ok (.ifCond .eq (-33), 3) := by decide +kernel
theorem dX10_commands_70 : decode cX10_commands 70 = .ok (.aload_n 0, 1) := by decide +kernel
theorem dX10_commands_71 : decode cX10_commands 71 = .ok (.aload_n 0, 1) := by decide +kernel
theorem dX10_commands_72 : decode cX10_commands 72 = .ok (.invokevirtual 208, 3) := by decide +kernel
theorem dX10_commands_75 : decode cX10_commands 75 = .ok (.bipush 59, 2) := by decide +kernel
theorem dX10_commands_77 : decode cX10_commands 77 = .ok (.if_icmp .ne 7, 3) := by decide +kernel
theorem dX10_commands_80 : decode cX10_commands 80 = .ok (.iconst 1, 1) := by decide +kernel
theorem dX10_commands_81 : decode cX10_commands 81 = .ok (.goto 4, 3) := by decide +kernel
theorem dX10_commands_84 : decode cX10_commands 84 = .ok (.iconst 0, 1) := by decide +kernel
theorem dX10_commands_85 : decode cX10_commands 85 = .ok (.invokevirtual 215, 3) := by decide +kernel
theorem dX10_commands_88 : decode cX10_commands 88 = .ok (.aload_n 0, 1) := by decide +kernel
theorem dX10_commands_89 : decode cX10_commands 89 = .ok (.getfield 204, 3) := by decide +kernel
theorem dX10_commands_92 : decode cX10_commands 92 = .ok (.ifCond .ne 7, 3) := by decide +kernel
theorem dX10_commands_95 : decode cX10_commands 95 = .ok (.iconst 1, 1) := by decide +kernel
theorem dX10_commands_96 : decode cX10_commands 96 = .ok (.goto 4, 3) := by decide +kernel
theorem dX10_commands_99 : decode cX10_commands 99 = .ok (.iconst 0, 1) := by decide +kernel
theorem dX10_commands_100 : decode cX10_commands 100 = .ok (.istore_n 1, 1) := by decide +kernel
theorem dX10_commands_101 : decode cX10_commands 101 = .ok (.goto (-67), 3) := by decide +kernel
theorem dX10_commands_104 : decode cX10_commands 104 = .ok (.aload_n 0, 1) := by decide +kernel
theorem dX10_commands_105 : decode cX10_commands 105 = .ok (.aload_n 0, 1) := by decide +kernel
theorem dX10_commands_106 : decode cX10_commands 106 = .ok (.getfield 204, 3) := by decide +kernel
theorem dX10_commands_109 : decode cX10_commands 109 = .ok (.ifCond .eq 10, 3) := by decide +kernel
theorem dX10_commands_112 : decode cX10_commands 112 = .ok (.aload_n 0, 1) := by decide +kernel
theorem dX10_commands_113 : decode cX10_commands 113 = .ok (.getfield 198, 3) := by decide +kernel
theorem dX10_commands_116 : decode cX10_commands 116 = .ok (.goto 4, 3) := by decide +kernel
theorem dX10_commands_119 : decode cX10_commands 119 = .ok (.iconst (-1), 1) := by decide +kernel
theorem dX10_commands_120 : decode cX10_commands 120 = .ok (.putfield 22, 3) := by decide +kernel
theorem dX10_commands_123 : decode cX10_commands 123 = .ok (.aload_n 0, 1) := by decide +kernel
theorem dX10_commands_124 : decode cX10_commands 124 = .ok (.getfield 204, 3) := by decide +kernel
theorem dX10_commands_127 : decode cX10_commands 127 = .ok (.ifCond .eq 9, 3) := by decide +kernel
theorem dX10_commands_130 : decode cX10_commands 130 = .ok (.aload_n 0, 1) := by decide +kernel
theorem dX10_commands_131 : decode cX10_commands 131 = .ok (.iconst 1, 1) := by decide +kernel
theorem dX10_commands_132 : decode cX10_commands 132 = .ok (.invokevirtual 50, 3) := by decide +kernel
theorem dX10_commands_135 : decode cX10_commands 135 = .ok (.ireturn, 1) := by decide +kernel
theorem dX10_commands_136 : decode cX10_commands 136 = .ok (.iconst 0, 1) := by decide +kernel
theorem dX10_commands_137 : decode cX10_commands 137 = .ok (.istore_n 2, 1) := by decide +kernel
theorem dX10_commands_138 : decode cX10_commands 138 = .ok (.iload_n 2, 1) := by decide +kernel
theorem dX10_commands_139 : decode cX10_commands 139 = .ok (.aload_n 0, 1) := by decide +kernel
theorem dX10_commands_140 : decode cX10_commands 140 = .ok (.getfield 225, 3) := by decide +kernel
theorem dX10_commands_143 : decode cX10_commands 143 = .ok (.if_icmp .ge 60, 3) := by decide +kernel
theorem dX10_commands_146 : decode cX10_commands 146 = .ok (.aload_n 0, 1) := by decide +kernel
theorem dX10_commands_147 : decode cX10_commands 147 = .ok (.iconst 4, 1) := by decide +kernel
theorem dX10_commands_148 : decode cX10_commands 148 = .ok (.iload_n 2, 1) := by decide +kernel
theorem dX10_commands_149 : decode cX10_commands 149 = .ok (.imul, 1) := by decide +kernel
theorem dX10_commands_150 : decode cX10_commands 150 = .ok (.invokevirtual 238, 3) := by decide +kernel
theorem dX10_commands_153 : decode cX10_commands 153 = .ok (.aload_n 0, 1) := by decide +kernel
theorem dX10_commands_154 : decode cX10_commands 154 = .ok (.getfield 38, 3) := by decide +kernel
theorem dX10_commands_157 : decode cX10_commands 157 = .ok (.ifCond .le 40, 3) := by decide +kernel
theorem dX10_commands_160 : decode cX10_commands 160 = .ok (.iconst 0, 1) := by decide +kernel
theorem dX10_commands_161 : decode cX10_commands 161 = .ok (.istore_n 3, 1) := by decide +kernel
theorem dX10_commands_162 : decode cX10_commands 162 = .ok (.iload_n 3, 1) := by decide +kernel
theorem dX10_commands_163 : decode cX10_commands 163 = .ok (.bipush 86, 2) := by decide +kernel
theorem dX10_commands_165 : decode cX10_commands 165 = .ok (.if_icmp .ge 21, 3) := by decide +kernel
theorem dX10_commands_168 : decode cX10_commands 168 = .ok (.aload_n 0, 1) := by decide +kernel
theorem dX10_commands_169 : decode cX10_commands 169 = .ok (.getfield 9, 3) := by decide +kernel
theorem dX10_commands_172 : decode cX10_commands 172 = .ok (.iload_n 3, 1) := by decide +kernel
theorem dX10_commands_173 : decode cX10_commands 173 = .ok (.aload_n 0, 1) := by decide +kernel
theorem dX10_commands_174 : decode cX10_commands 174 = .ok (.getfield 13, 3) := by decide +kernel
theorem dX10_commands_177 : decode cX10_commands 177 = .ok (.iload_n 3, 1) := by decide +kernel
theorem dX10_commands_178 : decode cX10_commands 178 = .ok (.iaload, 1) := by decide +kernel
theorem dX10_commands_179 : decode cX10_commands 179 = .ok (.iastore, 1) := by decide +kernel
theorem dX10_commands_180 : decode cX10_commands 180 = .ok (.iinc 3 1, 3) := by decide +kernel
theorem dX10_commands_183 : decode cX10_commands 183 = .ok (.goto (-21), 3) := by decide +kernel
theorem dX10_commands_186 : decode cX10_commands 186 = .ok (.aload_n 0, 1) := by decide +kernel
theorem dX10_commands_187 : decode cX10_commands 187 = .ok (.iload_n 2, 1) := by decide +kernel
theorem dX10_commands_188 : decode cX10_commands 188 = .ok (.putfield 47, 3) := by decide +kernel
theorem dX10_commands_191 : decode cX10_commands 191 = .ok (.aload_n 0, 1) := by decide +kernel
theorem dX10_commands_192 : decode cX10_commands 192 = .ok (.iconst 2, 1) := by decide +kernel
theorem dX10_commands_193 : decode cX10_commands 193 = .ok (.invokevirtual 50, 3) := by decide +kernel
theorem dX10_commands_196 : decode cX10_commands 196 = .ok (.ireturn, 1) := by decide +kernel
theorem dX10_commands_197 : decode cX10_commands 197 = .ok (.iinc 2 1, 3) := by decide +kernel
theorem dX10_commands_200 : decode cX10_commands 200 = .ok (.goto (-62), 3) := by decide +kernel
theorem dX10_commands_203 : decode cX10_commands 203 = .ok (.aload_n 0, 1) := by decide +kernel
theorem dX10_commands_204 : decode cX10_commands 204 = .ok (.aload_n 0, 1) := by decide +kernel
theorem dX10_commands_205 : decode cX10_commands 205 = .ok (.getfield 225, 3) := by decide +kernel
theorem dX10_commands_208 : decode cX10_commands 208 = .ok (.invokevirtual 107, 3) := by decide +kernel
theorem dX10_commands_211 : decode cX10_commands 211 = .ok (.ireturn, 1) := by decide +kernel
theorem dX10_faultPosition_0 : decode cX10_faultPosition 0 = .ok (.aload_n 0, 1) := by decide +kernel
theorem dX10_faultPosition_1 : decode cX10_faultPosition 1 = .ok (.iconst 0, 1) := by decide +kernel
theorem dX10_faultPosition_2 : decode cX10_faultPosition 2 = .ok (.putfield 38, 3) := by decide +kernel
theorem dX10_faultPosition_5 : decode cX10_faultPosition 5 = .ok (.aload_n 0, 1) := by decide +kernel
theorem dX10_faultPosition_6 : decode cX10_faultPosition 6 = .ok (.getfield 22, 3) := by decide +kernel
theorem dX10_faultPosition_9 : decode cX10_faultPosition 9 = .ok (.ireturn, 1) := by decide +kernel
set_option maxRecDepth 20000 in
theorem ggX10_reason_X10_in : GoodIn wsX10_reason wsX10_in := goodIn_r _ [9] (by decide +kernel) (by decide +kernel)
set_option maxRecDepth 20000 in
theorem gX10_reason_X10_in : GoodIn wsX10_reason (va_wsS RX10 59 yX10_in wsX10_in) := goodIn_app (goodIn_of _ (by decide +kernel)) ggX10_reason_X10_in
set_option maxRecDepth 20000 in
theorem ggX10_reason_X10_throwing : GoodIn wsX10_reason wsX10_throwing := goodIn_r _ [13, 1, 14, 15, 16, 17, 18, 19, 20, 21, 22, 23, 24, 25, 26, 27, 28, 29, 30, 31, 32, 33, 34] (by decide +kernel) (by decide +kernel)
set_option maxRecDepth 20000 in
theorem gX10_reason_X10_throwing : GoodIn wsX10_reason (wsV RX10 50 RX10 yX10_throwing wsX10_throwing) := goodIn_app (goodIn_of _ (by decide +kernel)) ggX10_reason_X10_throwing
theorem dX10_reason_0 : decode cX10_reason 0 = .ok (.aload_n 0, 1) := by decide +kernel
theorem dX10_reason_1 : decode cX10_reason 1 = .ok (.iconst 0, 1) := by decide +kernel
theorem dX10_reason_2 : decode cX10_reason 2 = .ok (.putfield 38, 3) := by decide +kernel
theorem dX10_reason_5 : decode cX10_reason 5 = .ok (.iload_n 1, 1) := by decide +kernel
theorem dX10_reason_6 : decode cX10_reason 6 = .ok (.i2l, 1) := by decide +kernel
theorem dX10_reason_7 : decode cX10_reason 7 = .ok (.lconst 0, 1) := by decide +kernel
theorem dX10_reason_8 : decode cX10_reason 8 = .ok (.ldc2_w 241, 3) := by decide +kernel
theorem dX10_reason_11 : decode cX10_reason 11 = .ok (.invokestatic 59, 3) := by decide +kernel
theorem dX10_reason_14 : decode cX10_reason 14 = .ok (.ifCond .ne 9, 3) := by decide +kernel
theorem dX10_reason_17 : decode cX10_reason 17 = .ok (.aload_n 0, 1) := by decide +kernel
theorem dX10_reason_18 : decode cX10_reason 18 = .ok (.iconst 1, 1) := by decide +kernel
theorem dX10_reason_19 : decode cX10_reason 19 = .ok (.invokevirtual 50, 3) := by decide +kernel
theorem dX10_reason_22 : decode cX10_reason 22 = .ok (.ireturn, 1) := by decide +kernel
theorem dX10_reason_23 : decode cX10_reason 23 = .ok (.aload_n 0, 1) := by decide +kernel
theorem dX10_reason_24 : decode cX10_reason 24 = .ok (.getfield 41, 3) := by decide +kernel
theorem dX10_reason_27 : decode cX10_reason 27 = .ok (.ifCond .ne 9, 3) := by decide +kernel
theorem dX10_reason_30 : decode cX10_reason 30 = .ok (.aload_n 0, 1) := by decide +kernel
theorem dX10_reason_31 : decode cX10_reason 31 = .ok (.iconst 2, 1) := by decide +kernel
theorem dX10_reason_32 : decode cX10_reason 32 = .ok (.invokevirtual 50, 3) := by decide +kernel
theorem dX10_reason_35 : decode cX10_reason 35 = .ok (.ireturn, 1) := by decide +kernel
theorem dX10_reason_36 : decode cX10_reason 36 = .ok (.iload_n 1, 1) := by decide +kernel
theorem dX10_reason_37 : decode cX10_reason 37 = .ok (.ifCond .ne 10, 3) := by decide +kernel
theorem dX10_reason_40 : decode cX10_reason 40 = .ok (.aload_n 0, 1) := by decide +kernel
theorem dX10_reason_41 : decode cX10_reason 41 = .ok (.getfield 41, 3) := by decide +kernel
theorem dX10_reason_44 : decode cX10_reason 44 = .ok (.goto 19, 3) := by decide +kernel
theorem dX10_reason_47 : decode cX10_reason 47 = .ok (.iload_n 1, 1) := by decide +kernel
theorem dX10_reason_48 : decode cX10_reason 48 = .ok (.iconst 1, 1) := by decide +kernel
theorem dX10_reason_49 : decode cX10_reason 49 = .ok (.if_icmp .ne 10, 3) := by decide +kernel
theorem dX10_reason_52 : decode cX10_reason 52 = .ok (.aload_n 0, 1) := by decide +kernel
theorem dX10_reason_53 : decode cX10_reason 53 = .ok (.getfield 44, 3) := by decide +kernel
theorem dX10_reason_56 : decode cX10_reason 56 = .ok (.goto 7, 3) := by decide +kernel
theorem dX10_reason_59 : decode cX10_reason 59 = .ok (.aload_n 0, 1) := by decide +kernel
theorem dX10_reason_60 : decode cX10_reason 60 = .ok (.getfield 47, 3) := by decide +kernel
theorem dX10_reason_63 : decode cX10_reason 63 = .ok (.ireturn, 1) := by decide +kernel
theorem dX10_sign_0 : decode cX10_sign 0 = .ok (.aload_n 0, 1) := by decide +kernel
theorem dX10_sign_1 : decode cX10_sign 1 = .ok (.getfield 35, 3) := by decide +kernel
theorem dX10_sign_4 : decode cX10_sign 4 = .ok (.aload_n 0, 1) := by decide +kernel
theorem dX10_sign_5 : decode cX10_sign 5 = .ok (.getfield 243, 3) := by decide +kernel
theorem dX10_sign_8 : decode cX10_sign 8 = .ok (.iload_n 1, 1) := by decide +kernel
theorem dX10_sign_9 : decode cX10_sign 9 = .ok (.iastore, 1) := by decide +kernel
theorem dX10_sign_10 : decode cX10_sign 10 = .ok (.aload_n 0, 1) := by decide +kernel
theorem dX10_sign_11 : decode cX10_sign 11 = .ok (.dup, 1) := by decide +kernel
theorem dX10_sign_12 : decode cX10_sign 12 = .ok (.getfield 243, 3) := by decide +kernel
theorem dX10_sign_15 : decode cX10_sign 15 = .ok (.iconst 1, 1) := by decide +kernel
theorem dX10_sign_16 : decode cX10_sign 16 = .ok (.iadd, 1) := by decide +kernel
theorem dX10_sign_17 : decode cX10_sign 17 = .ok (.putfield 243, 3) := by decide +kernel
theorem dX10_sign_20 : decode cX10_sign 20 = .ok (.return_, 1) := by decide +kernel
set_option maxRecDepth 20000 in
theorem ggX10_writesNumber_X10_sign : GoodIn wsX10_writesNumber wsX10_sign := goodIn_ca (goodIn_r _ [5, 6, 7, 8, 9, 10, 11, 12, 13, 14, 15, 16, 17, 18, 19, 20, 21, 22, 23, 24, 25, 26, 27, 28] (by decide +kernel) (by decide +kernel)) (goodIn_sub (fun _ h => List.mem_cons_of_mem _ (List.mem_append_right _ h)) (by decide +kernel))
set_option maxRecDepth 20000 in
theorem gX10_writesNumber_X10_sign : GoodIn wsX10_writesNumber (wsV RX10 246 RX10 yX10_sign wsX10_sign) := goodIn_app (goodIn_of _ (by decide +kernel)) ggX10_writesNumber_X10_sign
theorem dX10_writesNumber_0 : decode cX10_writesNumber 0 = .ok (.iconst 1, 1) := by decide +kernel
theorem dX10_writesNumber_1 : decode cX10_writesNumber 1 = .ok (.istore_n 2, 1) := by decide +kernel
theorem dX10_writesNumber_2 : decode cX10_writesNumber 2 = .ok (.iload_n 1, 1) := by decide +kernel
theorem dX10_writesNumber_3 : decode cX10_writesNumber 3 = .ok (.iload_n 2, 1) := by decide +kernel
theorem dX10_writesNumber_4 : decode cX10_writesNumber 4 = .ok (.idiv, 1) := by decide +kernel
theorem dX10_writesNumber_5 : decode cX10_writesNumber 5 = .ok (.bipush 9, 2) := by decide +kernel
theorem dX10_writesNumber_7 : decode cX10_writesNumber 7 = .ok (.if_icmp .le 11, 3) := by decide +kernel
theorem dX10_writesNumber_10 : decode cX10_writesNumber 10 = .ok (.iload_n 2, 1) := by decide +kernel
theorem dX10_writesNumber_11 : decode cX10_writesNumber 11 = .ok (.bipush 10, 2) := by decide +kernel
theorem dX10_writesNumber_13 : decode cX10_writesNumber 13 = .ok (.imul, 1) := by decide +kernel
theorem dX10_writesNumber_14 : decode cX10_writesNumber 14 = .ok (.istore_n 2, 1) := by decide +kernel
theorem dX10_writesNumber_15 : decode cX10_writesNumber 15 = .ok (.goto (-13), 3) := by decide +kernel
theorem dX10_writesNumber_18 : decode cX10_writesNumber 18 = .ok (.iload_n 2, 1) := by decide +kernel
theorem dX10_writesNumber_19 : decode cX10_writesNumber 19 = .ok (.istore_n 3, 1) := by decide +kernel
theorem dX10_writesNumber_20 : decode cX10_writesNumber 20 = .ok (.iload_n 3, 1) := by decide +kernel
theorem dX10_writesNumber_21 : decode cX10_writesNumber 21 = .ok (.ifCond .le 24, 3) := by decide +kernel
theorem dX10_writesNumber_24 : decode cX10_writesNumber 24 = .ok (.aload_n 0, 1) := by decide +kernel
theorem dX10_writesNumber_25 : decode cX10_writesNumber 25 = .ok (.bipush 48, 2) := by decide +kernel
theorem dX10_writesNumber_27 : decode cX10_writesNumber 27 = .ok (.iload_n 1, 1) := by decide +kernel
theorem dX10_writesNumber_28 : decode cX10_writesNumber 28 = .ok (.iload_n 3, 1) := by decide +kernel
theorem dX10_writesNumber_29 : decode cX10_writesNumber 29 = .ok (.idiv, 1) := by decide +kernel
theorem dX10_writesNumber_30 : decode cX10_writesNumber 30 = .ok (.bipush 10, 2) := by decide +kernel
theorem dX10_writesNumber_32 : decode cX10_writesNumber 32 = .ok (.irem, 1) := by decide +kernel
theorem dX10_writesNumber_33 : decode cX10_writesNumber 33 = .ok (.iadd, 1) := by decide +kernel
theorem dX10_writesNumber_34 : decode cX10_writesNumber 34 = .ok (.invokevirtual 246, 3) := by decide +kernel
theorem dX10_writesNumber_37 : decode cX10_writesNumber 37 = .ok (.iload_n 3, 1) := by decide +kernel
theorem dX10_writesNumber_38 : decode cX10_writesNumber 38 = .ok (.bipush 10, 2) := by decide +kernel
theorem dX10_writesNumber_40 : decode cX10_writesNumber 40 = .ok (.idiv, 1) := by decide +kernel
theorem dX10_writesNumber_41 : decode cX10_writesNumber 41 = .ok (.istore_n 3, 1) := by decide +kernel
theorem dX10_writesNumber_42 : decode cX10_writesNumber 42 = .ok (.goto (-22), 3) := by decide +kernel
theorem dX10_writesNumber_45 : decode cX10_writesNumber 45 = .ok (.return_, 1) := by decide +kernel
set_option maxRecDepth 20000 in
theorem ggX10_line_X10_isVisitor : GoodIn wsX10_line wsX10_isVisitor := goodIn_ca (goodIn_r _ [8, 3, 9, 10, 7, 11, 28, 29, 30, 31, 32, 33, 34, 35, 36, 37, 38, 39, 40, 41, 42, 43, 44, 45, 46, 47, 48] (by decide +kernel) (by decide +kernel)) (goodIn_sub (fun _ h => List.mem_cons_of_mem _ (List.mem_append_left _ (List.mem_append_right _ h))) (by decide +kernel))
set_option maxRecDepth 20000 in
theorem gX10_line_X10_isVisitor : GoodIn wsX10_line (wsV RX10 154 RX10 yX10_isVisitor wsX10_isVisitor) := goodIn_app (goodIn_of _ (by decide +kernel)) ggX10_line_X10_isVisitor
set_option maxRecDepth 20000 in
theorem ggX10_line_X10_throwing : GoodIn wsX10_line wsX10_throwing := goodIn_r _ [15, 1, 28, 29, 30, 31, 32, 33, 34, 35, 36, 37, 38, 39, 40, 41, 42, 43, 44, 45, 46, 47, 48] (by decide +kernel) (by decide +kernel)
set_option maxRecDepth 20000 in
theorem gX10_line_X10_throwing : GoodIn wsX10_line (wsV RX10 50 RX10 yX10_throwing wsX10_throwing) := goodIn_app (goodIn_of _ (by decide +kernel)) ggX10_line_X10_throwing
set_option maxRecDepth 20000 in
theorem ggX10_line_X10_visitorAt : GoodIn wsX10_line wsX10_visitorAt := goodIn_r _ [18] (by decide +kernel) (by decide +kernel)
set_option maxRecDepth 20000 in
theorem gX10_line_X10_visitorAt : GoodIn wsX10_line (va_wsS RX10 126 yX10_visitorAt wsX10_visitorAt) := goodIn_app (goodIn_of _ (by decide +kernel)) ggX10_line_X10_visitorAt
set_option maxRecDepth 20000 in
theorem ggX10_line_X10_sign : GoodIn wsX10_line wsX10_sign := goodIn_ca (goodIn_r _ [22, 23, 2, 28, 29, 30, 31, 32, 33, 34, 35, 36, 37, 38, 39, 40, 41, 42, 43, 44, 45, 46, 47, 48] (by decide +kernel) (by decide +kernel)) (goodIn_sub (fun _ h => List.mem_cons_of_mem _ (List.mem_append_left _ (List.mem_append_right _ h))) (by decide +kernel))
set_option maxRecDepth 20000 in
theorem gX10_line_X10_sign : GoodIn wsX10_line (wsV RX10 246 RX10 yX10_sign wsX10_sign) := goodIn_app (goodIn_of _ (by decide +kernel)) ggX10_line_X10_sign
set_option maxRecDepth 20000 in
theorem ggX10_line_X10_writesNumber : GoodIn wsX10_line wsX10_writesNumber := goodIn_ca (goodIn_ca (goodIn_r _ [27, 19, 20, 21, 7, 22, 23, 2, 28, 29, 30, 31, 32, 33, 34, 35, 36, 37, 38, 39, 40, 41, 42, 43, 44, 45, 46, 47, 48] (by decide +kernel) (by decide +kernel)) (goodIn_sub (fun _ h => List.mem_cons_of_mem _ (List.mem_append_right _ h)) (by decide +kernel))) (goodIn_sub (fun _ h => List.mem_cons_of_mem _ (List.mem_append_left _ (List.mem_append_right _ h))) (by decide +kernel))
set_option maxRecDepth 20000 in
theorem gX10_line_X10_writesNumber : GoodIn wsX10_line (wsV RX10 249 RX10 yX10_writesNumber wsX10_writesNumber) := goodIn_app (goodIn_of _ (by decide +kernel)) ggX10_line_X10_writesNumber
theorem dX10_line_0 : decode cX10_line 0 = .ok (.aload_n 0, 1) := by decide +kernel
theorem dX10_line_1 : decode cX10_line 1 = .ok (.iconst 0, 1) := by decide +kernel
theorem dX10_line_2 : decode cX10_line 2 = .ok (.putfield 38, 3) := by decide +kernel
theorem dX10_line_5 : decode cX10_line 5 = .ok (.aload_n 0, 1) := by decide +kernel
theorem dX10_line_6 : decode cX10_line 6 = .ok (.iload_n 1, 1) := by decide +kernel
theorem dX10_line_7 : decode cX10_line 7 = .ok (.invokevirtual 154, 3) := by decide +kernel
theorem dX10_line_10 : decode cX10_line 10 = .ok (.ifCond .ne 9, 3) := by decide +kernel
theorem dX10_line_13 : decode cX10_line 13 = .ok (.aload_n 0, 1) := by decide +kernel
theorem dX10_line_14 : decode cX10_line 14 = .ok (.iconst 1, 1) := by decide +kernel
theorem dX10_line_15 : decode cX10_line 15 = .ok (.invokevirtual 50, 3) := by decide +kernel
theorem dX10_line_18 : decode cX10_line 18 = .ok (.ireturn, 1) := by decide +kernel
theorem dX10_line_19 : decode cX10_line 19 = .ok (.iload_n 1, 1) := by decide +kernel
theorem dX10_line_20 : decode cX10_line 20 = .ok (.invokestatic 126, 3) := by decide +kernel
theorem dX10_line_23 : decode cX10_line 23 = .ok (.istore_n 2, 1) := by decide +kernel
theorem dX10_line_24 : decode cX10_line 24 = .ok (.aload_n 0, 1) := by decide +kernel
theorem dX10_line_25 : decode cX10_line 25 = .ok (.iconst 0, 1) := by decide +kernel
theorem dX10_line_26 : decode cX10_line 26 = .ok (.putfield 243, 3) := by decide +kernel
theorem dX10_line_29 : decode cX10_line 29 = .ok (.aload_n 0, 1) := by decide +kernel
theorem dX10_line_30 : decode cX10_line 30 = .ok (.getfield 9, 3) := by decide +kernel
theorem dX10_line_33 : decode cX10_line 33 = .ok (.iload_n 2, 1) := by decide +kernel
theorem dX10_line_34 : decode cX10_line 34 = .ok (.bipush 7, 2) := by decide +kernel
theorem dX10_line_36 : decode cX10_line 36 = .ok (.iadd, 1) := by decide +kernel
theorem dX10_line_37 : decode cX10_line 37 = .ok (.iaload, 1) := by decide +kernel
theorem dX10_line_38 : decode cX10_line 38 = .ok (.iconst 1, 1) := by decide +kernel
theorem dX10_line_39 : decode cX10_line 39 = .ok (.if_icmp .ne 24, 3) := by decide +kernel
theorem dX10_line_42 : decode cX10_line 42 = .ok (.aload_n 0, 1) := by decide +kernel
theorem dX10_line_43 : decode cX10_line 43 = .ok (.bipush 111, 2) := by decide +kernel
theorem dX10_line_45 : decode cX10_line 45 = .ok (.invokevirtual 246, 3) := by decide +kernel
theorem dX10_line_48 : decode cX10_line 48 = .ok (.aload_n 0, 1) := by decide +kernel
theorem dX10_line_49 : decode cX10_line 49 = .ok (.bipush 117, 2) := by decide +kernel
theorem dX10_line_51 : decode cX10_line 51 = .ok (.invokevirtual 246, 3) := by decide +kernel
theorem dX10_line_54 : decode cX10_line 54 = .ok (.aload_n 0, 1) := by decide +kernel
theorem dX10_line_55 : decode cX10_line 55 = .ok (.bipush 116, 2) := by decide +kernel
theorem dX10_line_57 : decode cX10_line 57 = .ok (.invokevirtual 246, 3) := by decide +kernel
theorem dX10_line_60 : decode cX10_line 60 = .ok (.goto 15, 3) := by decide +kernel
theorem dX10_line_63 : decode cX10_line 63 = .ok (.aload_n 0, 1) := by decide +kernel
theorem dX10_line_64 : decode cX10_line 64 = .ok (.aload_n 0, 1) := by decide +kernel
theorem dX10_line_65 : decode cX10_line 65 = .ok (.getfield 9, 3) := by decide +kernel
theorem dX10_line_68 : decode cX10_line 68 = .ok (.iload_n 2, 1) := by decide +kernel
theorem dX10_line_69 : decode cX10_line 69 = .ok (.iconst 1, 1) := by decide +kernel
theorem dX10_line_70 : decode cX10_line 70 = .ok (.iadd, 1) := by decide +kernel
theorem dX10_line_71 : decode cX10_line 71 = .ok (.iaload, 1) := by decide +kernel
theorem dX10_line_72 : decode cX10_line 72 = .ok (.invokevirtual 249, 3) := by decide +kernel
theorem dX10_line_75 : decode cX10_line 75 = .ok (.aload_n 0, 1) := by decide +kernel
theorem dX10_line_76 : decode cX10_line 76 = .ok (.bipush 43, 2) := by decide +kernel
theorem dX10_line_78 : decode cX10_line 78 = .ok (.invokevirtual 246, 3) := by decide +kernel
theorem dX10_line_81 : decode cX10_line 81 = .ok (.aload_n 0, 1) := by decide +kernel
theorem dX10_line_82 : decode cX10_line 82 = .ok (.aload_n 0, 1) := by decide +kernel
theorem dX10_line_83 : decode cX10_line 83 = .ok (.getfield 9, 3) := by decide +kernel
theorem dX10_line_86 : decode cX10_line 86 = .ok (.iload_n 2, 1) := by decide +kernel
theorem dX10_line_87 : decode cX10_line 87 = .ok (.iconst 2, 1) := by decide +kernel
theorem dX10_line_88 : decode cX10_line 88 = .ok (.iadd, 1) := by decide +kernel
theorem dX10_line_89 : decode cX10_line 89 = .ok (.iaload, 1) := by decide +kernel
theorem dX10_line_90 : decode cX10_line 90 = .ok (.invokevirtual 249, 3) := by decide +kernel
theorem dX10_line_93 : decode cX10_line 93 = .ok (.aload_n 0, 1) := by decide +kernel
theorem dX10_line_94 : decode cX10_line 94 = .ok (.getfield 9, 3) := by decide +kernel
theorem dX10_line_97 : decode cX10_line 97 = .ok (.iload_n 2, 1) := by decide +kernel
theorem dX10_line_98 : decode cX10_line 98 = .ok (.iconst 4, 1) := by decide +kernel
theorem dX10_line_99 : decode cX10_line 99 = .ok (.iadd, 1) := by decide +kernel
theorem dX10_line_100 : decode cX10_line 100 = .ok (.iaload, 1) := by decide +kernel
theorem dX10_line_101 : decode cX10_line 101 = .ok (.iconst (-1), 1) := by decide +kernel
theorem dX10_line_102 : decode cX10_line 102 = .ok (.if_icmp .eq 58, 3) := by decide +kernel
theorem dX10_line_105 : decode cX10_line 105 = .ok (.aload_n 0, 1) := by decide +kernel
theorem dX10_line_106 : decode cX10_line 106 = .ok (.bipush 35, 2) := by decide +kernel
theorem dX10_line_108 : decode cX10_line 108 = .ok (.invokevirtual 246, 3) := by decide +kernel
theorem dX10_line_111 : decode cX10_line 111 = .ok (.aload_n 0, 1) := by decide +kernel
theorem dX10_line_112 : decode cX10_line 112 = .ok (.aload_n 0, 1) := by decide +kernel
theorem dX10_line_113 : decode cX10_line 113 = .ok (.getfield 9, 3) := by decide +kernel
theorem dX10_line_116 : decode cX10_line 116 = .ok (.iload_n 2, 1) := by decide +kernel
theorem dX10_line_117 : decode cX10_line 117 = .ok (.iconst 4, 1) := by decide +kernel
theorem dX10_line_118 : decode cX10_line 118 = .ok (.iadd, 1) := by decide +kernel
theorem dX10_line_119 : decode cX10_line 119 = .ok (.iaload, 1) := by decide +kernel
theorem dX10_line_120 : decode cX10_line 120 = .ok (.invokevirtual 249, 3) := by decide +kernel
theorem dX10_line_123 : decode cX10_line 123 = .ok (.aload_n 0, 1) := by decide +kernel
theorem dX10_line_124 : decode cX10_line 124 = .ok (.bipush 42, 2) := by decide +kernel
theorem dX10_line_126 : decode cX10_line 126 = .ok (.invokevirtual 246, 3) := by decide +kernel
theorem dX10_line_129 : decode cX10_line 129 = .ok (.aload_n 0, 1) := by decide +kernel
theorem dX10_line_130 : decode cX10_line 130 = .ok (.aload_n 0, 1) := by decide +kernel
theorem dX10_line_131 : decode cX10_line 131 = .ok (.getfield 9, 3) := by decide +kernel
theorem dX10_line_134 : decode cX10_line 134 = .ok (.iload_n 2, 1) := by decide +kernel
theorem dX10_line_135 : decode cX10_line 135 = .ok (.iconst 5, 1) := by decide +kernel
theorem dX10_line_136 : decode cX10_line 136 = .ok (.iadd, 1) := by decide +kernel
theorem dX10_line_137 : decode cX10_line 137 = .ok (.iaload, 1) := by decide +kernel
theorem dX10_line_138 : decode cX10_line 138 = .ok (.invokevirtual 249, 3) := by decide +kernel
theorem dX10_line_141 : decode cX10_line 141 = .ok (.aload_n 0, 1) := by decide +kernel
theorem dX10_line_142 : decode cX10_line 142 = .ok (.getfield 9, 3) := by decide +kernel
theorem dX10_line_145 : decode cX10_line 145 = .ok (.iload_n 2, 1) := by decide +kernel
theorem dX10_line_146 : decode cX10_line 146 = .ok (.bipush 6, 2) := by decide +kernel
theorem dX10_line_148 : decode cX10_line 148 = .ok (.iadd, 1) := by decide +kernel
theorem dX10_line_149 : decode cX10_line 149 = .ok (.iaload, 1) := by decide +kernel
theorem dX10_line_150 : decode cX10_line 150 = .ok (.iconst 1, 1) := by decide +kernel
theorem dX10_line_151 : decode cX10_line 151 = .ok (.if_icmp .ne 9, 3) := by decide +kernel
theorem dX10_line_154 : decode cX10_line 154 = .ok (.aload_n 0, 1) := by decide +kernel
theorem dX10_line_155 : decode cX10_line 155 = .ok (.bipush 33, 2) := by decide +kernel
theorem dX10_line_157 : decode cX10_line 157 = .ok (.invokevirtual 246, 3) := by decide +kernel
theorem dX10_line_160 : decode cX10_line 160 = .ok (.aload_n 0, 1) := by decide +kernel
theorem dX10_line_161 : decode cX10_line 161 = .ok (.getfield 243, 3) := by decide +kernel
theorem dX10_line_164 : decode cX10_line 164 = .ok (.ireturn, 1) := by decide +kernel
set_option maxRecDepth 20000 in
theorem ggX10_visitorsIn_X10_visitorAt : GoodIn wsX10_visitorsIn wsX10_visitorAt := goodIn_r _ [5] (by decide +kernel) (by decide +kernel)
set_option maxRecDepth 20000 in
theorem gX10_visitorsIn_X10_visitorAt : GoodIn wsX10_visitorsIn (va_wsS RX10 126 yX10_visitorAt wsX10_visitorAt) := goodIn_app (goodIn_of _ (by decide +kernel)) ggX10_visitorsIn_X10_visitorAt
theorem dX10_visitorsIn_0 : decode cX10_visitorsIn 0 = .ok (.iconst 0, 1) := by decide +kernel
theorem dX10_visitorsIn_1 : decode cX10_visitorsIn 1 = .ok (.istore_n 2, 1) := by decide +kernel
theorem dX10_visitorsIn_2 : decode cX10_visitorsIn 2 = .ok (.iconst 0, 1) := by decide +kernel
theorem dX10_visitorsIn_3 : decode cX10_visitorsIn 3 = .ok (.istore_n 3, 1) := by decide +kernel
theorem dX10_visitorsIn_4 : decode cX10_visitorsIn 4 = .ok (.iload_n 3, 1) := by decide +kernel
theorem dX10_visitorsIn_5 : decode cX10_visitorsIn 5 = .ok (.aload_n 0, 1) := by decide +kernel
theorem dX10_visitorsIn_6 : decode cX10_visitorsIn 6 = .ok (.getfield 9, 3) := by decide +kernel
theorem dX10_visitorsIn_9 : decode cX10_visitorsIn 9 = .ok (.iconst 1, 1) := by decide +kernel
theorem dX10_visitorsIn_10 : decode cX10_visitorsIn 10 = .ok (.iaload, 1) := by decide +kernel
theorem dX10_visitorsIn_11 : decode cX10_visitorsIn 11 = .ok (.if_icmp .ge 47, 3) := by decide +kernel
theorem dX10_visitorsIn_14 : decode cX10_visitorsIn 14 = .ok (.iload_n 2, 1) := by decide +kernel
theorem dX10_visitorsIn_15 : decode cX10_visitorsIn 15 = .ok (.aload_n 0, 1) := by decide +kernel
theorem dX10_visitorsIn_16 : decode cX10_visitorsIn 16 = .ok (.getfield 9, 3) := by decide +kernel
theorem dX10_visitorsIn_19 : decode cX10_visitorsIn 19 = .ok (.iload_n 3, 1) := by decide +kernel
theorem dX10_visitorsIn_20 : decode cX10_visitorsIn 20 = .ok (.invokestatic 126, 3) := by decide +kernel
theorem dX10_visitorsIn_23 : decode cX10_visitorsIn 23 = .ok (.bipush 7, 2) := by decide +kernel
theorem dX10_visitorsIn_25 : decode cX10_visitorsIn 25 = .ok (.iadd, 1) := by decide +kernel
theorem dX10_visitorsIn_26 : decode cX10_visitorsIn 26 = .ok (.iaload, 1) := by decide +kernel
theorem dX10_visitorsIn_27 : decode cX10_visitorsIn 27 = .ok (.ifCond .ne 22, 3) := by decide +kernel
theorem dX10_visitorsIn_30 : decode cX10_visitorsIn 30 = .ok (.aload_n 0, 1) := by decide +kernel
theorem dX10_visitorsIn_31 : decode cX10_visitorsIn 31 = .ok (.getfield 9, 3) := by decide +kernel
theorem dX10_visitorsIn_34 : decode cX10_visitorsIn 34 = .ok (.iload_n 3, 1) := by decide +kernel
theorem dX10_visitorsIn_35 : decode cX10_visitorsIn 35 = .ok (.invokestatic 126, 3) := by decide +kernel
theorem dX10_visitorsIn_38 : decode cX10_visitorsIn 38 = .ok (.iconst 1, 1) := by decide +kernel
theorem dX10_visitorsIn_39 : decode cX10_visitorsIn 39 = .ok (.iadd, 1) := by decide +kernel
theorem dX10_visitorsIn_40 : decode cX10_visitorsIn 40 = .ok (.iaload, 1) := by decide +kernel
theorem dX10_visitorsIn_41 : decode cX10_visitorsIn 41 = .ok (.iload_n 1, 1) := by decide +kernel
theorem dX10_visitorsIn_42 : decode cX10_visitorsIn 42 = .ok (.if_icmp .ne 7, 3) := by decide +kernel
theorem dX10_visitorsIn_45 : decode cX10_visitorsIn 45 = .ok (.iconst 1, 1) := by decide +kernel
theorem dX10_visitorsIn_46 : decode cX10_visitorsIn 46 = .ok (.goto 4, 3) := by decide +kernel
theorem dX10_visitorsIn_49 : decode cX10_visitorsIn 49 = .ok (.iconst 0, 1) := by decide +kernel
theorem dX10_visitorsIn_50 : decode cX10_visitorsIn 50 = .ok (.iadd, 1) := by decide +kernel
theorem dX10_visitorsIn_51 : decode cX10_visitorsIn 51 = .ok (.istore_n 2, 1) := by decide +kernel
theorem dX10_visitorsIn_52 : decode cX10_visitorsIn 52 = .ok (.iinc 3 1, 3) := by decide +kernel
theorem dX10_visitorsIn_55 : decode cX10_visitorsIn 55 = .ok (.goto (-51), 3) := by decide +kernel
theorem dX10_visitorsIn_58 : decode cX10_visitorsIn 58 = .ok (.iload_n 2, 1) := by decide +kernel
theorem dX10_visitorsIn_59 : decode cX10_visitorsIn 59 = .ok (.ireturn, 1) := by decide +kernel
set_option maxRecDepth 20000 in
theorem ggX10_row_X10_in : GoodIn wsX10_row wsX10_in := goodIn_r _ [8] (by decide +kernel) (by decide +kernel)
set_option maxRecDepth 20000 in
theorem gX10_row_X10_in : GoodIn wsX10_row (va_wsS RX10 59 yX10_in wsX10_in) := goodIn_app (goodIn_of _ (by decide +kernel)) ggX10_row_X10_in
set_option maxRecDepth 20000 in
theorem ggX10_row_X10_throwing : GoodIn wsX10_row wsX10_throwing := goodIn_r _ [12, 1, 39, 40, 41, 42, 43, 44, 45, 46, 47, 48, 49, 50, 51, 52, 53, 54, 55, 56, 57, 58, 59] (by decide +kernel) (by decide +kernel)
set_option maxRecDepth 20000 in
theorem gX10_row_X10_throwing : GoodIn wsX10_row (wsV RX10 50 RX10 yX10_throwing wsX10_throwing) := goodIn_app (goodIn_of _ (by decide +kernel)) ggX10_row_X10_throwing
set_option maxRecDepth 20000 in
theorem ggX10_row_X10_hedgeAt : GoodIn wsX10_row wsX10_hedgeAt := goodIn_r _ [15, 16, 17, 18, 19, 20, 21, 22] (by decide +kernel) (by decide +kernel)
set_option maxRecDepth 20000 in
theorem gX10_row_X10_hedgeAt : GoodIn wsX10_row (va_wsS RX10 77 yX10_hedgeAt wsX10_hedgeAt) := goodIn_app (goodIn_of _ (by decide +kernel)) ggX10_row_X10_hedgeAt
set_option maxRecDepth 20000 in
theorem ggX10_row_X10_isGapAt : GoodIn wsX10_row wsX10_isGapAt := goodIn_ca (goodIn_r _ [26, 4, 39, 40, 41, 42, 43, 44, 45, 46, 47, 48, 49, 50, 51, 52, 53, 54, 55, 56, 57, 58, 59] (by decide +kernel) (by decide +kernel)) (goodIn_sub (fun _ h => List.mem_cons_of_mem _ (List.mem_append_right _ h)) (by decide +kernel))
set_option maxRecDepth 20000 in
theorem gX10_row_X10_isGapAt : GoodIn wsX10_row (wsV RX10 80 RX10 yX10_isGapAt wsX10_isGapAt) := goodIn_app (goodIn_of _ (by decide +kernel)) ggX10_row_X10_isGapAt
set_option maxRecDepth 20000 in
theorem ggX10_row_X10_sign : GoodIn wsX10_row wsX10_sign := goodIn_ca (goodIn_r _ [30, 31, 3, 39, 40, 41, 42, 43, 44, 45, 46, 47, 48, 49, 50, 51, 52, 53, 54, 55, 56, 57, 58, 59] (by decide +kernel) (by decide +kernel)) (goodIn_sub (fun _ h => List.mem_cons_of_mem _ (List.mem_append_right _ h)) (by decide +kernel))
set_option maxRecDepth 20000 in
theorem gX10_row_X10_sign : GoodIn wsX10_row (wsV RX10 246 RX10 yX10_sign wsX10_sign) := goodIn_app (goodIn_of _ (by decide +kernel)) ggX10_row_X10_sign
set_option maxRecDepth 20000 in
theorem ggX10_row_X10_visitorsIn : GoodIn wsX10_row wsX10_visitorsIn := goodIn_ca (goodIn_r _ [35, 4, 36, 37, 7, 38, 39, 40, 41, 42, 43, 44, 45, 46, 47, 48, 49, 50, 51, 52, 53, 54, 55, 56, 57, 58, 59] (by decide +kernel) (by decide +kernel)) (goodIn_sub (fun _ h => List.mem_cons_of_mem _ (List.mem_append_right _ h)) (by decide +kernel))
set_option maxRecDepth 20000 in
theorem gX10_row_X10_visitorsIn : GoodIn wsX10_row (wsV RX10 252 RX10 yX10_visitorsIn wsX10_visitorsIn) := goodIn_app (goodIn_of _ (by decide +kernel)) ggX10_row_X10_visitorsIn
theorem dX10_row_0 : decode cX10_row 0 = .ok (.aload_n 0, 1) := by decide +kernel
theorem dX10_row_1 : decode cX10_row 1 = .ok (.iconst 0, 1) := by decide +kernel
theorem dX10_row_2 : decode cX10_row 2 = .ok (.putfield 38, 3) := by decide +kernel
theorem dX10_row_5 : decode cX10_row 5 = .ok (.iload_n 1, 1) := by decide +kernel
theorem dX10_row_6 : decode cX10_row 6 = .ok (.i2l, 1) := by decide +kernel
theorem dX10_row_7 : decode cX10_row 7 = .ok (.lconst 0, 1) := by decide +kernel
theorem dX10_row_8 : decode cX10_row 8 = .ok (.ldc2_w 63, 3) := by decide +kernel
theorem dX10_row_11 : decode cX10_row 11 = .ok (.invokestatic 59, 3) := by decide +kernel
theorem dX10_row_14 : decode cX10_row 14 = .ok (.ifCond .ne 9, 3) := by decide +kernel
theorem dX10_row_17 : decode cX10_row 17 = .ok (.aload_n 0, 1) := by decide +kernel
theorem dX10_row_18 : decode cX10_row 18 = .ok (.iconst 1, 1) := by decide +kernel
theorem dX10_row_19 : decode cX10_row 19 = .ok (.invokevirtual 50, 3) := by decide +kernel
theorem dX10_row_22 : decode cX10_row 22 = .ok (.ireturn, 1) := by decide +kernel
theorem dX10_row_23 : decode cX10_row 23 = .ok (.aload_n 0, 1) := by decide +kernel
theorem dX10_row_24 : decode cX10_row 24 = .ok (.iconst 0, 1) := by decide +kernel
theorem dX10_row_25 : decode cX10_row 25 = .ok (.putfield 243, 3) := by decide +kernel
theorem dX10_row_28 : decode cX10_row 28 = .ok (.iconst 4, 1) := by decide +kernel
theorem dX10_row_29 : decode cX10_row 29 = .ok (.iload_n 1, 1) := by decide +kernel
theorem dX10_row_30 : decode cX10_row 30 = .ok (.imul, 1) := by decide +kernel
theorem dX10_row_31 : decode cX10_row 31 = .ok (.istore_n 2, 1) := by decide +kernel
theorem dX10_row_32 : decode cX10_row 32 = .ok (.iload_n 2, 1) := by decide +kernel
theorem dX10_row_33 : decode cX10_row 33 = .ok (.iconst 4, 1) := by decide +kernel
theorem dX10_row_34 : decode cX10_row 34 = .ok (.iload_n 1, 1) := by decide +kernel
theorem dX10_row_35 : decode cX10_row 35 = .ok (.imul, 1) := by decide +kernel
theorem dX10_row_36 : decode cX10_row 36 = .ok (.iconst 4, 1) := by decide +kernel
theorem dX10_row_37 : decode cX10_row 37 = .ok (.iadd, 1) := by decide +kernel
theorem dX10_row_38 : decode cX10_row 38 = .ok (.if_icmp .ge 68, 3) := by decide +kernel
theorem dX10_row_41 : decode cX10_row 41 = .ok (.iload_n 2, 1) := by decide +kernel
theorem dX10_row_42 : decode cX10_row 42 = .ok (.iconst 4, 1) := by decide +kernel
theorem dX10_row_43 : decode cX10_row 43 = .ok (.iload_n 1, 1) := by decide +kernel
theorem dX10_row_44 : decode cX10_row 44 = .ok (.imul, 1) := by decide +kernel
theorem dX10_row_45 : decode cX10_row 45 = .ok (.if_icmp .le 28, 3) := by decide +kernel
theorem dX10_row_48 : decode cX10_row 48 = .ok (.aload_n 0, 1) := by decide +kernel
theorem dX10_row_49 : decode cX10_row 49 = .ok (.aload_n 0, 1) := by decide +kernel
theorem dX10_row_50 : decode cX10_row 50 = .ok (.iload_n 2, 1) := by decide +kernel
theorem dX10_row_51 : decode cX10_row 51 = .ok (.iconst 1, 1) := by decide +kernel
theorem dX10_row_52 : decode cX10_row 52 = .ok (.isub, 1) := by decide +kernel
theorem dX10_row_53 : decode cX10_row 53 = .ok (.iload_n 2, 1) := by decide +kernel
theorem dX10_row_54 : decode cX10_row 54 = .ok (.invokestatic 77, 3) := by decide +kernel
theorem dX10_row_57 : decode cX10_row 57 = .ok (.invokevirtual 80, 3) := by decide +kernel
theorem dX10_row_60 : decode cX10_row 60 = .ok (.ifCond .eq 8, 3) := by decide +kernel
theorem dX10_row_63 : decode cX10_row 63 = .ok (.bipush 32, 2) := by decide +kernel
theorem dX10_row_65 : decode cX10_row 65 = .ok (.goto 5, 3) := by decide +kernel
theorem dX10_row_68 : decode cX10_row 68 = .ok (.bipush 124, 2) := by decide +kernel
theorem dX10_row_70 : decode cX10_row 70 = .ok (.invokevirtual 246, 3) := by decide +kernel
theorem dX10_row_73 : decode cX10_row 73 = .ok (.aload_n 0, 1) := by decide +kernel
theorem dX10_row_74 : decode cX10_row 74 = .ok (.aload_n 0, 1) := by decide +kernel
theorem dX10_row_75 : decode cX10_row 75 = .ok (.getfield 9, 3) := by decide +kernel
theorem dX10_row_78 : decode cX10_row 78 = .ok (.iconst 2, 1) := by decide +kernel
theorem dX10_row_79 : decode cX10_row 79 = .ok (.iaload, 1) := by decide +kernel
theorem dX10_row_80 : decode cX10_row 80 = .ok (.iload_n 2, 1) := by decide +kernel
theorem dX10_row_81 : decode cX10_row 81 = .ok (.if_icmp .ne 8, 3) := by decide +kernel
theorem dX10_row_84 : decode cX10_row 84 = .ok (.bipush 77, 2) := by decide +kernel
theorem dX10_row_86 : decode cX10_row 86 = .ok (.goto 11, 3) := by decide +kernel
theorem dX10_row_89 : decode cX10_row 89 = .ok (.bipush 48, 2) := by decide +kernel
theorem dX10_row_91 : decode cX10_row 91 = .ok (.aload_n 0, 1) := by decide +kernel
theorem dX10_row_92 : decode cX10_row 92 = .ok (.iload_n 2, 1) := by decide +kernel
theorem dX10_row_93 : decode cX10_row 93 = .ok (.invokevirtual 252, 3) := by decide +kernel
theorem dX10_row_96 : decode cX10_row 96 = .ok (.iadd, 1) := by decide +kernel
theorem dX10_row_97 : decode cX10_row 97 = .ok (.invokevirtual 246, 3) := by decide +kernel
theorem dX10_row_100 : decode cX10_row 100 = .ok (.iinc 2 1, 3) := by decide +kernel
theorem dX10_row_103 : decode cX10_row 103 = .ok (.goto (-71), 3) := by decide +kernel
theorem dX10_row_106 : decode cX10_row 106 = .ok (.aload_n 0, 1) := by decide +kernel
theorem dX10_row_107 : decode cX10_row 107 = .ok (.getfield 243, 3) := by decide +kernel
theorem dX10_row_110 : decode cX10_row 110 = .ok (.ireturn, 1) := by decide +kernel
set_option maxRecDepth 20000 in
theorem ggX10_character_X10_in : GoodIn wsX10_character wsX10_in := goodIn_r _ [7] (by decide +kernel) (by decide +kernel)
set_option maxRecDepth 20000 in
theorem gX10_character_X10_in : GoodIn wsX10_character (va_wsS RX10 59 yX10_in wsX10_in) := goodIn_app (goodIn_of _ (by decide +kernel)) ggX10_character_X10_in
set_option maxRecDepth 20000 in
theorem ggX10_character_X10_throwing : GoodIn wsX10_character wsX10_throwing := goodIn_r _ [11, 1, 12, 13, 14, 15, 16, 17, 18, 19, 20, 21, 22, 23, 24, 25, 26, 27, 28, 29, 30, 31, 32] (by decide +kernel) (by decide +kernel)
set_option maxRecDepth 20000 in
theorem gX10_character_X10_throwing : GoodIn wsX10_character (wsV RX10 50 RX10 yX10_throwing wsX10_throwing) := goodIn_app (goodIn_of _ (by decide +kernel)) ggX10_character_X10_throwing
theorem dX10_character_0 : decode cX10_character 0 = .ok (.aload_n 0, 1) := by decide +kernel
theorem dX10_character_1 : decode cX10_character 1 = .ok (.iconst 0, 1) := by decide +kernel
theorem dX10_character_2 : decode cX10_character 2 = .ok (.putfield 38, 3) := by decide +kernel
theorem dX10_character_5 : decode cX10_character 5 = .ok (.iload_n 1, 1) := by decide +kernel
theorem dX10_character_6 : decode cX10_character 6 = .ok (.i2l, 1) := by decide +kernel
theorem dX10_character_7 : decode cX10_character 7 = .ok (.lconst 0, 1) := by decide +kernel
theorem dX10_character_8 : decode cX10_character 8 = .ok (.aload_n 0, 1) := by decide +kernel
theorem dX10_character_9 : decode cX10_character 9 = .ok (.getfield 243, 3) := by decide +kernel
theorem dX10_character_12 : decode cX10_character 12 = .ok (.iconst 1, 1) := by decide +kernel
theorem dX10_character_13 : decode cX10_character 13 = .ok (.isub, 1) := by decide +kernel
theorem dX10_character_14 : decode cX10_character 14 = .ok (.i2l, 1) := by decide +kernel
theorem dX10_character_15 : decode cX10_character 15 = .ok (.invokestatic 59, 3) := by decide +kernel
theorem dX10_character_18 : decode cX10_character 18 = .ok (.ifCond .eq 13, 3) := by decide +kernel
theorem dX10_character_21 : decode cX10_character 21 = .ok (.aload_n 0, 1) := by decide +kernel
theorem dX10_character_22 : decode cX10_character 22 = .ok (.getfield 35, 3) := by decide +kernel
theorem dX10_character_25 : decode cX10_character 25 = .ok (.iload_n 1, 1) := by decide +kernel
theorem dX10_character_26 : decode cX10_character 26 = .ok (.iaload, 1) := by decide +kernel
theorem dX10_character_27 : decode cX10_character 27 = .ok (.i2c, 1) := by decide +kernel
theorem dX10_character_28 : decode cX10_character 28 = .ok (.goto 9, 3) := by decide +kernel
theorem dX10_character_31 : decode cX10_character 31 = .ok (.aload_n 0, 1) := by decide +kernel
theorem dX10_character_32 : decode cX10_character 32 = .ok (.iconst 1, 1) := by decide +kernel
theorem dX10_character_33 : decode cX10_character 33 = .ok (.invokevirtual 50, 3) := by decide +kernel
theorem dX10_character_36 : decode cX10_character 36 = .ok (.i2c, 1) := by decide +kernel
theorem dX10_character_37 : decode cX10_character 37 = .ok (.ireturn, 1) := by decide +kernel
set_option maxRecDepth 20000 in
theorem ggX10_meanLost_X10_throwing : GoodIn wsX10_meanLost wsX10_throwing := goodIn_r _ [7, 1, 19, 20, 21, 22, 23, 24, 25, 26, 27, 28, 29, 30, 31, 32, 33, 34, 35, 36, 37, 38, 39] (by decide +kernel) (by decide +kernel)
set_option maxRecDepth 20000 in
theorem gX10_meanLost_X10_throwing : GoodIn wsX10_meanLost (wsV RX10 50 RX10 yX10_throwing wsX10_throwing) := goodIn_app (goodIn_of _ (by decide +kernel)) ggX10_meanLost_X10_throwing
set_option maxRecDepth 20000 in
theorem ggX10_meanLost_X10_lostOf : GoodIn wsX10_meanLost wsX10_lostOf := goodIn_ca (goodIn_r _ [11, 2, 12, 13, 14, 15, 16, 17, 6, 18, 19, 20, 21, 22, 23, 24, 25, 26, 27, 28, 29, 30, 31, 32, 33, 34, 35, 36, 37, 38, 39] (by decide +kernel) (by decide +kernel)) (goodIn_sub (fun _ h => List.mem_cons_of_mem _ (List.mem_append_right _ h)) (by decide +kernel))
set_option maxRecDepth 20000 in
theorem gX10_meanLost_X10_lostOf : GoodIn wsX10_meanLost (wsV RX10 162 RX10 yX10_lostOf wsX10_lostOf) := goodIn_app (goodIn_of _ (by decide +kernel)) ggX10_meanLost_X10_lostOf
theorem dX10_meanLost_0 : decode cX10_meanLost 0 = .ok (.aload_n 0, 1) := by decide +kernel
theorem dX10_meanLost_1 : decode cX10_meanLost 1 = .ok (.iconst 0, 1) := by decide +kernel
theorem dX10_meanLost_2 : decode cX10_meanLost 2 = .ok (.putfield 38, 3) := by decide +kernel
theorem dX10_meanLost_5 : decode cX10_meanLost 5 = .ok (.aload_n 0, 1) := by decide +kernel
theorem dX10_meanLost_6 : decode cX10_meanLost 6 = .ok (.getfield 9, 3) := by decide +kernel
theorem dX10_meanLost_9 : decode cX10_meanLost 9 = .ok (.iconst 1, 1) := by decide +kernel
theorem dX10_meanLost_10 : decode cX10_meanLost 10 = .ok (.iaload, 1) := by decide +kernel
theorem dX10_meanLost_11 : decode cX10_meanLost 11 = .ok (.ifCond .ne 11, 3) := by decide +kernel
theorem dX10_meanLost_14 : decode cX10_meanLost 14 = .ok (.aload_n 0, 1) := by decide +kernel
theorem dX10_meanLost_15 : decode cX10_meanLost 15 = .ok (.iconst 1, 1) := by decide +kernel
theorem dX10_meanLost_16 : decode cX10_meanLost 16 = .ok (.invokevirtual 50, 3) := by decide +kernel
theorem dX10_meanLost_19 : decode cX10_meanLost 19 = .ok (.pop, 1) := by decide +kernel
theorem dX10_meanLost_20 : decode cX10_meanLost 20 = .ok (.dconst 0, 1) := by decide +kernel
theorem dX10_meanLost_21 : decode cX10_meanLost 21 = .ok (.dreturn, 1) := by decide +kernel
theorem dX10_meanLost_22 : decode cX10_meanLost 22 = .ok (.iconst 0, 1) := by decide +kernel
theorem dX10_meanLost_23 : decode cX10_meanLost 23 = .ok (.istore_n 1, 1) := by decide +kernel
theorem dX10_meanLost_24 : decode cX10_meanLost 24 = .ok (.iconst 0, 1) := by decide +kernel
theorem dX10_meanLost_25 : decode cX10_meanLost 25 = .ok (.istore_n 2, 1) := by decide +kernel
theorem dX10_meanLost_26 : decode cX10_meanLost 26 = .ok (.iload_n 2, 1) := by decide +kernel
theorem dX10_meanLost_27 : decode cX10_meanLost 27 = .ok (.aload_n 0, 1) := by decide +kernel
theorem dX10_meanLost_28 : decode cX10_meanLost 28 = .ok (.getfield 9, 3) := by decide +kernel
theorem dX10_meanLost_31 : decode cX10_meanLost 31 = .ok (.iconst 1, 1) := by decide +kernel
theorem dX10_meanLost_32 : decode cX10_meanLost 32 = .ok (.iaload, 1) := by decide +kernel
theorem dX10_meanLost_33 : decode cX10_meanLost 33 = .ok (.if_icmp .ge 17, 3) := by decide +kernel
theorem dX10_meanLost_36 : decode cX10_meanLost 36 = .ok (.iload_n 1, 1) := by decide +kernel
theorem dX10_meanLost_37 : decode cX10_meanLost 37 = .ok (.aload_n 0, 1) := by decide +kernel
theorem dX10_meanLost_38 : decode cX10_meanLost 38 = .ok (.iload_n 2, 1) := by decide +kernel
theorem dX10_meanLost_39 : decode cX10_meanLost 39 = .ok (.invokevirtual 162, 3) := by decide +kernel
theorem dX10_meanLost_42 : decode cX10_meanLost 42 = .ok (.iadd, 1) := by decide +kernel
theorem dX10_meanLost_43 : decode cX10_meanLost 43 = .ok (.istore_n 1, 1) := by decide +kernel
theorem dX10_meanLost_44 : decode cX10_meanLost 44 = .ok (.iinc 2 1, 3) := by decide +kernel
theorem dX10_meanLost_47 : decode cX10_meanLost 47 = .ok (.goto (-21), 3) := by decide +kernel
theorem dX10_meanLost_50 : decode cX10_meanLost 50 = .ok (.iload_n 1, 1) := by decide +kernel
theorem dX10_meanLost_51 : decode cX10_meanLost 51 = .ok (.i2d, 1) := by decide +kernel
theorem dX10_meanLost_52 : decode cX10_meanLost 52 = .ok (.aload_n 0, 1) := by decide +kernel
theorem dX10_meanLost_53 : decode cX10_meanLost 53 = .ok (.getfield 9, 3) := by decide +kernel
theorem dX10_meanLost_56 : decode cX10_meanLost 56 = .ok (.iconst 1, 1) := by decide +kernel
theorem dX10_meanLost_57 : decode cX10_meanLost 57 = .ok (.iaload, 1) := by decide +kernel
theorem dX10_meanLost_58 : decode cX10_meanLost 58 = .ok (.i2d, 1) := by decide +kernel
theorem dX10_meanLost_59 : decode cX10_meanLost 59 = .ok (.ddiv, 1) := by decide +kernel
theorem dX10_meanLost_60 : decode cX10_meanLost 60 = .ok (.dreturn, 1) := by decide +kernel
set_option maxRecDepth 20000 in
theorem ggX10_gapShare_X10_gaps : GoodIn wsX10_gapShare wsX10_gaps := goodIn_ca (goodIn_r _ [7, 8, 9, 10, 6, 11, 12, 13, 14, 15, 16, 17, 18, 19, 20, 21, 22, 23, 24, 25, 26, 27, 28, 29, 30, 31, 32, 33] (by decide +kernel) (by decide +kernel)) (goodIn_sub (fun _ h => List.mem_cons_of_mem _ (List.mem_append_right _ h)) (by decide +kernel))
set_option maxRecDepth 20000 in
theorem gX10_gapShare_X10_gaps : GoodIn wsX10_gapShare (wsV RX10 110 RX10 yX10_gaps wsX10_gaps) := goodIn_app (goodIn_of _ (by decide +kernel)) ggX10_gapShare_X10_gaps
theorem dX10_gapShare_0 : decode cX10_gapShare 0 = .ok (.aload_n 0, 1) := by decide +kernel
theorem dX10_gapShare_1 : decode cX10_gapShare 1 = .ok (.iconst 0, 1) := by decide +kernel
theorem dX10_gapShare_2 : decode cX10_gapShare 2 = .ok (.putfield 38, 3) := by decide +kernel
theorem dX10_gapShare_5 : decode cX10_gapShare 5 = .ok (.aload_n 0, 1) := by decide +kernel
theorem dX10_gapShare_6 : decode cX10_gapShare 6 = .ok (.invokevirtual 110, 3) := by decide +kernel
theorem dX10_gapShare_9 : decode cX10_gapShare 9 = .ok (.i2f, 1) := by decide +kernel
theorem dX10_gapShare_10 : decode cX10_gapShare 10 = .ok (.ldc 255, 2) := by decide +kernel
theorem dX10_gapShare_12 : decode cX10_gapShare 12 = .ok (.fdiv, 1) := by decide +kernel
theorem dX10_gapShare_13 : decode cX10_gapShare 13 = .ok (.freturn, 1) := by decide +kernel
set_option maxRecDepth 20000 in
theorem ggX10_coins_X10_gardenerAt : GoodIn wsX10_coins wsX10_gardenerAt := goodIn_r _ [5] (by decide +kernel) (by decide +kernel)
set_option maxRecDepth 20000 in
theorem gX10_coins_X10_gardenerAt : GoodIn wsX10_coins (va_wsS RX10 120 yX10_gardenerAt wsX10_gardenerAt) := goodIn_app (goodIn_of _ (by decide +kernel)) ggX10_coins_X10_gardenerAt
set_option maxRecDepth 20000 in
theorem ggX10_coins_X10_visitorAt : GoodIn wsX10_coins wsX10_visitorAt := goodIn_r _ [8] (by decide +kernel) (by decide +kernel)
set_option maxRecDepth 20000 in
theorem gX10_coins_X10_visitorAt : GoodIn wsX10_coins (va_wsS RX10 126 yX10_visitorAt wsX10_visitorAt) := goodIn_app (goodIn_of _ (by decide +kernel)) ggX10_coins_X10_visitorAt
theorem dX10_coins_0 : decode cX10_coins 0 = .ok (.iconst 0, 1) := by decide +kernel
theorem dX10_coins_1 : decode cX10_coins 1 = .ok (.istore_n 1, 1) := by decide +kernel
theorem dX10_coins_2 : decode cX10_coins 2 = .ok (.iconst 0, 1) := by decide +kernel
theorem dX10_coins_3 : decode cX10_coins 3 = .ok (.istore_n 2, 1) := by decide +kernel
theorem dX10_coins_4 : decode cX10_coins 4 = .ok (.iload_n 2, 1) := by decide +kernel
theorem dX10_coins_5 : decode cX10_coins 5 = .ok (.aload_n 0, 1) := by decide +kernel
theorem dX10_coins_6 : decode cX10_coins 6 = .ok (.getfield 9, 3) := by decide +kernel
theorem dX10_coins_9 : decode cX10_coins 9 = .ok (.iconst 0, 1) := by decide +kernel
theorem dX10_coins_10 : decode cX10_coins 10 = .ok (.iaload, 1) := by decide +kernel
theorem dX10_coins_11 : decode cX10_coins 11 = .ok (.if_icmp .ge 21, 3) := by decide +kernel
theorem dX10_coins_14 : decode cX10_coins 14 = .ok (.iload_n 1, 1) := by decide +kernel
theorem dX10_coins_15 : decode cX10_coins 15 = .ok (.aload_n 0, 1) := by decide +kernel
theorem dX10_coins_16 : decode cX10_coins 16 = .ok (.getfield 9, 3) := by decide +kernel
theorem dX10_coins_19 : decode cX10_coins 19 = .ok (.iload_n 2, 1) := by decide +kernel
theorem dX10_coins_20 : decode cX10_coins 20 = .ok (.invokestatic 120, 3) := by decide +kernel
theorem dX10_coins_23 : decode cX10_coins 23 = .ok (.iaload, 1) := by decide +kernel
theorem dX10_coins_24 : decode cX10_coins 24 = .ok (.iadd, 1) := by decide +kernel
theorem dX10_coins_25 : decode cX10_coins 25 = .ok (.istore_n 1, 1) := by decide +kernel
theorem dX10_coins_26 : decode cX10_coins 26 = .ok (.iinc 2 1, 3) := by decide +kernel
theorem dX10_coins_29 : decode cX10_coins 29 = .ok (.goto (-25), 3) := by decide +kernel
theorem dX10_coins_32 : decode cX10_coins 32 = .ok (.iconst 0, 1) := by decide +kernel
theorem dX10_coins_33 : decode cX10_coins 33 = .ok (.istore_n 2, 1) := by decide +kernel
theorem dX10_coins_34 : decode cX10_coins 34 = .ok (.iload_n 2, 1) := by decide +kernel
theorem dX10_coins_35 : decode cX10_coins 35 = .ok (.aload_n 0, 1) := by decide +kernel
theorem dX10_coins_36 : decode cX10_coins 36 = .ok (.getfield 9, 3) := by decide +kernel
theorem dX10_coins_39 : decode cX10_coins 39 = .ok (.iconst 1, 1) := by decide +kernel
theorem dX10_coins_40 : decode cX10_coins 40 = .ok (.iaload, 1) := by decide +kernel
theorem dX10_coins_41 : decode cX10_coins 41 = .ok (.if_icmp .ge 21, 3) := by decide +kernel
theorem dX10_coins_44 : decode cX10_coins 44 = .ok (.iload_n 1, 1) := by decide +kernel
theorem dX10_coins_45 : decode cX10_coins 45 = .ok (.aload_n 0, 1) := by decide +kernel
theorem dX10_coins_46 : decode cX10_coins 46 = .ok (.getfield 9, 3) := by decide +kernel
theorem dX10_coins_49 : decode cX10_coins 49 = .ok (.iload_n 2, 1) := by decide +kernel
theorem dX10_coins_50 : decode cX10_coins 50 = .ok (.invokestatic 126, 3) := by decide +kernel
theorem dX10_coins_53 : decode cX10_coins 53 = .ok (.iaload, 1) := by decide +kernel
theorem dX10_coins_54 : decode cX10_coins 54 = .ok (.iadd, 1) := by decide +kernel
theorem dX10_coins_55 : decode cX10_coins 55 = .ok (.istore_n 1, 1) := by decide +kernel
theorem dX10_coins_56 : decode cX10_coins 56 = .ok (.iinc 2 1, 3) := by decide +kernel
theorem dX10_coins_59 : decode cX10_coins 59 = .ok (.goto (-25), 3) := by decide +kernel
theorem dX10_coins_62 : decode cX10_coins 62 = .ok (.iload_n 1, 1) := by decide +kernel
theorem dX10_coins_63 : decode cX10_coins 63 = .ok (.ireturn, 1) := by decide +kernel
set_option maxRecDepth 20000 in
theorem ggX10_voids_X10_lasts : GoodIn wsX10_voids wsX10_lasts := goodIn_ca (goodIn_r _ [6, 1, 7, 8, 5, 9, 10, 11, 12, 13, 14, 15, 16, 17, 18, 19, 20, 21, 22, 23, 24, 25, 26, 27, 28, 29, 30] (by decide +kernel) (by decide +kernel)) (goodIn_sub (fun _ h => List.mem_cons_of_mem _ (List.mem_append_right _ h)) (by decide +kernel))
set_option maxRecDepth 20000 in
theorem gX10_voids_X10_lasts : GoodIn wsX10_voids (wsV RX10 183 RX10 yX10_lasts wsX10_lasts) := goodIn_app (goodIn_of _ (by decide +kernel)) ggX10_voids_X10_lasts
set_option maxRecDepth 20000 in
theorem ggX10_voids_X10_visitorAt : GoodIn wsX10_voids wsX10_visitorAt := goodIn_r _ [9] (by decide +kernel) (by decide +kernel)
set_option maxRecDepth 20000 in
theorem gX10_voids_X10_visitorAt : GoodIn wsX10_voids (va_wsS RX10 126 yX10_visitorAt wsX10_visitorAt) := goodIn_app (goodIn_of _ (by decide +kernel)) ggX10_voids_X10_visitorAt
theorem dX10_voids_0 : decode cX10_voids 0 = .ok (.iconst 0, 1) := by decide +kernel
theorem dX10_voids_1 : decode cX10_voids 1 = .ok (.istore_n 1, 1) := by decide +kernel
theorem dX10_voids_2 : decode cX10_voids 2 = .ok (.iconst 0, 1) := by decide +kernel
theorem dX10_voids_3 : decode cX10_voids 3 = .ok (.istore_n 2, 1) := by decide +kernel
theorem dX10_voids_4 : decode cX10_voids 4 = .ok (.iload_n 2, 1) := by decide +kernel
theorem dX10_voids_5 : decode cX10_voids 5 = .ok (.aload_n 0, 1) := by decide +kernel
theorem dX10_voids_6 : decode cX10_voids 6 = .ok (.getfield 9, 3) := by decide +kernel
theorem dX10_voids_9 : decode cX10_voids 9 = .ok (.iconst 1, 1) := by decide +kernel
theorem dX10_voids_10 : decode cX10_voids 10 = .ok (.iaload, 1) := by decide +kernel
theorem dX10_voids_11 : decode cX10_voids 11 = .ok (.if_icmp .ge 36, 3) := by decide +kernel
theorem dX10_voids_14 : decode cX10_voids 14 = .ok (.iload_n 1, 1) := by decide +kernel
theorem dX10_voids_15 : decode cX10_voids 15 = .ok (.aload_n 0, 1) := by decide +kernel
theorem dX10_voids_16 : decode cX10_voids 16 = .ok (.iload_n 2, 1) := by decide +kernel
theorem dX10_voids_17 : decode cX10_voids 17 = .ok (.invokevirtual 183, 3) := by decide +kernel
theorem dX10_voids_20 : decode cX10_voids 20 = .ok (.ifCond .eq 18, 3) := by decide +kernel
theorem dX10_voids_23 : decode cX10_voids 23 = .ok (.aload_n 0, 1) := by decide +kernel
theorem dX10_voids_24 : decode cX10_voids 24 = .ok (.getfield 9, 3) := by decide +kernel
theorem dX10_voids_27 : decode cX10_voids 27 = .ok (.iload_n 2, 1) := by decide +kernel
theorem dX10_voids_28 : decode cX10_voids 28 = .ok (.invokestatic 126, 3) := by decide +kernel
theorem dX10_voids_31 : decode cX10_voids 31 = .ok (.bipush 6, 2) := by decide +kernel
theorem dX10_voids_33 : decode cX10_voids 33 = .ok (.iadd, 1) := by decide +kernel
theorem dX10_voids_34 : decode cX10_voids 34 = .ok (.iaload, 1) := by decide +kernel
theorem dX10_voids_35 : decode cX10_voids 35 = .ok (.goto 4, 3) := by decide +kernel
theorem dX10_voids_38 : decode cX10_voids 38 = .ok (.iconst 0, 1) := by decide +kernel
theorem dX10_voids_39 : decode cX10_voids 39 = .ok (.iadd, 1) := by decide +kernel
theorem dX10_voids_40 : decode cX10_voids 40 = .ok (.istore_n 1, 1) := by decide +kernel
theorem dX10_voids_41 : decode cX10_voids 41 = .ok (.iinc 2 1, 3) := by decide +kernel
theorem dX10_voids_44 : decode cX10_voids 44 = .ok (.goto (-40), 3) := by decide +kernel
theorem dX10_voids_47 : decode cX10_voids 47 = .ok (.iload_n 1, 1) := by decide +kernel
theorem dX10_voids_48 : decode cX10_voids 48 = .ok (.ireturn, 1) := by decide +kernel
set_option maxRecDepth 20000 in
theorem ggX10_outs_X10_visitorAt : GoodIn wsX10_outs wsX10_visitorAt := goodIn_r _ [5] (by decide +kernel) (by decide +kernel)
set_option maxRecDepth 20000 in
theorem gX10_outs_X10_visitorAt : GoodIn wsX10_outs (va_wsS RX10 126 yX10_visitorAt wsX10_visitorAt) := goodIn_app (goodIn_of _ (by decide +kernel)) ggX10_outs_X10_visitorAt
theorem dX10_outs_0 : decode cX10_outs 0 = .ok (.iconst 0, 1) := by decide +kernel
theorem dX10_outs_1 : decode cX10_outs 1 = .ok (.istore_n 1, 1) := by decide +kernel
theorem dX10_outs_2 : decode cX10_outs 2 = .ok (.iconst 0, 1) := by decide +kernel
theorem dX10_outs_3 : decode cX10_outs 3 = .ok (.istore_n 2, 1) := by decide +kernel
theorem dX10_outs_4 : decode cX10_outs 4 = .ok (.iload_n 2, 1) := by decide +kernel
theorem dX10_outs_5 : decode cX10_outs 5 = .ok (.aload_n 0, 1) := by decide +kernel
theorem dX10_outs_6 : decode cX10_outs 6 = .ok (.getfield 9, 3) := by decide +kernel
theorem dX10_outs_9 : decode cX10_outs 9 = .ok (.iconst 1, 1) := by decide +kernel
theorem dX10_outs_10 : decode cX10_outs 10 = .ok (.iaload, 1) := by decide +kernel
theorem dX10_outs_11 : decode cX10_outs 11 = .ok (.if_icmp .ge 24, 3) := by decide +kernel
theorem dX10_outs_14 : decode cX10_outs 14 = .ok (.iload_n 1, 1) := by decide +kernel
theorem dX10_outs_15 : decode cX10_outs 15 = .ok (.aload_n 0, 1) := by decide +kernel
theorem dX10_outs_16 : decode cX10_outs 16 = .ok (.getfield 9, 3) := by decide +kernel
theorem dX10_outs_19 : decode cX10_outs 19 = .ok (.iload_n 2, 1) := by decide +kernel
theorem dX10_outs_20 : decode cX10_outs 20 = .ok (.invokestatic 126, 3) := by decide +kernel
theorem dX10_outs_23 : decode cX10_outs 23 = .ok (.bipush 7, 2) := by decide +kernel
theorem dX10_outs_25 : decode cX10_outs 25 = .ok (.iadd, 1) := by decide +kernel
theorem dX10_outs_26 : decode cX10_outs 26 = .ok (.iaload, 1) := by decide +kernel
theorem dX10_outs_27 : decode cX10_outs 27 = .ok (.iadd, 1) := by decide +kernel
theorem dX10_outs_28 : decode cX10_outs 28 = .ok (.istore_n 1, 1) := by decide +kernel
theorem dX10_outs_29 : decode cX10_outs 29 = .ok (.iinc 2 1, 3) := by decide +kernel
theorem dX10_outs_32 : decode cX10_outs 32 = .ok (.goto (-28), 3) := by decide +kernel
theorem dX10_outs_35 : decode cX10_outs 35 = .ok (.iload_n 1, 1) := by decide +kernel
theorem dX10_outs_36 : decode cX10_outs 36 = .ok (.ireturn, 1) := by decide +kernel
set_option maxRecDepth 20000 in
theorem ggX10_account_X10_outs : GoodIn wsX10_account wsX10_outs := goodIn_ca (goodIn_r _ [9, 2, 10, 11, 8, 12, 44, 45, 46, 47, 48, 49, 50, 51, 52, 53, 54, 55, 56, 57, 58, 59, 60, 61, 62, 63, 64] (by decide +kernel) (by decide +kernel)) (goodIn_sub (fun _ h => List.mem_cons_of_mem _ (List.mem_append_right _ h)) (by decide +kernel))
set_option maxRecDepth 20000 in
theorem gX10_account_X10_outs : GoodIn wsX10_account (wsV RX10 256 RX10 yX10_outs wsX10_outs) := goodIn_app (goodIn_of _ (by decide +kernel)) ggX10_account_X10_outs
set_option maxRecDepth 20000 in
theorem ggX10_account_X10_lasting : GoodIn wsX10_account wsX10_lasting := goodIn_ca (goodIn_r _ [16, 2, 17, 18, 19, 8, 20, 10, 11, 12, 44, 45, 46, 47, 48, 49, 50, 51, 52, 53, 54, 55, 56, 57, 58, 59, 60, 61, 62, 63, 64] (by decide +kernel) (by decide +kernel)) (goodIn_sub (fun _ h => List.mem_cons_of_mem _ (List.mem_append_right _ h)) (by decide +kernel))
set_option maxRecDepth 20000 in
theorem gX10_account_X10_lasting : GoodIn wsX10_account (wsV RX10 186 RX10 yX10_lasting wsX10_lasting) := goodIn_app (goodIn_of _ (by decide +kernel)) ggX10_account_X10_lasting
set_option maxRecDepth 20000 in
theorem ggX10_account_X10_voids : GoodIn wsX10_account wsX10_voids := goodIn_ca (goodIn_r _ [24, 2, 17, 18, 19, 8, 20, 10, 11, 12, 44, 45, 46, 47, 48, 49, 50, 51, 52, 53, 54, 55, 56, 57, 58, 59, 60, 61, 62, 63, 64] (by decide +kernel) (by decide +kernel)) (goodIn_sub (fun _ h => List.mem_cons_of_mem _ (List.mem_append_right _ h)) (by decide +kernel))
set_option maxRecDepth 20000 in
theorem gX10_account_X10_voids : GoodIn wsX10_account (wsV RX10 259 RX10 yX10_voids wsX10_voids) := goodIn_app (goodIn_of _ (by decide +kernel)) ggX10_account_X10_voids
set_option maxRecDepth 20000 in
theorem ggX10_account_X10_gaps : GoodIn wsX10_account wsX10_gaps := goodIn_ca (goodIn_r _ [28, 29, 30, 31, 8, 32, 2, 44, 45, 46, 47, 48, 49, 50, 51, 52, 53, 54, 55, 56, 57, 58, 59, 60, 61, 62, 63, 64] (by decide +kernel) (by decide +kernel)) (goodIn_sub (fun _ h => List.mem_cons_of_mem _ (List.mem_append_right _ h)) (by decide +kernel))
set_option maxRecDepth 20000 in
theorem gX10_account_X10_gaps : GoodIn wsX10_account (wsV RX10 110 RX10 yX10_gaps wsX10_gaps) := goodIn_app (goodIn_of _ (by decide +kernel)) ggX10_account_X10_gaps
set_option maxRecDepth 20000 in
theorem ggX10_account_X10_coins : GoodIn wsX10_account wsX10_coins := goodIn_ca (goodIn_r _ [36, 2, 37, 38, 8, 39, 10, 11, 12, 44, 45, 46, 47, 48, 49, 50, 51, 52, 53, 54, 55, 56, 57, 58, 59, 60, 61, 62, 63, 64] (by decide +kernel) (by decide +kernel)) (goodIn_sub (fun _ h => List.mem_cons_of_mem _ (List.mem_append_right _ h)) (by decide +kernel))
set_option maxRecDepth 20000 in
theorem gX10_account_X10_coins : GoodIn wsX10_account (wsV RX10 262 RX10 yX10_coins wsX10_coins) := goodIn_app (goodIn_of _ (by decide +kernel)) ggX10_account_X10_coins
set_option maxRecDepth 20000 in
theorem ggX10_account_X10_throwing : GoodIn wsX10_account wsX10_throwing := goodIn_r _ [43, 1, 44, 45, 46, 47, 48, 49, 50, 51, 52, 53, 54, 55, 56, 57, 58, 59, 60, 61, 62, 63, 64] (by decide +kernel) (by decide +kernel)
set_option maxRecDepth 20000 in
theorem gX10_account_X10_throwing : GoodIn wsX10_account (wsV RX10 50 RX10 yX10_throwing wsX10_throwing) := goodIn_app (goodIn_of _ (by decide +kernel)) ggX10_account_X10_throwing
theorem dX10_account_0 : decode cX10_account 0 = .ok (.aload_n 0, 1) := by decide +kernel
theorem dX10_account_1 : decode cX10_account 1 = .ok (.iconst 0, 1) := by decide +kernel
theorem dX10_account_2 : decode cX10_account 2 = .ok (.putfield 38, 3) := by decide +kernel
theorem dX10_account_5 : decode cX10_account 5 = .ok (.iload_n 1, 1) := by decide +kernel
theorem dX10_account_6 : decode cX10_account 6 = .ok (.tableswitch 117 0 11 #[62, 62, 69, 74, 80, 85, 90, 90, 90, 102, 107, 112], 62) := by decide +kernel
theorem dX10_account_68 : decode cX10_account 68 = .ok (.aload_n 0, 1) := by decide +kernel
theorem dX10_account_69 : decode cX10_account 69 = .ok (.getfield 9, 3) := by decide +kernel
theorem dX10_account_72 : decode cX10_account 72 = .ok (.iload_n 1, 1) := by decide +kernel
theorem dX10_account_73 : decode cX10_account 73 = .ok (.iaload, 1) := by decide +kernel
theorem dX10_account_74 : decode cX10_account 74 = .ok (.ireturn, 1) := by decide +kernel
theorem dX10_account_75 : decode cX10_account 75 = .ok (.aload_n 0, 1) := by decide +kernel
theorem dX10_account_76 : decode cX10_account 76 = .ok (.invokevirtual 256, 3) := by decide +kernel
theorem dX10_account_79 : decode cX10_account 79 = .ok (.ireturn, 1) := by decide +kernel
theorem dX10_account_80 : decode cX10_account 80 = .ok (.aload_n 0, 1) := by decide +kernel
theorem dX10_account_81 : decode cX10_account 81 = .ok (.iconst (-1), 1) := by decide +kernel
theorem dX10_account_82 : decode cX10_account 82 = .ok (.invokevirtual 186, 3) := by decide +kernel
theorem dX10_account_85 : decode cX10_account 85 = .ok (.ireturn, 1) := by decide +kernel
theorem dX10_account_86 : decode cX10_account 86 = .ok (.aload_n 0, 1) := by decide +kernel
theorem dX10_account_87 : decode cX10_account 87 = .ok (.invokevirtual 259, 3) := by decide +kernel
theorem dX10_account_90 : decode cX10_account 90 = .ok (.ireturn, 1) := by decide +kernel
theorem dX10_account_91 : decode cX10_account 91 = .ok (.aload_n 0, 1) := by decide +kernel
theorem dX10_account_92 : decode cX10_account 92 = .ok (.invokevirtual 110, 3) := by decide +kernel
theorem dX10_account_95 : decode cX10_account 95 = .ok (.ireturn, 1) := by decide +kernel
theorem dX10_account_96 : decode cX10_account 96 = .ok (.aload_n 0, 1) := by decide +kernel
theorem dX10_account_97 : decode cX10_account 97 = .ok (.getfield 9, 3) := by decide +kernel
theorem dX10_account_100 : decode cX10_account 100 = .ok (.iconst 3, 1) := by decide +kernel
theorem dX10_account_101 : decode cX10_account 101 = .ok (.iload_n 1, 1) := by decide +kernel
theorem dX10_account_102 : decode cX10_account 102 = .ok (.iadd, 1) := by decide +kernel
theorem dX10_account_103 : decode cX10_account 103 = .ok (.bipush 6, 2) := by decide +kernel
theorem dX10_account_105 : decode cX10_account 105 = .ok (.isub, 1) := by decide +kernel
theorem dX10_account_106 : decode cX10_account 106 = .ok (.iaload, 1) := by decide +kernel
theorem dX10_account_107 : decode cX10_account 107 = .ok (.ireturn, 1) := by decide +kernel
theorem dX10_account_108 : decode cX10_account 108 = .ok (.aload_n 0, 1) := by decide +kernel
theorem dX10_account_109 : decode cX10_account 109 = .ok (.invokevirtual 262, 3) := by decide +kernel
theorem dX10_account_112 : decode cX10_account 112 = .ok (.ireturn, 1) := by decide +kernel
theorem dX10_account_113 : decode cX10_account 113 = .ok (.aload_n 0, 1) := by decide +kernel
theorem dX10_account_114 : decode cX10_account 114 = .ok (.getfield 54, 3) := by decide +kernel
theorem dX10_account_117 : decode cX10_account 117 = .ok (.ireturn, 1) := by decide +kernel
theorem dX10_account_118 : decode cX10_account 118 = .ok (.aload_n 0, 1) := by decide +kernel
theorem dX10_account_119 : decode cX10_account 119 = .ok (.getfield 195, 3) := by decide +kernel
theorem dX10_account_122 : decode cX10_account 122 = .ok (.ireturn, 1) := by decide +kernel
theorem dX10_account_123 : decode cX10_account 123 = .ok (.aload_n 0, 1) := by decide +kernel
theorem dX10_account_124 : decode cX10_account 124 = .ok (.iconst 1, 1) := by decide +kernel
theorem dX10_account_125 : decode cX10_account 125 = .ok (.invokevirtual 50, 3) := by decide +kernel
theorem dX10_account_128 : decode cX10_account 128 = .ok (.ireturn, 1) := by decide +kernel
set_option maxRecDepth 20000 in
theorem ggX10_undo_X10_throwing : GoodIn wsX10_undo wsX10_throwing := goodIn_r _ [9, 1, 10, 11, 12, 13, 14, 15, 16, 17, 18, 19, 20, 21, 22, 23, 24, 25, 26, 27, 28, 29, 30] (by decide +kernel) (by decide +kernel)
set_option maxRecDepth 20000 in
theorem gX10_undo_X10_throwing : GoodIn wsX10_undo (wsV RX10 50 RX10 yX10_throwing wsX10_throwing) := goodIn_app (goodIn_of _ (by decide +kernel)) ggX10_undo_X10_throwing
theorem dX10_undo_0 : decode cX10_undo 0 = .ok (.aload_n 0, 1) := by decide +kernel
theorem dX10_undo_1 : decode cX10_undo 1 = .ok (.iconst 0, 1) := by decide +kernel
theorem dX10_undo_2 : decode cX10_undo 2 = .ok (.putfield 38, 3) := by decide +kernel
theorem dX10_undo_5 : decode cX10_undo 5 = .ok (.aload_n 0, 1) := by decide +kernel
theorem dX10_undo_6 : decode cX10_undo 6 = .ok (.getfield 54, 3) := by decide +kernel
theorem dX10_undo_9 : decode cX10_undo 9 = .ok (.ifCond .ne 9, 3) := by decide +kernel
theorem dX10_undo_12 : decode cX10_undo 12 = .ok (.aload_n 0, 1) := by decide +kernel
theorem dX10_undo_13 : decode cX10_undo 13 = .ok (.iconst 1, 1) := by decide +kernel
theorem dX10_undo_14 : decode cX10_undo 14 = .ok (.invokevirtual 50, 3) := by decide +kernel
theorem dX10_undo_17 : decode cX10_undo 17 = .ok (.ireturn, 1) := by decide +kernel
theorem dX10_undo_18 : decode cX10_undo 18 = .ok (.aload_n 0, 1) := by decide +kernel
theorem dX10_undo_19 : decode cX10_undo 19 = .ok (.dup, 1) := by decide +kernel
theorem dX10_undo_20 : decode cX10_undo 20 = .ok (.getfield 54, 3) := by decide +kernel
theorem dX10_undo_23 : decode cX10_undo 23 = .ok (.iconst 1, 1) := by decide +kernel
theorem dX10_undo_24 : decode cX10_undo 24 = .ok (.isub, 1) := by decide +kernel
theorem dX10_undo_25 : decode cX10_undo 25 = .ok (.putfield 54, 3) := by decide +kernel
theorem dX10_undo_28 : decode cX10_undo 28 = .ok (.iconst 0, 1) := by decide +kernel
theorem dX10_undo_29 : decode cX10_undo 29 = .ok (.istore_n 1, 1) := by decide +kernel
theorem dX10_undo_30 : decode cX10_undo 30 = .ok (.iload_n 1, 1) := by decide +kernel
theorem dX10_undo_31 : decode cX10_undo 31 = .ok (.bipush 86, 2) := by decide +kernel
theorem dX10_undo_33 : decode cX10_undo 33 = .ok (.if_icmp .ge 29, 3) := by decide +kernel
theorem dX10_undo_36 : decode cX10_undo 36 = .ok (.aload_n 0, 1) := by decide +kernel
theorem dX10_undo_37 : decode cX10_undo 37 = .ok (.getfield 9, 3) := by decide +kernel
theorem dX10_undo_40 : decode cX10_undo 40 = .ok (.iload_n 1, 1) := by decide +kernel
theorem dX10_undo_41 : decode cX10_undo 41 = .ok (.aload_n 0, 1) := by decide +kernel
theorem dX10_undo_42 : decode cX10_undo 42 = .ok (.getfield 19, 3) := by decide +kernel
theorem dX10_undo_45 : decode cX10_undo 45 = .ok (.bipush 86, 2) := by decide +kernel
theorem dX10_undo_47 : decode cX10_undo 47 = .ok (.aload_n 0, 1) := by decide +kernel
theorem dX10_undo_48 : decode cX10_undo 48 = .ok (.getfield 54, 3) := by decide +kernel
theorem dX10_undo_51 : decode cX10_undo 51 = .ok (.imul, 1) := by decide +kernel
theorem dX10_undo_52 : decode cX10_undo 52 = .ok (.iload_n 1, 1) := by decide +kernel
theorem dX10_undo_53 : decode cX10_undo 53 = .ok (.iadd, 1) := by decide +kernel
theorem dX10_undo_54 : decode cX10_undo 54 = .ok (.iaload, 1) := by decide +kernel
theorem dX10_undo_55 : decode cX10_undo 55 = .ok (.iastore, 1) := by decide +kernel
theorem dX10_undo_56 : decode cX10_undo 56 = .ok (.iinc 1 1, 3) := by decide +kernel
theorem dX10_undo_59 : decode cX10_undo 59 = .ok (.goto (-29), 3) := by decide +kernel
theorem dX10_undo_62 : decode cX10_undo 62 = .ok (.aload_n 0, 1) := by decide +kernel
theorem dX10_undo_63 : decode cX10_undo 63 = .ok (.getfield 54, 3) := by decide +kernel
theorem dX10_undo_66 : decode cX10_undo 66 = .ok (.ireturn, 1) := by decide +kernel
theorem dX10_save_0 : decode cX10_save 0 = .ok (.aload_n 0, 1) := by decide +kernel
theorem dX10_save_1 : decode cX10_save 1 = .ok (.iconst 0, 1) := by decide +kernel
theorem dX10_save_2 : decode cX10_save 2 = .ok (.putfield 38, 3) := by decide +kernel
theorem dX10_save_5 : decode cX10_save 5 = .ok (.iconst 0, 1) := by decide +kernel
theorem dX10_save_6 : decode cX10_save 6 = .ok (.istore_n 1, 1) := by decide +kernel
theorem dX10_save_7 : decode cX10_save 7 = .ok (.iload_n 1, 1) := by decide +kernel
theorem dX10_save_8 : decode cX10_save 8 = .ok (.bipush 86, 2) := by decide +kernel
theorem dX10_save_10 : decode cX10_save 10 = .ok (.if_icmp .ge 21, 3) := by decide +kernel
theorem dX10_save_13 : decode cX10_save 13 = .ok (.aload_n 0, 1) := by decide +kernel
theorem dX10_save_14 : decode cX10_save 14 = .ok (.getfield 16, 3) := by decide +kernel
theorem dX10_save_17 : decode cX10_save 17 = .ok (.iload_n 1, 1) := by decide +kernel
theorem dX10_save_18 : decode cX10_save 18 = .ok (.aload_n 0, 1) := by decide +kernel
theorem dX10_save_19 : decode cX10_save 19 = .ok (.getfield 9, 3) := by decide +kernel
theorem dX10_save_22 : decode cX10_save 22 = .ok (.iload_n 1, 1) := by decide +kernel
theorem dX10_save_23 : decode cX10_save 23 = .ok (.iaload, 1) := by decide +kernel
theorem dX10_save_24 : decode cX10_save 24 = .ok (.iastore, 1) := by decide +kernel
theorem dX10_save_25 : decode cX10_save 25 = .ok (.iinc 1 1, 3) := by decide +kernel
theorem dX10_save_28 : decode cX10_save 28 = .ok (.goto (-21), 3) := by decide +kernel
theorem dX10_save_31 : decode cX10_save 31 = .ok (.aload_n 0, 1) := by decide +kernel
theorem dX10_save_32 : decode cX10_save 32 = .ok (.iconst 1, 1) := by decide +kernel
theorem dX10_save_33 : decode cX10_save 33 = .ok (.putfield 265, 3) := by decide +kernel
theorem dX10_save_36 : decode cX10_save 36 = .ok (.aload_n 0, 1) := by decide +kernel
theorem dX10_save_37 : decode cX10_save 37 = .ok (.getfield 9, 3) := by decide +kernel
theorem dX10_save_40 : decode cX10_save 40 = .ok (.iconst 1, 1) := by decide +kernel
theorem dX10_save_41 : decode cX10_save 41 = .ok (.iaload, 1) := by decide +kernel
theorem dX10_save_42 : decode cX10_save 42 = .ok (.ireturn, 1) := by decide +kernel
set_option maxRecDepth 20000 in
theorem ggX10_restore_X10_throwing : GoodIn wsX10_restore wsX10_throwing := goodIn_r _ [10, 1, 11, 12, 13, 14, 15, 16, 17, 18, 19, 20, 21, 22, 23, 24, 25, 26, 27, 28, 29, 30, 31] (by decide +kernel) (by decide +kernel)
set_option maxRecDepth 20000 in
theorem gX10_restore_X10_throwing : GoodIn wsX10_restore (wsV RX10 50 RX10 yX10_throwing wsX10_throwing) := goodIn_app (goodIn_of _ (by decide +kernel)) ggX10_restore_X10_throwing
theorem dX10_restore_0 : decode cX10_restore 0 = .ok (.aload_n 0, 1) := by decide +kernel
theorem dX10_restore_1 : decode cX10_restore 1 = .ok (.iconst 0, 1) := by decide +kernel
theorem dX10_restore_2 : decode cX10_restore 2 = .ok (.putfield 38, 3) := by decide +kernel
theorem dX10_restore_5 : decode cX10_restore 5 = .ok (.aload_n 0, 1) := by decide +kernel
theorem dX10_restore_6 : decode cX10_restore 6 = .ok (.getfield 265, 3) := by decide +kernel
theorem dX10_restore_9 : decode cX10_restore 9 = .ok (.ifCond .ne 9, 3) := by decide +kernel
theorem dX10_restore_12 : decode cX10_restore 12 = .ok (.aload_n 0, 1) := by decide +kernel
theorem dX10_restore_13 : decode cX10_restore 13 = .ok (.iconst 1, 1) := by decide +kernel
theorem dX10_restore_14 : decode cX10_restore 14 = .ok (.invokevirtual 50, 3) := by decide +kernel
theorem dX10_restore_17 : decode cX10_restore 17 = .ok (.ireturn, 1) := by decide +kernel
theorem dX10_restore_18 : decode cX10_restore 18 = .ok (.iconst 0, 1) := by decide +kernel
theorem dX10_restore_19 : decode cX10_restore 19 = .ok (.istore_n 1, 1) := by decide +kernel
theorem dX10_restore_20 : decode cX10_restore 20 = .ok (.iload_n 1, 1) := by decide +kernel
theorem dX10_restore_21 : decode cX10_restore 21 = .ok (.bipush 86, 2) := by decide +kernel
theorem dX10_restore_23 : decode cX10_restore 23 = .ok (.if_icmp .ge 21, 3) := by decide +kernel
theorem dX10_restore_26 : decode cX10_restore 26 = .ok (.aload_n 0, 1) := by decide +kernel
theorem dX10_restore_27 : decode cX10_restore 27 = .ok (.getfield 9, 3) := by decide +kernel
theorem dX10_restore_30 : decode cX10_restore 30 = .ok (.iload_n 1, 1) := by decide +kernel
theorem dX10_restore_31 : decode cX10_restore 31 = .ok (.aload_n 0, 1) := by decide +kernel
theorem dX10_restore_32 : decode cX10_restore 32 = .ok (.getfield 16, 3) := by decide +kernel
theorem dX10_restore_35 : decode cX10_restore 35 = .ok (.iload_n 1, 1) := by decide +kernel
theorem dX10_restore_36 : decode cX10_restore 36 = .ok (.iaload, 1) := by decide +kernel
theorem dX10_restore_37 : decode cX10_restore 37 = .ok (.iastore, 1) := by decide +kernel
theorem dX10_restore_38 : decode cX10_restore 38 = .ok (.iinc 1 1, 3) := by decide +kernel
theorem dX10_restore_41 : decode cX10_restore 41 = .ok (.goto (-21), 3) := by decide +kernel
theorem dX10_restore_44 : decode cX10_restore 44 = .ok (.aload_n 0, 1) := by decide +kernel
theorem dX10_restore_45 : decode cX10_restore 45 = .ok (.iconst 0, 1) := by decide +kernel
theorem dX10_restore_46 : decode cX10_restore 46 = .ok (.putfield 54, 3) := by decide +kernel
theorem dX10_restore_49 : decode cX10_restore 49 = .ok (.aload_n 0, 1) := by decide +kernel
theorem dX10_restore_50 : decode cX10_restore 50 = .ok (.getfield 9, 3) := by decide +kernel
theorem dX10_restore_53 : decode cX10_restore 53 = .ok (.iconst 1, 1) := by decide +kernel
theorem dX10_restore_54 : decode cX10_restore 54 = .ok (.iaload, 1) := by decide +kernel
theorem dX10_restore_55 : decode cX10_restore 55 = .ok (.ireturn, 1) := by decide +kernel
set_option maxRecDepth 20000 in
theorem ggJ5_init_d00df_J2_newBytesFor_77867 : GoodIn wsJ5_init_d00df wsJ2_newBytesFor_77867 := goodIn_r _ [11, 5, 12, 13, 10, 14, 15] (by decide +kernel) (by decide +kernel)
set_option maxRecDepth 20000 in
theorem gJ5_init_d00df_J2_newBytesFor_77867 : GoodIn wsJ5_init_d00df (va_wsS RJ5 26 yJ2_newBytesFor_77867 wsJ2_newBytesFor_77867) := goodIn_app (goodIn_of _ (by decide +kernel)) ggJ5_init_d00df_J2_newBytesFor_77867
