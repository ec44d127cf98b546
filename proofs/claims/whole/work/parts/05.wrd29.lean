set_option maxRecDepth 20000 in
theorem ggX10_character_X10_throwing : GoodIn wsX10_character wsX10_throwing := goodIn_r _ [11, 1, 12, 13, 14, 15, 16, 17, 18, 19, 20, 21, 22, 23, 24, 25, 26, 27, 28, 29, 30, 31, 32] rfl (by decide +kernel)
set_option maxRecDepth 20000 in
theorem gX10_character_X10_throwing : GoodIn wsX10_character (wsV RX10 50 RX10 yX10_throwing wsX10_throwing) := goodIn_app (goodIn_of _ (by decide +kernel)) ggX10_character_X10_throwing
set_option maxRecDepth 20000 in
theorem ggX10_coins_X10_gardenerAt : GoodIn wsX10_coins wsX10_gardenerAt := goodIn_r _ [5] rfl (by decide +kernel)
set_option maxRecDepth 20000 in
theorem gX10_coins_X10_gardenerAt : GoodIn wsX10_coins (va_wsS RX10 120 yX10_gardenerAt wsX10_gardenerAt) := goodIn_app (goodIn_of _ (by decide +kernel)) ggX10_coins_X10_gardenerAt
set_option maxRecDepth 20000 in
theorem ggX10_coins_X10_visitorAt : GoodIn wsX10_coins wsX10_visitorAt := goodIn_r _ [8] rfl (by decide +kernel)
set_option maxRecDepth 20000 in
theorem gX10_coins_X10_visitorAt : GoodIn wsX10_coins (va_wsS RX10 126 yX10_visitorAt wsX10_visitorAt) := goodIn_app (goodIn_of _ (by decide +kernel)) ggX10_coins_X10_visitorAt
set_option maxRecDepth 20000 in
theorem ggX10_voids_X10_lasts : GoodIn wsX10_voids wsX10_lasts := goodIn_ca (goodIn_r _ [6, 1, 7, 8, 5, 9, 10, 11, 12, 13, 14, 15, 16, 17, 18, 19, 20, 21, 22, 23, 24, 25, 26, 27, 28, 29, 30] rfl (by decide +kernel)) (goodIn_sub (fun _ h => List.mem_cons_of_mem _ (List.mem_append_right _ h)) (by decide +kernel))
set_option maxRecDepth 20000 in
theorem gX10_voids_X10_lasts : GoodIn wsX10_voids (wsV RX10 183 RX10 yX10_lasts wsX10_lasts) := goodIn_app (goodIn_of _ (by decide +kernel)) ggX10_voids_X10_lasts
set_option maxRecDepth 20000 in
theorem ggX10_voids_X10_visitorAt : GoodIn wsX10_voids wsX10_visitorAt := goodIn_r _ [9] rfl (by decide +kernel)
set_option maxRecDepth 20000 in
theorem gX10_voids_X10_visitorAt : GoodIn wsX10_voids (va_wsS RX10 126 yX10_visitorAt wsX10_visitorAt) := goodIn_app (goodIn_of _ (by decide +kernel)) ggX10_voids_X10_visitorAt
set_option maxRecDepth 20000 in
theorem ggX10_outs_X10_visitorAt : GoodIn wsX10_outs wsX10_visitorAt := goodIn_r _ [5] rfl (by decide +kernel)
set_option maxRecDepth 20000 in
theorem gX10_outs_X10_visitorAt : GoodIn wsX10_outs (va_wsS RX10 126 yX10_visitorAt wsX10_visitorAt) := goodIn_app (goodIn_of _ (by decide +kernel)) ggX10_outs_X10_visitorAt
set_option maxRecDepth 20000 in
theorem ggX10_account_X10_outs : GoodIn wsX10_account wsX10_outs := goodIn_ca (goodIn_r _ [9, 2, 10, 11, 8, 12, 44, 45, 46, 47, 48, 49, 50, 51, 52, 53, 54, 55, 56, 57, 58, 59, 60, 61, 62, 63, 64] rfl (by decide +kernel)) (goodIn_sub (fun _ h => List.mem_cons_of_mem _ (List.mem_append_right _ h)) (by decide +kernel))
set_option maxRecDepth 20000 in
theorem gX10_account_X10_outs : GoodIn wsX10_account (wsV RX10 256 RX10 yX10_outs wsX10_outs) := goodIn_app (goodIn_of _ (by decide +kernel)) ggX10_account_X10_outs
set_option maxRecDepth 20000 in
theorem ggX10_account_X10_lasting : GoodIn wsX10_account wsX10_lasting := goodIn_ca (goodIn_r _ [16, 2, 17, 18, 19, 8, 20, 10, 11, 12, 44, 45, 46, 47, 48, 49, 50, 51, 52, 53, 54, 55, 56, 57, 58, 59, 60, 61, 62, 63, 64] rfl (by decide +kernel)) (goodIn_sub (fun _ h => List.mem_cons_of_mem _ (List.mem_append_right _ h)) (by decide +kernel))
set_option maxRecDepth 20000 in
theorem gX10_account_X10_lasting : GoodIn wsX10_account (wsV RX10 186 RX10 yX10_lasting wsX10_lasting) := goodIn_app (goodIn_of _ (by decide +kernel)) ggX10_account_X10_lasting
set_option maxRecDepth 20000 in
theorem ggX10_account_X10_voids : GoodIn wsX10_account wsX10_voids := goodIn_ca (goodIn_r _ [24, 2, 17, 18, 19, 8, 20, 10, 11, 12, 44, 45, 46, 47, 48, 49, 50, 51, 52, 53, 54, 55, 56, 57, 58, 59, 60, 61, 62, 63, 64] rfl (by decide +kernel)) (goodIn_sub (fun _ h => List.mem_cons_of_mem _ (List.mem_append_right _ h)) (by decide +kernel))
set_option maxRecDepth 20000 in
theorem gX10_account_X10_voids : GoodIn wsX10_account (wsV RX10 259 RX10 yX10_voids wsX10_voids) := goodIn_app (goodIn_of _ (by decide +kernel)) ggX10_account_X10_voids
set_option maxRecDepth 20000 in
theorem ggX10_account_X10_gaps : GoodIn wsX10_account wsX10_gaps := goodIn_ca (goodIn_r _ [28, 29, 30, 31, 8, 32, 2, 44, 45, 46, 47, 48, 49, 50, 51, 52, 53, 54, 55, 56, 57, 58, 59, 60, 61, 62, 63, 64] rfl (by decide +kernel)) (goodIn_sub (fun _ h => List.mem_cons_of_mem _ (List.mem_append_right _ h)) (by decide +kernel))
set_option maxRecDepth 20000 in
theorem gX10_account_X10_gaps : GoodIn wsX10_account (wsV RX10 110 RX10 yX10_gaps wsX10_gaps) := goodIn_app (goodIn_of _ (by decide +kernel)) ggX10_account_X10_gaps
set_option maxRecDepth 20000 in
theorem ggX10_account_X10_coins : GoodIn wsX10_account wsX10_coins := goodIn_ca (goodIn_r _ [36, 2, 37, 38, 8, 39, 10, 11, 12, 44, 45, 46, 47, 48, 49, 50, 51, 52, 53, 54, 55, 56, 57, 58, 59, 60, 61, 62, 63, 64] rfl (by decide +kernel)) (goodIn_sub (fun _ h => List.mem_cons_of_mem _ (List.mem_append_right _ h)) (by decide +kernel))
set_option maxRecDepth 20000 in
theorem gX10_account_X10_coins : GoodIn wsX10_account (wsV RX10 262 RX10 yX10_coins wsX10_coins) := goodIn_app (goodIn_of _ (by decide +kernel)) ggX10_account_X10_coins
set_option maxRecDepth 20000 in
theorem ggX10_account_X10_throwing : GoodIn wsX10_account wsX10_throwing := goodIn_r _ [43, 1, 44, 45, 46, 47, 48, 49, 50, 51, 52, 53, 54, 55, 56, 57, 58, 59, 60, 61, 62, 63, 64] rfl (by decide +kernel)
set_option maxRecDepth 20000 in
theorem gX10_account_X10_throwing : GoodIn wsX10_account (wsV RX10 50 RX10 yX10_throwing wsX10_throwing) := goodIn_app (goodIn_of _ (by decide +kernel)) ggX10_account_X10_throwing
set_option maxRecDepth 20000 in
theorem ggX10_undo_X10_throwing : GoodIn wsX10_undo wsX10_throwing := goodIn_r _ [9, 1, 10, 11, 12, 13, 14, 15, 16, 17, 18, 19, 20, 21, 22, 23, 24, 25, 26, 27, 28, 29, 30] rfl (by decide +kernel)
set_option maxRecDepth 20000 in
theorem gX10_undo_X10_throwing : GoodIn wsX10_undo (wsV RX10 50 RX10 yX10_throwing wsX10_throwing) := goodIn_app (goodIn_of _ (by decide +kernel)) ggX10_undo_X10_throwing
set_option maxRecDepth 20000 in
theorem ggX10_restore_X10_throwing : GoodIn wsX10_restore wsX10_throwing := goodIn_r _ [10, 1, 11, 12, 13, 14, 15, 16, 17, 18, 19, 20, 21, 22, 23, 24, 25, 26, 27, 28, 29, 30, 31] rfl (by decide +kernel)
set_option maxRecDepth 20000 in
theorem gX10_restore_X10_throwing : GoodIn wsX10_restore (wsV RX10 50 RX10 yX10_throwing wsX10_throwing) := goodIn_app (goodIn_of _ (by decide +kernel)) ggX10_restore_X10_throwing
set_option maxRecDepth 20000 in
theorem ggJ5_init_d00df_J2_newBytesFor_77867 : GoodIn wsJ5_init_d00df wsJ2_newBytesFor_77867 := goodIn_r _ [11, 5, 12, 13, 10, 14, 15] rfl (by decide +kernel)
set_option maxRecDepth 20000 in
theorem gJ5_init_d00df_J2_newBytesFor_77867 : GoodIn wsJ5_init_d00df (va_wsS RJ5 26 yJ2_newBytesFor_77867 wsJ2_newBytesFor_77867) := goodIn_app (goodIn_of _ (by decide +kernel)) ggJ5_init_d00df_J2_newBytesFor_77867
set_option maxRecDepth 20000 in
theorem ggJ5_setLength_d00df_J5_ensureCapacityInternal_d00df : GoodIn wsJ5_setLength_d00df wsJ5_ensureCapacityInternal_d00df := goodIn_r _ [12, 5, 13, 14, 15, 16, 17, 11, 18, 19, 20, 21, 22, 23, 24, 25, 26, 27, 28, 29, 30, 31, 32, 33, 34, 35, 36, 37, 38, 39, 40, 41, 42, 43, 44, 45, 46, 47, 48, 49, 83, 84, 85, 86] rfl (by decide +kernel)
set_option maxRecDepth 20000 in
theorem gJ5_setLength_d00df_J5_ensureCapacityInternal_d00df_u100J4 : GoodIn wsJ5_setLength_d00df (va_wsU RJ5 100 RJ4 "java/lang/AbstractStringBuilder" ⟨"java/lang/AbstractStringBuilder", "ensureCapacityInternal", "(I)V"⟩ yJ5_ensureCapacityInternal_d00df wsJ5_ensureCapacityInternal_d00df) := goodIn_app (goodIn_of _ (by decide +kernel)) ggJ5_setLength_d00df_J5_ensureCapacityInternal_d00df
set_option maxRecDepth 20000 in
theorem ggJ5_charAt_5068e_J0_checkIndex_df160 : GoodIn wsJ5_charAt_5068e wsJ0_checkIndex_df160 := goodIn_r _ [11, 12, 13, 14, 15, 16] rfl (by decide +kernel)
