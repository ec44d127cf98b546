set_option maxRecDepth 20000 in
theorem gX10_gardenerOf_X10_throwing : GoodIn wsX10_gardenerOf (wsV RX10 50 RX10 yX10_throwing wsX10_throwing) := goodIn_app (goodIn_of _ (by decide +kernel)) ggX10_gardenerOf_X10_throwing
set_option maxRecDepth 20000 in
theorem ggX10_gardenerOf_X10_gardenerAt : GoodIn wsX10_gardenerOf wsX10_gardenerAt := goodIn_r _ [17] rfl (by decide +kernel)
set_option maxRecDepth 20000 in
theorem gX10_gardenerOf_X10_gardenerAt : GoodIn wsX10_gardenerOf (va_wsS RX10 120 yX10_gardenerAt wsX10_gardenerAt) := goodIn_app (goodIn_of _ (by decide +kernel)) ggX10_gardenerOf_X10_gardenerAt
set_option maxRecDepth 20000 in
theorem ggX10_gardenerOf_X10_lasting : GoodIn wsX10_gardenerOf wsX10_lasting := goodIn_ca (goodIn_r _ [21, 2, 22, 23, 24, 6, 25, 26, 27, 28, 29, 30, 31, 32, 33, 34, 35, 36, 37, 38, 39, 40, 41, 42, 43, 44, 45, 46, 47, 48, 49] rfl (by decide +kernel)) (goodIn_sub (fun _ h => List.mem_cons_of_mem _ (List.mem_append_right _ h)) (by decide +kernel))
set_option maxRecDepth 20000 in
theorem gX10_gardenerOf_X10_lasting : GoodIn wsX10_gardenerOf (wsV RX10 186 RX10 yX10_lasting wsX10_lasting) := goodIn_app (goodIn_of _ (by decide +kernel)) ggX10_gardenerOf_X10_lasting
set_option maxRecDepth 20000 in
theorem ggX10_visitorOf_X10_isVisitor : GoodIn wsX10_visitorOf wsX10_isVisitor := goodIn_ca (goodIn_r _ [7, 2, 8, 9, 6, 10, 26, 27, 28, 29, 30, 31, 32, 33, 34, 35, 36, 37, 38, 39, 40, 41, 42, 43, 44, 45, 46] rfl (by decide +kernel)) (goodIn_sub (fun _ h => List.mem_cons_of_mem _ (List.mem_append_right _ h)) (by decide +kernel))
set_option maxRecDepth 20000 in
theorem gX10_visitorOf_X10_isVisitor : GoodIn wsX10_visitorOf (wsV RX10 154 RX10 yX10_isVisitor wsX10_isVisitor) := goodIn_app (goodIn_of _ (by decide +kernel)) ggX10_visitorOf_X10_isVisitor
set_option maxRecDepth 20000 in
theorem ggX10_visitorOf_X10_throwing : GoodIn wsX10_visitorOf wsX10_throwing := goodIn_r _ [14, 1, 26, 27, 28, 29, 30, 31, 32, 33, 34, 35, 36, 37, 38, 39, 40, 41, 42, 43, 44, 45, 46] rfl (by decide +kernel)
set_option maxRecDepth 20000 in
theorem gX10_visitorOf_X10_throwing : GoodIn wsX10_visitorOf (wsV RX10 50 RX10 yX10_throwing wsX10_throwing) := goodIn_app (goodIn_of _ (by decide +kernel)) ggX10_visitorOf_X10_throwing
set_option maxRecDepth 20000 in
theorem ggX10_visitorOf_X10_visitorAt : GoodIn wsX10_visitorOf wsX10_visitorAt := goodIn_r _ [17] rfl (by decide +kernel)
set_option maxRecDepth 20000 in
theorem gX10_visitorOf_X10_visitorAt : GoodIn wsX10_visitorOf (va_wsS RX10 126 yX10_visitorAt wsX10_visitorAt) := goodIn_app (goodIn_of _ (by decide +kernel)) ggX10_visitorOf_X10_visitorAt
set_option maxRecDepth 20000 in
theorem ggX10_visitorOf_X10_lostOf : GoodIn wsX10_visitorOf wsX10_lostOf := goodIn_ca (goodIn_r _ [21, 2, 22, 23, 24, 25, 15, 16, 6, 17, 26, 27, 28, 29, 30, 31, 32, 33, 34, 35, 36, 37, 38, 39, 40, 41, 42, 43, 44, 45, 46] rfl (by decide +kernel)) (goodIn_sub (fun _ h => List.mem_cons_of_mem _ (List.mem_append_right _ h)) (by decide +kernel))
set_option maxRecDepth 20000 in
theorem gX10_visitorOf_X10_lostOf : GoodIn wsX10_visitorOf (wsV RX10 162 RX10 yX10_lostOf wsX10_lostOf) := goodIn_app (goodIn_of _ (by decide +kernel)) ggX10_visitorOf_X10_lostOf
set_option maxRecDepth 20000 in
theorem ggX10_wouldPay_X10_isVisitor : GoodIn wsX10_wouldPay wsX10_isVisitor := goodIn_ca (goodIn_r _ [11, 2, 12, 13, 10, 14, 56, 57, 58, 59, 60, 61, 62, 63, 64, 65, 66, 67, 68, 69, 70, 71, 72, 73, 74, 75, 76] rfl (by decide +kernel)) (goodIn_sub (fun _ h => List.mem_cons_of_mem _ (List.mem_append_right _ h)) (by decide +kernel))
set_option maxRecDepth 20000 in
theorem gX10_wouldPay_X10_isVisitor : GoodIn wsX10_wouldPay (wsV RX10 154 RX10 yX10_isVisitor wsX10_isVisitor) := goodIn_app (goodIn_of _ (by decide +kernel)) ggX10_wouldPay_X10_isVisitor
set_option maxRecDepth 20000 in
theorem ggX10_wouldPay_X10_throwing : GoodIn wsX10_wouldPay wsX10_throwing := goodIn_r _ [18, 1, 56, 57, 58, 59, 60, 61, 62, 63, 64, 65, 66, 67, 68, 69, 70, 71, 72, 73, 74, 75, 76] rfl (by decide +kernel)
set_option maxRecDepth 20000 in
theorem gX10_wouldPay_X10_throwing : GoodIn wsX10_wouldPay (wsV RX10 50 RX10 yX10_throwing wsX10_throwing) := goodIn_app (goodIn_of _ (by decide +kernel)) ggX10_wouldPay_X10_throwing
set_option maxRecDepth 20000 in
theorem ggX10_wouldPay_X10_visitorAt : GoodIn wsX10_wouldPay wsX10_visitorAt := goodIn_r _ [21] rfl (by decide +kernel)
set_option maxRecDepth 20000 in
theorem gX10_wouldPay_X10_visitorAt : GoodIn wsX10_wouldPay (va_wsS RX10 126 yX10_visitorAt wsX10_visitorAt) := goodIn_app (goodIn_of _ (by decide +kernel)) ggX10_wouldPay_X10_visitorAt
set_option maxRecDepth 20000 in
theorem ggX10_wouldPay_X10_hoursOf : GoodIn wsX10_wouldPay wsX10_hoursOf := goodIn_ca (goodIn_r _ [25, 26, 27, 28, 29, 10, 30, 31, 32, 5, 33, 34, 35, 36, 37, 12, 13, 14, 38, 39, 40, 3, 4, 6, 41, 42, 43, 44, 2, 56, 57, 58, 59, 60, 61, 62, 63, 64, 65, 66, 67, 68, 69, 70, 71, 72, 73, 74, 75, 76] rfl (by decide +kernel)) (goodIn_sub (fun _ h => List.mem_cons_of_mem _ (List.mem_append_right _ h)) (by decide +kernel))
set_option maxRecDepth 20000 in
theorem gX10_wouldPay_X10_hoursOf : GoodIn wsX10_wouldPay (wsV RX10 142 RX10 yX10_hoursOf wsX10_hoursOf) := goodIn_app (goodIn_of _ (by decide +kernel)) ggX10_wouldPay_X10_hoursOf
set_option maxRecDepth 20000 in
theorem ggX10_wouldPay_X10_lasts : GoodIn wsX10_wouldPay wsX10_lasts := goodIn_ca (goodIn_r _ [48, 2, 19, 20, 10, 21, 56, 57, 58, 59, 60, 61, 62, 63, 64, 65, 66, 67, 68, 69, 70, 71, 72, 73, 74, 75, 76] rfl (by decide +kernel)) (goodIn_sub (fun _ h => List.mem_cons_of_mem _ (List.mem_append_right _ h)) (by decide +kernel))
set_option maxRecDepth 20000 in
theorem gX10_wouldPay_X10_lasts : GoodIn wsX10_wouldPay (wsV RX10 183 RX10 yX10_lasts wsX10_lasts) := goodIn_app (goodIn_of _ (by decide +kernel)) ggX10_wouldPay_X10_lasts
set_option maxRecDepth 20000 in
theorem ggX10_wouldPay_X10_pays : GoodIn wsX10_wouldPay wsX10_pays := goodIn_ca (goodIn_r _ [52, 2, 31, 32, 5, 33, 19, 20, 10, 21, 53, 54, 55, 56, 57, 58, 59, 60, 61, 62, 63, 64, 65, 66, 67, 68, 69, 70, 71, 72, 73, 74, 75, 76] rfl (by decide +kernel)) (goodIn_sub (fun _ h => List.mem_cons_of_mem _ (List.mem_append_right _ h)) (by decide +kernel))
set_option maxRecDepth 20000 in
theorem gX10_wouldPay_X10_pays : GoodIn wsX10_wouldPay (wsV RX10 165 RX10 yX10_pays wsX10_pays) := goodIn_app (goodIn_of _ (by decide +kernel)) ggX10_wouldPay_X10_pays
set_option maxRecDepth 20000 in
theorem ggX10_owedBy_X10_visitorAt : GoodIn wsX10_owedBy wsX10_visitorAt := goodIn_r _ [5] rfl (by decide +kernel)
set_option maxRecDepth 20000 in
theorem gX10_owedBy_X10_visitorAt : GoodIn wsX10_owedBy (va_wsS RX10 126 yX10_visitorAt wsX10_visitorAt) := goodIn_app (goodIn_of _ (by decide +kernel)) ggX10_owedBy_X10_visitorAt
set_option maxRecDepth 20000 in
theorem ggX10_owedBy_X10_lasts : GoodIn wsX10_owedBy wsX10_lasts := goodIn_ca (goodIn_r _ [9, 1, 2, 3, 4, 5, 18, 19, 20, 21, 22, 23, 24, 25, 26, 27, 28, 29, 30, 31, 32, 33, 34, 35, 36, 37, 38] rfl (by decide +kernel)) (goodIn_sub (fun _ h => List.mem_cons_of_mem _ (List.mem_append_right _ h)) (by decide +kernel))
set_option maxRecDepth 20000 in
theorem gX10_owedBy_X10_lasts : GoodIn wsX10_owedBy (wsV RX10 183 RX10 yX10_lasts wsX10_lasts) := goodIn_app (goodIn_of _ (by decide +kernel)) ggX10_owedBy_X10_lasts
set_option maxRecDepth 20000 in
theorem ggX10_owedBy_X10_lostOf : GoodIn wsX10_owedBy wsX10_lostOf := goodIn_ca (goodIn_r _ [13, 1, 14, 15, 16, 17, 2, 3, 4, 5, 18, 19, 20, 21, 22, 23, 24, 25, 26, 27, 28, 29, 30, 31, 32, 33, 34, 35, 36, 37, 38] rfl (by decide +kernel)) (goodIn_sub (fun _ h => List.mem_cons_of_mem _ (List.mem_append_right _ h)) (by decide +kernel))
set_option maxRecDepth 20000 in
theorem gX10_owedBy_X10_lostOf : GoodIn wsX10_owedBy (wsV RX10 162 RX10 yX10_lostOf wsX10_lostOf) := goodIn_app (goodIn_of _ (by decide +kernel)) ggX10_owedBy_X10_lostOf
