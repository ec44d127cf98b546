set_option maxRecDepth 20000 in
theorem ggX0_takeCommands_X0_readCommand : GoodIn wsX0_takeCommands wsX0_readCommand := goodIn_ca (goodIn_r _ [9, 1, 3, 2, 10, 11, 12, 13, 14, 8, 15, 16, 17, 18, 19, 20, 21, 22, 23, 24, 25, 26, 27, 28, 29, 30, 31, 32, 33, 34, 35, 36, 37, 38, 39, 40, 41, 42, 43, 44, 45, 46, 47, 48, 49, 50, 51, 52, 53, 54, 55, 56, 57, 58, 59, 60, 61, 62, 63, 64, 65, 66, 67, 68, 69, 70, 71, 72, 73, 74, 75, 76, 77, 78, 79, 80, 81, 82, 83, 84, 85, 86, 87, 88, 89, 90, 91, 92, 93, 94, 95, 96, 97, 98, 99, 100, 101] rfl (by decide +kernel)) (goodIn_sub (fun _ h => List.mem_cons_of_mem _ (List.mem_append_right _ h)) (by decide +kernel))
set_option maxRecDepth 20000 in
theorem gX0_takeCommands_X0_readCommand : GoodIn wsX0_takeCommands (wsV RX0 36 RX0 yX0_readCommand wsX0_readCommand) := goodIn_app (goodIn_of _ (by decide +kernel)) ggX0_takeCommands_X0_readCommand
set_option maxRecDepth 20000 in
theorem ggX0_takeCommands_X0_takeSign : GoodIn wsX0_takeCommands wsX0_takeSign := goodIn_ca (goodIn_r _ [85, 1, 3, 10, 90, 91, 92, 93, 94, 95, 96, 97] rfl (by decide +kernel)) (goodIn_sub (fun _ h => List.mem_cons_of_mem _ (List.mem_append_right _ h)) (by decide +kernel))
set_option maxRecDepth 20000 in
theorem gX0_takeCommands_X0_takeSign : GoodIn wsX0_takeCommands (wsV RX0 40 RX0 yX0_takeSign wsX0_takeSign) := goodIn_app (goodIn_of _ (by decide +kernel)) ggX0_takeCommands_X0_takeSign
set_option maxRecDepth 20000 in
theorem ggX0_readCommand_X0_formOf : GoodIn wsX0_readCommand wsX0_formOf := goodIn_r _ [10] rfl (by decide +kernel)
set_option maxRecDepth 20000 in
theorem gX0_readCommand_X0_formOf : GoodIn wsX0_readCommand (va_wsS RX0 44 yX0_formOf wsX0_formOf) := goodIn_app (goodIn_of _ (by decide +kernel)) ggX0_readCommand_X0_formOf
set_option maxRecDepth 20000 in
theorem ggX0_readCommand_J0_length_8abf5 : GoodIn wsX0_readCommand wsJ0_length_8abf5 := goodIn_r _ [15, 16, 17, 18, 19, 14, 20, 21, 22, 93, 94, 95, 96] rfl (by decide +kernel)
set_option maxRecDepth 20000 in
theorem gX0_readCommand_J0_length_8abf5 : GoodIn wsX0_readCommand (wsV RX0 51 RJ0 yJ0_length_8abf5 wsJ0_length_8abf5) := goodIn_app (goodIn_of _ (by decide +kernel)) ggX0_readCommand_J0_length_8abf5
set_option maxRecDepth 20000 in
theorem ggX0_readCommand_J0_charAt_5068e : GoodIn wsX0_readCommand wsJ0_charAt_5068e := goodIn_r _ [26, 16, 27, 28, 29, 14, 30, 21, 22, 31, 32, 33, 34, 35, 36, 37, 38, 39, 40, 41, 42, 43, 44, 45, 46, 47, 48, 49, 50, 51, 52, 53, 54, 55, 56, 57, 58, 59, 93, 94, 95, 96] rfl (by decide +kernel)
set_option maxRecDepth 20000 in
theorem gX0_readCommand_J0_charAt_5068e : GoodIn wsX0_readCommand (wsV RX0 56 RJ0 yJ0_charAt_5068e wsJ0_charAt_5068e) := goodIn_app (goodIn_of _ (by decide +kernel)) ggX0_readCommand_J0_charAt_5068e
set_option maxRecDepth 20000 in
theorem ggX0_readCommand_X0_readPart : GoodIn wsX0_readCommand wsX0_readPart := goodIn_ca (goodIn_r _ [63, 64, 65, 66, 9, 67, 4, 1, 68, 69, 70, 71, 2, 72, 73, 74, 75, 3, 6, 76, 77, 78, 79, 80, 81, 82, 83, 84, 85, 86, 87, 88, 89, 90, 91, 92] rfl (by decide +kernel)) (goodIn_sub (fun _ h => List.mem_cons_of_mem _ (List.mem_append_right _ h)) (by decide +kernel))
set_option maxRecDepth 20000 in
theorem gX0_readCommand_X0_readPart : GoodIn wsX0_readCommand (wsV RX0 60 RX0 yX0_readPart wsX0_readPart) := goodIn_app (goodIn_of _ (by decide +kernel)) ggX0_readCommand_X0_readPart
set_option maxRecDepth 20000 in
theorem ggX0_readPart_X0_readNumber : GoodIn wsX0_readPart wsX0_readNumber := goodIn_ca (goodIn_r _ [5, 6, 7, 8, 9, 10, 4, 11, 12, 13, 14, 15, 16, 17, 18, 19, 28, 29, 30, 31, 32, 33, 34, 35] rfl (by decide +kernel)) (goodIn_sub (fun _ h => List.mem_cons_of_mem _ (List.mem_append_right _ h)) (by decide +kernel))
set_option maxRecDepth 20000 in
theorem gX0_readPart_X0_readNumber : GoodIn wsX0_readPart (wsV RX0 79 RX0 yX0_readNumber wsX0_readNumber) := goodIn_app (goodIn_of _ (by decide +kernel)) ggX0_readPart_X0_readNumber
set_option maxRecDepth 20000 in
theorem ggX0_readPart_X0_takeSign : GoodIn wsX0_readPart wsX0_takeSign := goodIn_ca (goodIn_r _ [23, 7, 12, 6, 28, 29, 30, 31, 32, 33, 34, 35] rfl (by decide +kernel)) (goodIn_sub (fun _ h => List.mem_cons_of_mem _ (List.mem_append_right _ h)) (by decide +kernel))
set_option maxRecDepth 20000 in
theorem gX0_readPart_X0_takeSign : GoodIn wsX0_readPart (wsV RX0 40 RX0 yX0_takeSign wsX0_takeSign) := goodIn_app (goodIn_of _ (by decide +kernel)) ggX0_readPart_X0_takeSign
set_option maxRecDepth 20000 in
theorem ggX0_readPart_X0_keepNumber : GoodIn wsX0_readPart wsX0_keepNumber := goodIn_ca (goodIn_r _ [16, 17, 18, 19, 28, 29, 30, 31, 32, 33, 34, 35] rfl (by decide +kernel)) (goodIn_sub (fun _ h => List.mem_cons_of_mem _ (List.mem_append_right _ h)) (by decide +kernel))
set_option maxRecDepth 20000 in
theorem gX0_readPart_X0_keepNumber : GoodIn wsX0_readPart (wsV RX0 83 RX0 yX0_keepNumber wsX0_keepNumber) := goodIn_app (goodIn_of _ (by decide +kernel)) ggX0_readPart_X0_keepNumber
set_option maxRecDepth 20000 in
theorem ggX0_readPart_X0_readDirection : GoodIn wsX0_readPart wsX0_readDirection := goodIn_ca (goodIn_r _ [27, 20, 21, 22, 4, 23, 7, 12, 6, 13, 14, 15, 16, 17, 18, 19, 28, 29, 30, 31, 32, 33, 34, 35] rfl (by decide +kernel)) (goodIn_sub (fun _ h => List.mem_cons_of_mem _ (List.mem_append_right _ h)) (by decide +kernel))
set_option maxRecDepth 20000 in
theorem gX0_readPart_X0_readDirection : GoodIn wsX0_readPart (wsV RX0 86 RX0 yX0_readDirection wsX0_readDirection) := goodIn_app (goodIn_of _ (by decide +kernel)) ggX0_readPart_X0_readDirection
set_option maxRecDepth 20000 in
theorem ggX0_readNumber_X0_isAtDigit : GoodIn wsX0_readNumber wsX0_isAtDigit := goodIn_ca (goodIn_r _ [7, 2, 8, 1, 16, 17, 18, 19, 20, 21, 22, 23] rfl (by decide +kernel)) (goodIn_sub (fun _ h => List.mem_cons_of_mem _ (List.mem_append_right _ h)) (by decide +kernel))
set_option maxRecDepth 20000 in
theorem gX0_readNumber_X0_isAtDigit : GoodIn wsX0_readNumber (wsV RX0 89 RX0 yX0_isAtDigit wsX0_isAtDigit) := goodIn_app (goodIn_of _ (by decide +kernel)) ggX0_readNumber_X0_isAtDigit
set_option maxRecDepth 20000 in
theorem ggX0_readNumber_X0_keepNumber : GoodIn wsX0_readNumber wsX0_keepNumber := goodIn_ca (goodIn_r _ [12, 13, 14, 15, 16, 17, 18, 19, 20, 21, 22, 23] rfl (by decide +kernel)) (goodIn_sub (fun _ h => List.mem_cons_of_mem _ (List.mem_append_right _ h)) (by decide +kernel))
set_option maxRecDepth 20000 in
theorem gX0_readNumber_X0_keepNumber : GoodIn wsX0_readNumber (wsV RX0 83 RX0 yX0_keepNumber wsX0_keepNumber) := goodIn_app (goodIn_of _ (by decide +kernel)) ggX0_readNumber_X0_keepNumber
set_option maxRecDepth 20000 in
theorem ggX0_readDirection_X0_takeSign : GoodIn wsX0_readDirection wsX0_takeSign := goodIn_ca (goodIn_r _ [5, 6, 7, 8, 16, 17, 18, 19, 20, 21, 22, 23] rfl (by decide +kernel)) (goodIn_sub (fun _ h => List.mem_cons_of_mem _ (List.mem_append_right _ h)) (by decide +kernel))
set_option maxRecDepth 20000 in
theorem gX0_readDirection_X0_takeSign : GoodIn wsX0_readDirection (wsV RX0 40 RX0 yX0_takeSign wsX0_takeSign) := goodIn_app (goodIn_of _ (by decide +kernel)) ggX0_readDirection_X0_takeSign
set_option maxRecDepth 20000 in
theorem ggX0_readDirection_X0_keepNumber : GoodIn wsX0_readDirection wsX0_keepNumber := goodIn_ca (goodIn_r _ [12, 13, 14, 15, 16, 17, 18, 19, 20, 21, 22, 23] rfl (by decide +kernel)) (goodIn_sub (fun _ h => List.mem_cons_of_mem _ (List.mem_append_right _ h)) (by decide +kernel))
set_option maxRecDepth 20000 in
theorem gX0_readDirection_X0_keepNumber : GoodIn wsX0_readDirection (wsV RX0 83 RX0 yX0_keepNumber wsX0_keepNumber) := goodIn_app (goodIn_of _ (by decide +kernel)) ggX0_readDirection_X0_keepNumber
set_option maxRecDepth 20000 in
theorem ggX2_init_X6_init : GoodIn wsX2_init wsX6_init := goodIn_r _ [10, 11, 2, 3, 12, 13, 14, 15, 16, 17, 18, 19, 20, 21, 22, 23, 24, 25, 26, 27, 28, 29, 30, 31, 32, 33, 34, 35, 36, 37, 38, 51, 42, 43, 44, 45, 46, 47, 48, 49, 50, 52, 53, 54, 55, 56, 57, 58, 59, 60, 61, 62, 63] rfl (by decide +kernel)
