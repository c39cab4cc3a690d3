/-! MACHINE: the words of the methods that throw, with x_throw's (the printed lists with their last part changed) -/
def wsY_of : List Cond := .code yX7_of cX7_of 4 (some .int) :: ([.classLink RX7 140 "java/util/NoSuchElementException", .initialized "java/util/NoSuchElementException", .fieldLink RX7 10 "ProRataMarket" "floor" "LProRataMarket$Floor;", .fieldLink RX7 105 "ProRataMarket$Floor" "book" "LProRataMarket$Book;", .fieldLink RX7 147 "ProRataMarket$Order" "trader" "I", .fieldLink RX7 150 "ProRataMarket$Order" "side" "I", .fieldLink RX7 153 "ProRataMarket$Order" "price" "I", .fieldLink RX7 115 "ProRataMarket$Order" "size" "I", .fieldLink RX7 156 "ProRataMarket$Order" "first" "I", .methodLink RX7 109 yX0_find, .instanceMethod yX0_find, .selects RX0 yX0_find yX0_find, .initialized RX0, .code yX0_find cX0_find 3 (some (.object "ProRataMarket$Order")), .fieldLink RX0 25 "ProRataMarket$Book" "resting" "I", .fieldLink RX0 11 "ProRataMarket$Book" "rows" "[LProRataMarket$Order;", .fieldLink RX0 33 "ProRataMarket$Order" "number" "I", .methodLink RX7 159 yX0_grantOf, .instanceMethod yX0_grantOf, .selects RX0 yX0_grantOf yX0_grantOf, .code yX0_grantOf cX0_grantOf 2 (some .int), .fieldLink RX0 17 "ProRataMarket$Book" "topNumber" "[I", .fieldLink RX0 46 "ProRataMarket$Order" "side" "I", .fieldLink RX0 21 "ProRataMarket$Book" "topGrant" "[I"] ++ wsX70 ++ wsX20 ++ wsX40 ++ wsX00 ++ xGw)
def wsY_position : List Cond := .code yX7_position cX7_position 2 (some .int) :: ([.classLink RX7 140 "java/util/NoSuchElementException", .initialized "java/util/NoSuchElementException", .fieldLink RX7 10 "ProRataMarket" "floor" "LProRataMarket$Floor;", .fieldLink RX7 224 "ProRataMarket$Floor" "ledger" "LProRataMarket$Ledger;", .fieldLink RX7 277 "ProRataMarket$Ledger" "position" "[I", .methodLink RX7 95 yX7_isTrader, .static yX7_isTrader, .initialized RX7, .code yX7_isTrader cX7_isTrader 1 (some .boolean)] ++ wsX70 ++ wsX20 ++ wsX30 ++ xGw)
def wsY_money : List Cond := .code yX7_money cX7_money 2 (some .long) :: ([.classLink RX7 140 "java/util/NoSuchElementException", .initialized "java/util/NoSuchElementException", .fieldLink RX7 10 "ProRataMarket" "floor" "LProRataMarket$Floor;", .fieldLink RX7 224 "ProRataMarket$Floor" "ledger" "LProRataMarket$Ledger;", .fieldLink RX7 248 "ProRataMarket$Ledger" "money" "[J", .methodLink RX7 95 yX7_isTrader, .static yX7_isTrader, .initialized RX7, .code yX7_isTrader cX7_isTrader 1 (some .boolean)] ++ wsX70 ++ wsX20 ++ wsX30 ++ xGw)
def wsM_of : List Cond := .codeWith yL_of cL_of 5 (some .int) [(0, 10, 13, 13)] :: ((wsL_of_r1 ++ wsL_of_r2) ++ wsX70 ++ wsX20 ++ wsX40 ++ wsX00 ++ xGw)
def wsM_position : List Cond := .codeWith yL_position cL_position 4 (some .int) [(0, 9, 12, 13)] :: ([.classLink RL 13 "java/util/NoSuchElementException", .methodLink RL 15 yX7_position, .instanceMethod yX7_position, .selects RX7 yX7_position yX7_position, .initialized RX7, .code yX7_position cX7_position 2 (some .int), .classLink RX7 140 "java/util/NoSuchElementException", .initialized "java/util/NoSuchElementException", .fieldLink RX7 10 "ProRataMarket" "floor" "LProRataMarket$Floor;", .fieldLink RX7 224 "ProRataMarket$Floor" "ledger" "LProRataMarket$Ledger;", .fieldLink RX7 277 "ProRataMarket$Ledger" "position" "[I", .methodLink RX7 95 yX7_isTrader, .static yX7_isTrader, .code yX7_isTrader cX7_isTrader 1 (some .boolean)] ++ wsX70 ++ wsX20 ++ wsX30 ++ xGw)
def wsM_money : List Cond := .codeWith yL_money cL_money 4 (some .int) [(0, 8, 11, 13)] :: ([.classLink RL 13 "java/util/NoSuchElementException", .methodLink RL 19 yX7_money, .instanceMethod yX7_money, .selects RX7 yX7_money yX7_money, .initialized RX7, .code yX7_money cX7_money 2 (some .long), .classLink RX7 140 "java/util/NoSuchElementException", .initialized "java/util/NoSuchElementException", .fieldLink RX7 10 "ProRataMarket" "floor" "LProRataMarket$Floor;", .fieldLink RX7 224 "ProRataMarket$Floor" "ledger" "LProRataMarket$Ledger;", .fieldLink RX7 248 "ProRataMarket$Ledger" "money" "[J", .methodLink RX7 95 yX7_isTrader, .static yX7_isTrader, .code yX7_isTrader cX7_isTrader 1 (some .boolean)] ++ wsX70 ++ wsX20 ++ wsX30 ++ xGw)
def wsM_law : List Cond := wsL_law0 ++ xGw
set_option maxRecDepth 20000 in
theorem ggY_of_X0_find : GoodIn wsY_of wsX0_find := goodIn_r _ [14, 15, 16, 17, 46, 47, 48, 49, 40, 41, 42, 43, 44, 45] (by decide +kernel) (by decide +kernel)
set_option maxRecDepth 20000 in
theorem gY_of_X0_find : GoodIn wsY_of (wsV RX7 109 RX0 yX0_find wsX0_find) := goodIn_app (goodIn_of _ (by decide +kernel)) ggY_of_X0_find
set_option maxRecDepth 20000 in
theorem ggY_of_X0_grantOf : GoodIn wsY_of wsX0_grantOf := goodIn_r _ [21, 22, 23, 17, 24, 46, 47, 48, 49, 40, 41, 42, 43, 44, 45] (by decide +kernel) (by decide +kernel)
set_option maxRecDepth 20000 in
theorem gY_of_X0_grantOf : GoodIn wsY_of (wsV RX7 159 RX0 yX0_grantOf wsX0_grantOf) := goodIn_app (goodIn_of _ (by decide +kernel)) ggY_of_X0_grantOf
set_option maxRecDepth 20000 in
theorem ggY_position_X7_isTrader : GoodIn wsY_position wsX7_isTrader := goodIn_r _ [9] (by decide +kernel) (by decide +kernel)
set_option maxRecDepth 20000 in
theorem gY_position_X7_isTrader : GoodIn wsY_position (va_wsS RX7 95 yX7_isTrader wsX7_isTrader) := goodIn_app (goodIn_of _ (by decide +kernel)) ggY_position_X7_isTrader
set_option maxRecDepth 20000 in
theorem ggY_money_X7_isTrader : GoodIn wsY_money wsX7_isTrader := goodIn_r _ [9] (by decide +kernel) (by decide +kernel)
set_option maxRecDepth 20000 in
theorem gY_money_X7_isTrader : GoodIn wsY_money (va_wsS RX7 95 yX7_isTrader wsX7_isTrader) := goodIn_app (goodIn_of _ (by decide +kernel)) ggY_money_X7_isTrader
set_option maxRecDepth 20000 in
theorem ggM_of_Y_of : GoodIn wsM_of wsY_of := goodIn_ca (goodIn_r _ [6, 7, 8, 9, 10, 11, 12, 13, 14, 15, 16, 17, 18, 19, 20, 21, 22, 23, 24, 25, 26, 27, 28, 29, 30, 31, 32, 33, 34, 35, 36, 37, 38, 39, 40, 41, 42, 43, 44, 45, 46, 47, 48, 49, 50, 51, 52, 53, 54, 55] (by decide +kernel) (by decide +kernel)) (goodIn_sub (fun _ h => List.mem_cons_of_mem _ (List.mem_append_right _ h)) (by decide +kernel))
set_option maxRecDepth 20000 in
theorem gM_of_Y_of : GoodIn wsM_of (wsV RL 7 RX7 yX7_of wsY_of) := goodIn_app (goodIn_of _ (by decide +kernel)) ggM_of_Y_of
set_option maxRecDepth 20000 in
theorem ggM_position_Y_position : GoodIn wsM_position wsY_position := goodIn_ca (goodIn_r _ [6, 7, 8, 9, 10, 11, 12, 13, 5, 14, 15, 16, 17, 18, 19, 20, 21, 22, 23, 24, 25, 26, 27, 28, 29, 30, 31, 32, 33, 34, 35, 36] (by decide +kernel) (by decide +kernel)) (goodIn_sub (fun _ h => List.mem_cons_of_mem _ (List.mem_append_right _ h)) (by decide +kernel))
set_option maxRecDepth 20000 in
theorem gM_position_Y_position : GoodIn wsM_position (wsV RL 15 RX7 yX7_position wsY_position) := goodIn_app (goodIn_of _ (by decide +kernel)) ggM_position_Y_position
set_option maxRecDepth 20000 in
theorem ggM_money_Y_money : GoodIn wsM_money wsY_money := goodIn_ca (goodIn_r _ [6, 7, 8, 9, 10, 11, 12, 13, 5, 14, 15, 16, 17, 18, 19, 20, 21, 22, 23, 24, 25, 26, 27, 28, 29, 30, 31, 32, 33, 34, 35, 36] (by decide +kernel) (by decide +kernel)) (goodIn_sub (fun _ h => List.mem_cons_of_mem _ (List.mem_append_right _ h)) (by decide +kernel))
set_option maxRecDepth 20000 in
theorem gM_money_Y_money : GoodIn wsM_money (wsV RL 19 RX7 yX7_money wsY_money) := goodIn_app (goodIn_of _ (by decide +kernel)) ggM_money_Y_money
theorem dL_of_0 : decode cL_of 0 = .ok (.aload_n 3, 1) := by decide +kernel
theorem dL_of_1 : decode cL_of 1 = .ok (.iconst 0, 1) := by decide +kernel
theorem dL_of_2 : decode cL_of 2 = .ok (.aload_n 0, 1) := by decide +kernel
theorem dL_of_3 : decode cL_of 3 = .ok (.iload_n 1, 1) := by decide +kernel
theorem dL_of_4 : decode cL_of 4 = .ok (.iload_n 2, 1) := by decide +kernel
theorem dL_of_5 : decode cL_of 5 = .ok (.invokevirtual 7, 3) := by decide +kernel
theorem dL_of_8 : decode cL_of 8 = .ok (.i2l, 1) := by decide +kernel
theorem dL_of_9 : decode cL_of 9 = .ok (.lastore, 1) := by decide +kernel
theorem dL_of_10 : decode cL_of 10 = .ok (.goto 7, 3) := by decide +kernel
theorem dL_of_13 : decode cL_of 13 = .ok (.astore 4, 2) := by decide +kernel
theorem dL_of_15 : decode cL_of 15 = .ok (.iconst 1, 1) := by decide +kernel
theorem dL_of_16 : decode cL_of 16 = .ok (.ireturn, 1) := by decide +kernel
theorem dL_of_17 : decode cL_of 17 = .ok (.iconst 0, 1) := by decide +kernel
theorem dL_of_18 : decode cL_of 18 = .ok (.ireturn, 1) := by decide +kernel
theorem dL_position_0 : decode cL_position 0 = .ok (.aload_n 2, 1) := by decide +kernel
theorem dL_position_1 : decode cL_position 1 = .ok (.iconst 0, 1) := by decide +kernel
theorem dL_position_2 : decode cL_position 2 = .ok (.aload_n 0, 1) := by decide +kernel
theorem dL_position_3 : decode cL_position 3 = .ok (.iload_n 1, 1) := by decide +kernel
theorem dL_position_4 : decode cL_position 4 = .ok (.invokevirtual 15, 3) := by decide +kernel
theorem dL_position_7 : decode cL_position 7 = .ok (.i2l, 1) := by decide +kernel
theorem dL_position_8 : decode cL_position 8 = .ok (.lastore, 1) := by decide +kernel
theorem dL_position_9 : decode cL_position 9 = .ok (.goto 6, 3) := by decide +kernel
theorem dL_position_12 : decode cL_position 12 = .ok (.astore_n 3, 1) := by decide +kernel
theorem dL_position_13 : decode cL_position 13 = .ok (.iconst 1, 1) := by decide +kernel
theorem dL_position_14 : decode cL_position 14 = .ok (.ireturn, 1) := by decide +kernel
theorem dL_position_15 : decode cL_position 15 = .ok (.iconst 0, 1) := by decide +kernel
theorem dL_position_16 : decode cL_position 16 = .ok (.ireturn, 1) := by decide +kernel
theorem dL_money_0 : decode cL_money 0 = .ok (.aload_n 2, 1) := by decide +kernel
theorem dL_money_1 : decode cL_money 1 = .ok (.iconst 0, 1) := by decide +kernel
theorem dL_money_2 : decode cL_money 2 = .ok (.aload_n 0, 1) := by decide +kernel
theorem dL_money_3 : decode cL_money 3 = .ok (.iload_n 1, 1) := by decide +kernel
theorem dL_money_4 : decode cL_money 4 = .ok (.invokevirtual 19, 3) := by decide +kernel
theorem dL_money_7 : decode cL_money 7 = .ok (.lastore, 1) := by decide +kernel
theorem dL_money_8 : decode cL_money 8 = .ok (.goto 6, 3) := by decide +kernel
theorem dL_money_11 : decode cL_money 11 = .ok (.astore_n 3, 1) := by decide +kernel
theorem dL_money_12 : decode cL_money 12 = .ok (.iconst 1, 1) := by decide +kernel
theorem dL_money_13 : decode cL_money 13 = .ok (.ireturn, 1) := by decide +kernel
theorem dL_money_14 : decode cL_money 14 = .ok (.iconst 0, 1) := by decide +kernel
theorem dL_money_15 : decode cL_money 15 = .ok (.ireturn, 1) := by decide +kernel
