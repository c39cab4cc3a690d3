/-! MACHINE: the words of the methods that throw, with x_throw's (the printed lists with their last part changed) -/
def wsY_of : List Cond := .code yX7_of cX7_of 4 (some .int) :: ([.classLink RX7 140 "java/util/NoSuchElementException", .initialized "java/util/NoSuchElementException", .fieldLink RX7 10 "ProRataMarket" "floor" "LProRataMarket$Floor;", .fieldLink RX7 105 "ProRataMarket$Floor" "book" "LProRataMarket$Book;", .fieldLink RX7 147 "ProRataMarket$Order" "trader" "I", .fieldLink RX7 150 "ProRataMarket$Order" "side" "I", .fieldLink RX7 153 "ProRataMarket$Order" "price" "I", .fieldLink RX7 115 "ProRataMarket$Order" "size" "I", .fieldLink RX7 156 "ProRataMarket$Order" "first" "I", .methodLink RX7 109 yX0_find, .instanceMethod yX0_find, .selects RX0 yX0_find yX0_find, .initialized RX0, .code yX0_find cX0_find 3 (some (.object "ProRataMarket$Order")), .fieldLink RX0 25 "ProRataMarket$Book" "resting" "I", .fieldLink RX0 11 "ProRataMarket$Book" "rows" "[LProRataMarket$Order;", .fieldLink RX0 33 "ProRataMarket$Order" "number" "I", .methodLink RX7 159 yX0_grantOf, .instanceMethod yX0_grantOf, .selects RX0 yX0_grantOf yX0_grantOf, .code yX0_grantOf cX0_grantOf 2 (some .int), .fieldLink RX0 17 "ProRataMarket$Book" "topNumber" "[I", .fieldLink RX0 46 "ProRataMarket$Order" "side" "I", .fieldLink RX0 21 "ProRataMarket$Book" "topGrant" "[I"] ++ wsX70 ++ wsX20 ++ wsX40 ++ wsX00 ++ xGw)
def wsY_position : List Cond := .code yX7_position cX7_position 2 (some .int) :: ([.classLink RX7 140 "java/util/NoSuchElementException", .initialized "java/util/NoSuchElementException", .fieldLink RX7 10 "ProRataMarket" "floor" "LProRataMarket$Floor;", .fieldLink RX7 224 "ProRataMarket$Floor" "ledger" "LProRataMarket$Ledger;", .fieldLink RX7 277 "ProRataMarket$Ledger" "position" "[I", .methodLink RX7 95 yX7_isTrader, .static yX7_isTrader, .initialized RX7, .code yX7_isTrader cX7_isTrader 1 (some .boolean)] ++ wsX70 ++ wsX20 ++ wsX30 ++ xGw)
def wsM_size : List Cond := .codeWith yL_size cL_size 3 (some .int) [(0, 6, 7, 64)] :: ((wsL_size_r1 ++ wsL_size_r2) ++ wsX70 ++ wsX20 ++ wsX40 ++ wsX00 ++ xGw)
def wsM_law : List Cond := wsL_law0 ++ xGw
set_option maxRecDepth 20000 in
theorem ggY_of_X0_find : GoodIn wsY_of wsX0_find := goodIn_r _ [14, 15, 16, 17, 46, 47, 48, 49, 40, 41, 42, 43, 44, 45] (by decide +kernel) (by decide +kernel)
set_option maxRecDepth 20000 in
theorem gY_of_X0_find : GoodIn wsY_of (wsV RX7 109 RX0 yX0_find wsX0_find) := goodIn_app (goodIn_of _ (by decide +kernel)) ggY_of_X0_find
set_option maxRecDepth 20000 in
theorem ggY_of_X0_grantOf : GoodIn wsY_of wsX0_grantOf := goodIn_r _ [21, 22, 23, 17, 24, 46, 47, 48, 49, 40, 41, 42, 43, 44, 45] (by decide +kernel) (by decide +kernel)
set_option maxRecDepth 20000 in
theorem gY_of_X0_grantOf : GoodIn wsY_of (wsV RX7 159 RX0 yX0_grantOf wsX0_grantOf) := goodIn_app (goodIn_of _ (by decide +kernel)) ggY_of_X0_grantOf
set_option maxRecDepth 20000 in
theorem ggY_position_X7_isTrader : GoodIn wsY_position wsX7_isTrader := goodIn_r _ [9] (by decide +kernel) (by decide +kernel)
set_option maxRecDepth 20000 in
theorem gY_position_X7_isTrader : GoodIn wsY_position (va_wsS RX7 95 yX7_isTrader wsX7_isTrader) := goodIn_app (goodIn_of _ (by decide +kernel)) ggY_position_X7_isTrader
set_option maxRecDepth 20000 in
theorem ggM_size_Y_of : GoodIn wsM_size wsY_of := goodIn_ca (goodIn_r _ [6, 7, 8, 9, 10, 11, 12, 13, 14, 15, 16, 17, 18, 19, 20, 21, 22, 23, 24, 25, 26, 27, 28, 29, 30, 31, 32, 33, 34, 35, 36, 37, 38, 39, 40, 41, 42, 43, 44, 45, 46, 47, 48, 49, 50, 51, 52, 53, 54, 55] (by decide +kernel) (by decide +kernel)) (goodIn_sub (fun _ h => List.mem_cons_of_mem _ (List.mem_append_right _ h)) (by decide +kernel))
set_option maxRecDepth 20000 in
theorem gM_size_Y_of : GoodIn wsM_size (wsV RL 36 RX7 yX7_of wsY_of) := goodIn_app (goodIn_of _ (by decide +kernel)) ggM_size_Y_of
set_option maxRecDepth 20000 in
theorem ggL_some_L_cell : GoodIn wsL_some wsL_cell := goodIn_r _ [5, 6] (by decide +kernel) (by decide +kernel)
set_option maxRecDepth 20000 in
theorem gL_some_L_cell : GoodIn wsL_some (va_wsS RL 8 yL_cell wsL_cell) := goodIn_app (goodIn_of _ (by decide +kernel)) ggL_some_L_cell
theorem dL_cell_0 : decode cL_cell 0 = .ok (.aload_n 0, 1) := by decide +kernel
theorem dL_cell_1 : decode cL_cell 1 = .ok (.arraylength, 1) := by decide +kernel
theorem dL_cell_2 : decode cL_cell 2 = .ok (.ifCond .ne 7, 3) := by decide +kernel
theorem dL_cell_5 : decode cL_cell 5 = .ok (.iconst 0, 1) := by decide +kernel
theorem dL_cell_6 : decode cL_cell 6 = .ok (.goto 17, 3) := by decide +kernel
theorem dL_cell_9 : decode cL_cell 9 = .ok (.aload_n 0, 1) := by decide +kernel
theorem dL_cell_10 : decode cL_cell 10 = .ok (.iload_n 1, 1) := by decide +kernel
theorem dL_cell_11 : decode cL_cell 11 = .ok (.aload_n 0, 1) := by decide +kernel
theorem dL_cell_12 : decode cL_cell 12 = .ok (.arraylength, 1) := by decide +kernel
theorem dL_cell_13 : decode cL_cell 13 = .ok (.irem, 1) := by decide +kernel
theorem dL_cell_14 : decode cL_cell 14 = .ok (.iaload, 1) := by decide +kernel
theorem dL_cell_15 : decode cL_cell 15 = .ok (.ldc 7, 2) := by decide +kernel
theorem dL_cell_17 : decode cL_cell 17 = .ok (.iload_n 1, 1) := by decide +kernel
theorem dL_cell_18 : decode cL_cell 18 = .ok (.aload_n 0, 1) := by decide +kernel
theorem dL_cell_19 : decode cL_cell 19 = .ok (.arraylength, 1) := by decide +kernel
theorem dL_cell_20 : decode cL_cell 20 = .ok (.idiv, 1) := by decide +kernel
theorem dL_cell_21 : decode cL_cell 21 = .ok (.imul, 1) := by decide +kernel
theorem dL_cell_22 : decode cL_cell 22 = .ok (.ixor, 1) := by decide +kernel
theorem dL_cell_23 : decode cL_cell 23 = .ok (.ireturn, 1) := by decide +kernel
theorem dL_some_0 : decode cL_some 0 = .ok (.aload_n 0, 1) := by decide +kernel
theorem dL_some_1 : decode cL_some 1 = .ok (.iload_n 1, 1) := by decide +kernel
theorem dL_some_2 : decode cL_some 2 = .ok (.invokestatic 8, 3) := by decide +kernel
theorem dL_some_5 : decode cL_some 5 = .ok (.ldc 14, 2) := by decide +kernel
theorem dL_some_7 : decode cL_some 7 = .ok (.iand, 1) := by decide +kernel
theorem dL_some_8 : decode cL_some 8 = .ok (.iload_n 2, 1) := by decide +kernel
theorem dL_some_9 : decode cL_some 9 = .ok (.irem, 1) := by decide +kernel
theorem dL_some_10 : decode cL_some 10 = .ok (.ireturn, 1) := by decide +kernel
theorem dL_size_0 : decode cL_size 0 = .ok (.aload_n 0, 1) := by decide +kernel
theorem dL_size_1 : decode cL_size 1 = .ok (.iload_n 1, 1) := by decide +kernel
theorem dL_size_2 : decode cL_size 2 = .ok (.iconst 3, 1) := by decide +kernel
theorem dL_size_3 : decode cL_size 3 = .ok (.invokevirtual 36, 3) := by decide +kernel
theorem dL_size_6 : decode cL_size 6 = .ok (.ireturn, 1) := by decide +kernel
theorem dL_size_7 : decode cL_size 7 = .ok (.astore_n 2, 1) := by decide +kernel
theorem dL_size_8 : decode cL_size 8 = .ok (.iconst 0, 1) := by decide +kernel
theorem dL_size_9 : decode cL_size 9 = .ok (.ireturn, 1) := by decide +kernel
