set_option maxRecDepth 20000 in
theorem ggX8_init_X5_init : GoodIn wsX8_init wsX5_init := goodIn_r _ [33, 34, 2, 3, 35, 36, 102, 103] (by decide +kernel) (by decide +kernel)
set_option maxRecDepth 20000 in
theorem gX8_init_X5_init_n9 : GoodIn wsX8_init (wsX5_init) := ggX8_init_X5_init
set_option maxRecDepth 20000 in
theorem ggX8_init_X2_init : GoodIn wsX8_init wsX2_init := goodIn_r _ [39, 40, 2, 3, 41, 42, 43, 44, 45, 46, 47, 48, 49, 50, 51, 52, 53, 54, 55, 56, 57, 58, 111, 112, 113, 114, 115, 116, 147, 148, 149, 150, 151] (by decide +kernel) (by decide +kernel)
set_option maxRecDepth 20000 in
theorem gX8_init_X2_init : GoodIn wsX8_init (wsX2_init) := ggX8_init_X2_init
set_option maxRecDepth 20000 in
theorem ggX8_init_X1_init : GoodIn wsX8_init wsX1_init := goodIn_r _ [61, 62, 2, 3, 48, 63, 64, 65, 66, 67, 68, 69, 70, 117, 118, 119, 120, 121, 122, 123, 124, 125] (by decide +kernel) (by decide +kernel)
set_option maxRecDepth 20000 in
theorem gX8_init_X1_init : GoodIn wsX8_init (wsX1_init) := ggX8_init_X1_init
set_option maxRecDepth 20000 in
theorem ggX8_init_X3_init : GoodIn wsX8_init wsX3_init := goodIn_r _ [73, 74, 2, 3, 48, 75, 76, 77, 126, 127, 128, 129] (by decide +kernel) (by decide +kernel)
set_option maxRecDepth 20000 in
theorem gX8_init_X3_init : GoodIn wsX8_init (wsX3_init) := ggX8_init_X3_init
set_option maxRecDepth 20000 in
theorem ggX8_init_X0_init : GoodIn wsX8_init wsX0_init := goodIn_r _ [80, 81, 2, 3, 48, 82, 83, 84, 85, 86, 87, 130, 131, 132, 133, 134, 135, 136, 137] (by decide +kernel) (by decide +kernel)
set_option maxRecDepth 20000 in
theorem gX8_init_X0_init : GoodIn wsX8_init (wsX0_init) := ggX8_init_X0_init
set_option maxRecDepth 20000 in
theorem ggX8_init_X7_init : GoodIn wsX8_init wsX7_init := goodIn_r _ [90, 91, 2, 3, 48, 92, 93, 94, 95, 96, 138, 139, 140, 141, 142, 143] (by decide +kernel) (by decide +kernel)
set_option maxRecDepth 20000 in
theorem gX8_init_X7_init : GoodIn wsX8_init (wsX7_init) := ggX8_init_X7_init
set_option maxRecDepth 20000 in
theorem ggX8_init_X4_init : GoodIn wsX8_init wsX4_init := goodIn_r _ [98, 99, 2, 3, 100, 48, 101, 144, 145, 146] (by decide +kernel) (by decide +kernel)
set_option maxRecDepth 20000 in
theorem gX8_init_X4_init_n67 : GoodIn wsX8_init (wsX4_init) := ggX8_init_X4_init
set_option maxRecDepth 20000 in
theorem ggX8_feed_X5_append : GoodIn wsX8_feed wsX5_append := goodIn_r _ [7, 8, 9, 17, 18] (by decide +kernel) (by decide +kernel)
set_option maxRecDepth 20000 in
theorem gX8_feed_X5_append : GoodIn wsX8_feed (wsV RX8 72 RX5 yX5_append wsX5_append) := goodIn_app (goodIn_of _ (by decide +kernel)) ggX8_feed_X5_append
set_option maxRecDepth 20000 in
theorem ggX8_laws_X2_readTape : GoodIn wsX8_laws wsX2_readTape := goodIn_r _ [8, 9, 10, 11, 12, 13, 14, 15, 16, 17, 18, 19, 20, 21, 22, 23, 24, 25, 26, 27, 28, 29, 30, 31, 32, 33, 34, 35, 36, 37, 38, 39, 40, 41, 42, 43, 44, 45, 46, 47, 48, 49, 50, 51, 52, 53, 54, 55, 56, 57, 58, 59, 60, 61, 62, 63, 64, 65, 66, 67, 68, 69, 70, 71, 72, 73, 74, 75, 76, 77, 78, 79, 80, 81, 82, 83, 84, 85, 86, 87, 88, 89, 90, 91, 92, 93, 94, 95, 96, 97, 98, 99, 100, 101, 102, 103, 7, 104, 105, 106, 107, 108, 109, 110, 111, 112, 113, 114, 115, 116, 117, 118, 119, 120, 121, 122, 123, 124, 125, 126, 127, 137, 138, 139, 140, 141, 142, 143, 144, 145, 146, 147, 135, 136] (by decide +kernel) (by decide +kernel)
set_option maxRecDepth 20000 in
theorem gX8_laws_X2_readTape : GoodIn wsX8_laws (wsV RX8 76 RX2 yX2_readTape wsX2_readTape) := goodIn_app (goodIn_of _ (by decide +kernel)) ggX8_laws_X2_readTape
set_option maxRecDepth 20000 in
theorem ggX8_law_X8_isWithin : GoodIn wsX8_law wsX8_isWithin := goodIn_r _ [6] (by decide +kernel) (by decide +kernel)
set_option maxRecDepth 20000 in
theorem gX8_law_X8_isWithin : GoodIn wsX8_law (va_wsS RX8 83 yX8_isWithin wsX8_isWithin) := goodIn_app (goodIn_of _ (by decide +kernel)) ggX8_law_X8_isWithin
set_option maxRecDepth 20000 in
theorem ggX8_thing_X8_isWithin : GoodIn wsX8_thing wsX8_isWithin := goodIn_r _ [6] (by decide +kernel) (by decide +kernel)
set_option maxRecDepth 20000 in
theorem gX8_thing_X8_isWithin : GoodIn wsX8_thing (va_wsS RX8 83 yX8_isWithin wsX8_isWithin) := goodIn_app (goodIn_of _ (by decide +kernel)) ggX8_thing_X8_isWithin
set_option maxRecDepth 20000 in
theorem ggX8_thing_X1_addThing : GoodIn wsX8_thing wsX1_addThing := goodIn_r _ [11, 12, 13, 14, 15, 16, 17, 18, 26, 27, 28, 29, 30, 31, 32, 33, 34] (by decide +kernel) (by decide +kernel)
set_option maxRecDepth 20000 in
theorem gX8_thing_X1_addThing : GoodIn wsX8_thing (wsV RX8 97 RX1 yX1_addThing wsX1_addThing) := goodIn_app (goodIn_of _ (by decide +kernel)) ggX8_thing_X1_addThing
set_option maxRecDepth 20000 in
theorem ggX8_worth_X1_hasHeir : GoodIn wsX8_worth wsX1_hasHeir := goodIn_r _ [7, 8, 25, 26, 27, 28, 29, 30, 31, 32, 33] (by decide +kernel) (by decide +kernel)
set_option maxRecDepth 20000 in
theorem gX8_worth_X1_hasHeir : GoodIn wsX8_worth (wsV RX8 101 RX1 yX1_hasHeir wsX1_hasHeir) := goodIn_app (goodIn_of _ (by decide +kernel)) ggX8_worth_X1_hasHeir
set_option maxRecDepth 20000 in
theorem ggX8_worth_X1_hasThing : GoodIn wsX8_worth wsX1_hasThing := goodIn_r _ [12, 13, 25, 26, 27, 28, 29, 30, 31, 32, 33] (by decide +kernel) (by decide +kernel)
set_option maxRecDepth 20000 in
theorem gX8_worth_X1_hasThing : GoodIn wsX8_worth (wsV RX8 105 RX1 yX1_hasThing wsX1_hasThing) := goodIn_app (goodIn_of _ (by decide +kernel)) ggX8_worth_X1_hasThing
set_option maxRecDepth 20000 in
theorem ggX8_worth_X8_isWithin : GoodIn wsX8_worth wsX8_isWithin := goodIn_r _ [17] (by decide +kernel) (by decide +kernel)
set_option maxRecDepth 20000 in
theorem gX8_worth_X8_isWithin : GoodIn wsX8_worth (va_wsS RX8 83 yX8_isWithin wsX8_isWithin) := goodIn_app (goodIn_of _ (by decide +kernel)) ggX8_worth_X8_isWithin
set_option maxRecDepth 20000 in
theorem ggX8_look_X1_hasThing : GoodIn wsX8_look wsX1_hasThing := goodIn_r _ [8, 9, 17, 18, 19, 20, 21, 22, 23, 24, 25] (by decide +kernel) (by decide +kernel)
set_option maxRecDepth 20000 in
theorem gX8_look_X1_hasThing : GoodIn wsX8_look (wsV RX8 105 RX1 yX1_hasThing wsX1_hasThing) := goodIn_app (goodIn_of _ (by decide +kernel)) ggX8_look_X1_hasThing
set_option maxRecDepth 20000 in
theorem ggX8_told_X1_hasThing : GoodIn wsX8_told wsX1_hasThing := goodIn_r _ [11, 12, 43, 44, 45, 46, 47, 48, 49, 50, 51] (by decide +kernel) (by decide +kernel)
set_option maxRecDepth 20000 in
theorem gX8_told_X1_hasThing : GoodIn wsX8_told (wsV RX8 105 RX1 yX1_hasThing wsX1_hasThing) := goodIn_app (goodIn_of _ (by decide +kernel)) ggX8_told_X1_hasThing
set_option maxRecDepth 20000 in
theorem ggX8_told_X1_wayOf : GoodIn wsX8_told wsX1_wayOf := goodIn_r _ [16, 17, 18, 19, 20, 21, 22, 10, 23, 24, 25, 26, 27, 28, 29, 30, 31, 32, 33, 34, 35, 43, 44, 45, 46, 47, 48, 49, 50, 51, 52, 53, 54, 55, 56, 57] (by decide +kernel) (by decide +kernel)
set_option maxRecDepth 20000 in
theorem gX8_told_X1_wayOf : GoodIn wsX8_told (wsV RX8 127 RX1 yX1_wayOf wsX1_wayOf) := goodIn_app (goodIn_of _ (by decide +kernel)) ggX8_told_X1_wayOf
set_option maxRecDepth 20000 in
theorem ggX8_way_X8_isWithin : GoodIn wsX8_way wsX8_isWithin := goodIn_r _ [8] (by decide +kernel) (by decide +kernel)
set_option maxRecDepth 20000 in
theorem gX8_way_X8_isWithin : GoodIn wsX8_way (va_wsS RX8 83 yX8_isWithin wsX8_isWithin) := goodIn_app (goodIn_of _ (by decide +kernel)) ggX8_way_X8_isWithin
set_option maxRecDepth 20000 in
theorem ggX8_way_X1_countOnWay : GoodIn wsX8_way wsX1_countOnWay := goodIn_r _ [13, 14, 15, 16, 17, 12, 18, 19, 20, 21, 22, 23, 24, 25, 26, 27, 28, 29, 30, 31, 32, 33, 34, 35, 36, 37, 49, 50, 51, 52, 53, 54, 55, 56, 57, 58, 59, 60, 61, 62, 63] (by decide +kernel) (by decide +kernel)
set_option maxRecDepth 20000 in
theorem gX8_way_X1_countOnWay : GoodIn wsX8_way (wsV RX8 131 RX1 yX1_countOnWay wsX1_countOnWay) := goodIn_app (goodIn_of _ (by decide +kernel)) ggX8_way_X1_countOnWay
set_option maxRecDepth 20000 in
theorem ggX8_way_X1_sumOnWay : GoodIn wsX8_way wsX1_sumOnWay := goodIn_r _ [41, 14, 15, 16, 17, 12, 18, 19, 20, 21, 22, 23, 24, 25, 26, 27, 28, 29, 30, 31, 32, 33, 34, 35, 36, 37, 49, 50, 51, 52, 53, 54, 55, 56, 57, 58, 59, 60, 61, 62, 63] (by decide +kernel) (by decide +kernel)
set_option maxRecDepth 20000 in
theorem gX8_way_X1_sumOnWay : GoodIn wsX8_way (wsV RX8 134 RX1 yX1_sumOnWay wsX1_sumOnWay) := goodIn_app (goodIn_of _ (by decide +kernel)) ggX8_way_X1_sumOnWay
set_option maxRecDepth 20000 in
theorem ggX8_asks_X1_hasThing : GoodIn wsX8_asks wsX1_hasThing := goodIn_r _ [6, 7, 37, 38, 39, 40, 41, 42, 43, 44, 45] (by decide +kernel) (by decide +kernel)
set_option maxRecDepth 20000 in
theorem gX8_asks_X1_hasThing : GoodIn wsX8_asks (wsV RX8 105 RX1 yX1_hasThing wsX1_hasThing) := goodIn_app (goodIn_of _ (by decide +kernel)) ggX8_asks_X1_hasThing
set_option maxRecDepth 20000 in
theorem ggX8_asks_X1_secondLook : GoodIn wsX8_asks wsX1_secondLook := goodIn_r _ [11, 12, 13, 14, 15, 16, 17, 18, 19, 20, 21, 22, 5, 23, 24, 25, 26, 27, 28, 29, 37, 38, 39, 40, 41, 42, 43, 44, 45, 46, 47, 48, 49, 50, 51] (by decide +kernel) (by decide +kernel)
set_option maxRecDepth 20000 in
theorem gX8_asks_X1_secondLook : GoodIn wsX8_asks (wsV RX8 138 RX1 yX1_secondLook wsX1_secondLook) := goodIn_app (goodIn_of _ (by decide +kernel)) ggX8_asks_X1_secondLook
set_option maxRecDepth 20000 in
theorem ggX8_turns_X8_isRule : GoodIn wsX8_turns wsX8_isRule := goodIn_r _ [7] (by decide +kernel) (by decide +kernel)
set_option maxRecDepth 20000 in
theorem gX8_turns_X8_isRule : GoodIn wsX8_turns (va_wsS RX8 141 yX8_isRule wsX8_isRule) := goodIn_app (goodIn_of _ (by decide +kernel)) ggX8_turns_X8_isRule
set_option maxRecDepth 20000 in
theorem ggX8_turns_X3_gather : GoodIn wsX8_turns wsX3_gather := goodIn_r _ [12, 13, 14, 15, 16, 17, 18, 19, 20, 21, 22, 23, 24, 25, 26, 27, 28, 29, 30, 31, 32, 33, 34, 35, 36, 37, 38, 39, 40, 80, 81, 82, 83, 71, 72, 73, 74, 75, 76, 77, 78, 79, 84, 85, 86, 87, 88, 89] (by decide +kernel) (by decide +kernel)
set_option maxRecDepth 20000 in
theorem gX8_turns_X3_gather : GoodIn wsX8_turns (wsV RX8 144 RX3 yX3_gather wsX3_gather) := goodIn_app (goodIn_of _ (by decide +kernel)) ggX8_turns_X3_gather
set_option maxRecDepth 20000 in
theorem ggX8_turns_X3_takeTurns : GoodIn wsX8_turns wsX3_takeTurns := goodIn_r _ [44, 45, 46, 47, 11, 48, 13, 49, 16, 14, 50, 51, 52, 53, 54, 55, 56, 57, 58, 59, 80, 81, 82, 83, 71, 72, 73, 74, 75, 76, 77, 78, 79] (by decide +kernel) (by decide +kernel)
set_option maxRecDepth 20000 in
theorem gX8_turns_X3_takeTurns : GoodIn wsX8_turns (wsV RX8 147 RX3 yX3_takeTurns wsX3_takeTurns) := goodIn_app (goodIn_of _ (by decide +kernel)) ggX8_turns_X3_takeTurns
set_option maxRecDepth 20000 in
theorem ggX8_turns_X3_number : GoodIn wsX8_turns wsX3_number := goodIn_r _ [63, 13, 14, 55, 49, 80, 81, 82, 83, 71, 72, 73, 74, 75, 76, 77, 78, 79] (by decide +kernel) (by decide +kernel)
set_option maxRecDepth 20000 in
theorem gX8_turns_X3_number : GoodIn wsX8_turns (wsV RX8 151 RX3 yX3_number wsX3_number) := goodIn_app (goodIn_of _ (by decide +kernel)) ggX8_turns_X3_number
set_option maxRecDepth 20000 in
theorem ggX8_lie_X8_isRule : GoodIn wsX8_lie wsX8_isRule := goodIn_r _ [6] (by decide +kernel) (by decide +kernel)
set_option maxRecDepth 20000 in
theorem gX8_lie_X8_isRule : GoodIn wsX8_lie (va_wsS RX8 141 yX8_isRule wsX8_isRule) := goodIn_app (goodIn_of _ (by decide +kernel)) ggX8_lie_X8_isRule
set_option maxRecDepth 20000 in
theorem ggX8_lie_X1_hasHeir : GoodIn wsX8_lie wsX1_hasHeir := goodIn_r _ [11, 12, 78, 79, 80, 81, 82, 83, 84, 85, 86] (by decide +kernel) (by decide +kernel)
set_option maxRecDepth 20000 in
theorem gX8_lie_X1_hasHeir : GoodIn wsX8_lie (wsV RX8 101 RX1 yX1_hasHeir wsX1_hasHeir) := goodIn_app (goodIn_of _ (by decide +kernel)) ggX8_lie_X1_hasHeir
set_option maxRecDepth 20000 in
theorem ggX8_lie_X1_hasThing : GoodIn wsX8_lie wsX1_hasThing := goodIn_r _ [16, 17, 78, 79, 80, 81, 82, 83, 84, 85, 86] (by decide +kernel) (by decide +kernel)
set_option maxRecDepth 20000 in
theorem gX8_lie_X1_hasThing : GoodIn wsX8_lie (wsV RX8 105 RX1 yX1_hasThing wsX1_hasThing) := goodIn_app (goodIn_of _ (by decide +kernel)) ggX8_lie_X1_hasThing
set_option maxRecDepth 20000 in
theorem ggX8_lie_X8_isWithin : GoodIn wsX8_lie wsX8_isWithin := goodIn_r _ [20] (by decide +kernel) (by decide +kernel)
set_option maxRecDepth 20000 in
theorem gX8_lie_X8_isWithin : GoodIn wsX8_lie (va_wsS RX8 83 yX8_isWithin wsX8_isWithin) := goodIn_app (goodIn_of _ (by decide +kernel)) ggX8_lie_X8_isWithin
set_option maxRecDepth 20000 in
theorem ggX8_lie_X3_gather : GoodIn wsX8_lie wsX3_gather := goodIn_r _ [25, 26, 27, 28, 29, 30, 31, 32, 10, 33, 34, 35, 36, 37, 38, 39, 40, 41, 42, 43, 44, 45, 46, 47, 48, 49, 50, 12, 51, 87, 88, 89, 90, 78, 79, 80, 81, 82, 83, 84, 85, 86, 91, 92, 93, 94, 95, 96] (by decide +kernel) (by decide +kernel)
set_option maxRecDepth 20000 in
theorem gX8_lie_X3_gather : GoodIn wsX8_lie (wsV RX8 144 RX3 yX3_gather wsX3_gather) := goodIn_app (goodIn_of _ (by decide +kernel)) ggX8_lie_X3_gather
set_option maxRecDepth 20000 in
theorem ggX8_lie_X3_takeTurnsWithLie : GoodIn wsX8_lie wsX3_takeTurnsWithLie := goodIn_r _ [55, 26, 56, 29, 27, 57, 58, 59, 60, 24, 61, 62, 63, 64, 65, 66, 87, 88, 89, 90, 78, 79, 80, 81, 82, 83, 84, 85, 86] (by decide +kernel) (by decide +kernel)
set_option maxRecDepth 20000 in
theorem gX8_lie_X3_takeTurnsWithLie : GoodIn wsX8_lie (wsV RX8 154 RX3 yX3_takeTurnsWithLie wsX3_takeTurnsWithLie) := goodIn_app (goodIn_of _ (by decide +kernel)) ggX8_lie_X3_takeTurnsWithLie
set_option maxRecDepth 20000 in
theorem ggX8_lie_X3_number : GoodIn wsX8_lie wsX3_number := goodIn_r _ [70, 26, 27, 62, 56, 87, 88, 89, 90, 78, 79, 80, 81, 82, 83, 84, 85, 86] (by decide +kernel) (by decide +kernel)
set_option maxRecDepth 20000 in
theorem gX8_lie_X3_number : GoodIn wsX8_lie (wsV RX8 151 RX3 yX3_number wsX3_number) := goodIn_app (goodIn_of _ (by decide +kernel)) ggX8_lie_X3_number
set_option maxRecDepth 20000 in
theorem ggX8_gain_X8_isRule : GoodIn wsX8_gain wsX8_isRule := goodIn_r _ [6] (by decide +kernel) (by decide +kernel)
set_option maxRecDepth 20000 in
theorem gX8_gain_X8_isRule : GoodIn wsX8_gain (va_wsS RX8 141 yX8_isRule wsX8_isRule) := goodIn_app (goodIn_of _ (by decide +kernel)) ggX8_gain_X8_isRule
set_option maxRecDepth 20000 in
theorem ggX8_gain_X1_hasHeir : GoodIn wsX8_gain wsX1_hasHeir := goodIn_r _ [11, 12, 82, 83, 84, 85, 86, 87, 88, 89, 90] (by decide +kernel) (by decide +kernel)
set_option maxRecDepth 20000 in
theorem gX8_gain_X1_hasHeir : GoodIn wsX8_gain (wsV RX8 101 RX1 yX1_hasHeir wsX1_hasHeir) := goodIn_app (goodIn_of _ (by decide +kernel)) ggX8_gain_X1_hasHeir
set_option maxRecDepth 20000 in
theorem ggX8_gain_X3_gather : GoodIn wsX8_gain wsX3_gather := goodIn_r _ [17, 18, 19, 20, 21, 22, 23, 24, 10, 25, 26, 27, 28, 29, 30, 31, 32, 33, 34, 35, 36, 37, 38, 39, 40, 41, 42, 12, 43, 91, 92, 93, 94, 82, 83, 84, 85, 86, 87, 88, 89, 90, 95, 96, 97, 98, 99, 100] (by decide +kernel) (by decide +kernel)
set_option maxRecDepth 20000 in
theorem gX8_gain_X3_gather : GoodIn wsX8_gain (wsV RX8 144 RX3 yX3_gather wsX3_gather) := goodIn_app (goodIn_of _ (by decide +kernel)) ggX8_gain_X3_gather
set_option maxRecDepth 20000 in
theorem ggX8_gain_X3_mostByLying : GoodIn wsX8_gain wsX3_mostByLying := goodIn_r _ [47, 18, 21, 48, 49, 50, 51, 52, 53, 54, 16, 55, 56, 57, 58, 59, 60, 19, 61, 62, 63, 64, 65, 66, 67, 68, 69, 70, 71, 72, 73, 74, 91, 92, 93, 94, 82, 83, 84, 85, 86, 87, 88, 89, 90] (by decide +kernel) (by decide +kernel)
set_option maxRecDepth 20000 in
theorem gX8_gain_X3_mostByLying : GoodIn wsX8_gain (wsV RX8 158 RX3 yX3_mostByLying wsX3_mostByLying) := goodIn_app (goodIn_of _ (by decide +kernel)) ggX8_gain_X3_mostByLying
set_option maxRecDepth 20000 in
theorem ggX8_sum_X1_hasHeir : GoodIn wsX8_sum wsX1_hasHeir := goodIn_r _ [7, 8, 58, 59, 60, 61, 62, 63, 64, 65, 66] (by decide +kernel) (by decide +kernel)
set_option maxRecDepth 20000 in
theorem gX8_sum_X1_hasHeir : GoodIn wsX8_sum (wsV RX8 101 RX1 yX1_hasHeir wsX1_hasHeir) := goodIn_app (goodIn_of _ (by decide +kernel)) ggX8_sum_X1_hasHeir
set_option maxRecDepth 20000 in
theorem ggX8_sum_X3_readNumber : GoodIn wsX8_sum wsX3_readNumber := goodIn_r _ [13, 14, 15, 16, 17, 18, 19, 20, 12, 21, 22, 23, 24, 25, 26, 6, 27, 28, 29, 30, 31, 32, 33, 34, 35, 36, 37, 38, 39, 40, 41, 42, 43, 44, 8, 45, 67, 68, 69, 70, 58, 59, 60, 61, 62, 63, 64, 65, 66, 71, 72, 73, 74, 75, 76] (by decide +kernel) (by decide +kernel)
set_option maxRecDepth 20000 in
theorem gX8_sum_X3_readNumber : GoodIn wsX8_sum (wsV RX8 162 RX3 yX3_readNumber wsX3_readNumber) := goodIn_app (goodIn_of _ (by decide +kernel)) ggX8_sum_X3_readNumber
set_option maxRecDepth 20000 in
theorem ggX8_sum_X3_sumOf : GoodIn wsX8_sum wsX3_sumOf := goodIn_r _ [49, 14, 17, 15, 50, 23, 67, 68, 69, 70, 58, 59, 60, 61, 62, 63, 64, 65, 66] (by decide +kernel) (by decide +kernel)
set_option maxRecDepth 20000 in
theorem gX8_sum_X3_sumOf : GoodIn wsX8_sum (wsV RX8 165 RX3 yX3_sumOf wsX3_sumOf) := goodIn_app (goodIn_of _ (by decide +kernel)) ggX8_sum_X3_sumOf
set_option maxRecDepth 20000 in
theorem ggX8_envies_X1_hasHeir : GoodIn wsX8_envies wsX1_hasHeir := goodIn_r _ [7, 8, 70, 71, 72, 73, 74, 75, 76, 77, 78] (by decide +kernel) (by decide +kernel)
set_option maxRecDepth 20000 in
theorem gX8_envies_X1_hasHeir : GoodIn wsX8_envies (wsV RX8 101 RX1 yX1_hasHeir wsX1_hasHeir) := goodIn_app (goodIn_of _ (by decide +kernel)) ggX8_envies_X1_hasHeir
set_option maxRecDepth 20000 in
theorem ggX8_envies_X3_readNumber : GoodIn wsX8_envies wsX3_readNumber := goodIn_r _ [13, 14, 15, 16, 17, 18, 19, 20, 12, 21, 22, 23, 24, 25, 26, 6, 27, 28, 29, 30, 31, 32, 33, 34, 35, 36, 37, 38, 39, 40, 41, 42, 43, 44, 8, 45, 79, 80, 81, 82, 70, 71, 72, 73, 74, 75, 76, 77, 78, 83, 84, 85, 86, 87, 88] (by decide +kernel) (by decide +kernel)
set_option maxRecDepth 20000 in
theorem gX8_envies_X3_readNumber : GoodIn wsX8_envies (wsV RX8 162 RX3 yX3_readNumber wsX3_readNumber) := goodIn_app (goodIn_of _ (by decide +kernel)) ggX8_envies_X3_readNumber
set_option maxRecDepth 20000 in
theorem ggX8_envies_X3_envyOf : GoodIn wsX8_envies wsX3_envyOf := goodIn_r _ [49, 50, 51, 52, 12, 53, 14, 17, 15, 54, 23, 55, 56, 57, 58, 59, 60, 61, 62, 79, 80, 81, 82, 70, 71, 72, 73, 74, 75, 76, 77, 78] (by decide +kernel) (by decide +kernel)
set_option maxRecDepth 20000 in
theorem gX8_envies_X3_envyOf : GoodIn wsX8_envies (wsV RX8 168 RX3 yX3_envyOf wsX3_envyOf) := goodIn_app (goodIn_of _ (by decide +kernel)) ggX8_envies_X3_envyOf
set_option maxRecDepth 20000 in
theorem ggX8_envy_X3_readNumber : GoodIn wsX8_envy wsX3_readNumber := goodIn_r _ [6, 7, 8, 9, 10, 11, 12, 13, 5, 14, 15, 16, 17, 18, 19, 20, 21, 22, 23, 24, 25, 26, 27, 28, 29, 30, 31, 32, 33, 34, 35, 36, 37, 38, 39, 40, 69, 70, 71, 72, 73, 74, 75, 76, 77, 78, 79, 80, 81, 82, 83, 84, 85, 86, 87] (by decide +kernel) (by decide +kernel)
set_option maxRecDepth 20000 in
theorem gX8_envy_X3_readNumber : GoodIn wsX8_envy (wsV RX8 162 RX3 yX3_readNumber wsX3_readNumber) := goodIn_app (goodIn_of _ (by decide +kernel)) ggX8_envy_X3_readNumber
set_option maxRecDepth 20000 in
theorem ggX8_envy_X3_envyPairs : GoodIn wsX8_envy wsX3_envyPairs := goodIn_r _ [44, 8, 9, 45, 46, 47, 5, 48, 49, 50, 51, 52, 7, 10, 53, 16, 54, 55, 56, 57, 58, 59, 60, 61, 69, 70, 71, 72, 73, 74, 75, 76, 77, 78, 79, 80, 81] (by decide +kernel) (by decide +kernel)
set_option maxRecDepth 20000 in
theorem gX8_envy_X3_envyPairs : GoodIn wsX8_envy (wsV RX8 171 RX3 yX3_envyPairs wsX3_envyPairs) := goodIn_app (goodIn_of _ (by decide +kernel)) ggX8_envy_X3_envyPairs
set_option maxRecDepth 20000 in
theorem ggX8_fairest_X3_gather : GoodIn wsX8_fairest wsX3_gather := goodIn_r _ [10, 11, 12, 13, 14, 15, 16, 17, 18, 19, 20, 21, 22, 23, 24, 25, 26, 27, 28, 29, 30, 31, 32, 33, 34, 35, 36, 37, 38, 91, 92, 93, 94, 82, 83, 84, 85, 86, 87, 88, 89, 90, 95, 96, 97, 98, 99, 100] (by decide +kernel) (by decide +kernel)
set_option maxRecDepth 20000 in
theorem gX8_fairest_X3_gather : GoodIn wsX8_fairest (wsV RX8 144 RX3 yX3_gather wsX3_gather) := goodIn_app (goodIn_of _ (by decide +kernel)) ggX8_fairest_X3_gather
set_option maxRecDepth 20000 in
theorem ggX8_fairest_X0_bestNumber : GoodIn wsX8_fairest wsX0_bestNumber := goodIn_r _ [43, 44, 45, 46, 47, 48, 49, 50, 51, 52, 53, 54, 55, 56, 57, 58, 59, 60, 61, 18, 62, 37, 38, 63, 64, 42, 65, 66, 67, 68, 69, 70, 71, 72, 73, 74, 101, 102, 103, 104, 105, 106, 107, 108, 91, 92, 93, 94, 82, 83, 84, 85, 86, 87, 88, 89, 90] (by decide +kernel) (by decide +kernel)
set_option maxRecDepth 20000 in
theorem gX8_fairest_X0_bestNumber : GoodIn wsX8_fairest (wsV RX8 177 RX0 yX0_bestNumber wsX0_bestNumber) := goodIn_app (goodIn_of _ (by decide +kernel)) ggX8_fairest_X0_bestNumber
set_option maxRecDepth 20000 in
theorem ggX8_bid_X1_hasThing : GoodIn wsX8_bid wsX1_hasThing := goodIn_r _ [7, 8, 43, 44, 45, 46, 47, 48, 49, 50, 51] (by decide +kernel) (by decide +kernel)
set_option maxRecDepth 20000 in
theorem gX8_bid_X1_hasThing : GoodIn wsX8_bid (wsV RX8 105 RX1 yX1_hasThing wsX1_hasThing) := goodIn_app (goodIn_of _ (by decide +kernel)) ggX8_bid_X1_hasThing
set_option maxRecDepth 20000 in
theorem ggX8_bid_X1_wayOf : GoodIn wsX8_bid wsX1_wayOf := goodIn_r _ [12, 13, 14, 15, 16, 17, 18, 6, 19, 20, 21, 22, 23, 24, 25, 26, 27, 28, 29, 30, 31, 43, 44, 45, 46, 47, 48, 49, 50, 51, 52, 53, 54, 55, 56, 57] (by decide +kernel) (by decide +kernel)
set_option maxRecDepth 20000 in
theorem gX8_bid_X1_wayOf : GoodIn wsX8_bid (wsV RX8 127 RX1 yX1_wayOf wsX1_wayOf) := goodIn_app (goodIn_of _ (by decide +kernel)) ggX8_bid_X1_wayOf
set_option maxRecDepth 20000 in
theorem ggX8_bid_X1_keenest : GoodIn wsX8_bid wsX1_keenest := goodIn_r _ [35, 30, 31, 43, 44, 45, 46, 47, 48, 49, 50, 51] (by decide +kernel) (by decide +kernel)
set_option maxRecDepth 20000 in
theorem gX8_bid_X1_keenest : GoodIn wsX8_bid (wsV RX8 180 RX1 yX1_keenest wsX1_keenest) := goodIn_app (goodIn_of _ (by decide +kernel)) ggX8_bid_X1_keenest
set_option maxRecDepth 20000 in
theorem ggX8_settled_X1_hasHeir : GoodIn wsX8_settled wsX1_hasHeir := goodIn_r _ [8, 9, 82, 83, 84, 85, 86, 87, 88, 89, 90] (by decide +kernel) (by decide +kernel)
set_option maxRecDepth 20000 in
theorem gX8_settled_X1_hasHeir : GoodIn wsX8_settled (wsV RX8 101 RX1 yX1_hasHeir wsX1_hasHeir) := goodIn_app (goodIn_of _ (by decide +kernel)) ggX8_settled_X1_hasHeir
set_option maxRecDepth 20000 in
theorem ggX8_settled_X3_gather : GoodIn wsX8_settled wsX3_gather := goodIn_r _ [14, 15, 16, 17, 18, 19, 20, 21, 7, 22, 23, 24, 25, 26, 27, 28, 29, 30, 31, 32, 33, 34, 35, 36, 37, 38, 39, 9, 40, 91, 92, 93, 94, 82, 83, 84, 85, 86, 87, 88, 89, 90, 95, 96, 97, 98, 99, 100] (by decide +kernel) (by decide +kernel)
set_option maxRecDepth 20000 in
theorem gX8_settled_X3_gather : GoodIn wsX8_settled (wsV RX8 144 RX3 yX3_gather wsX3_gather) := goodIn_app (goodIn_of _ (by decide +kernel)) ggX8_settled_X3_gather
set_option maxRecDepth 20000 in
theorem ggX8_settled_X3_giveToKeenest : GoodIn wsX8_settled wsX3_giveToKeenest := goodIn_r _ [44, 15, 45, 16, 18, 46, 47, 48, 7, 49, 9, 40, 91, 92, 93, 94, 82, 83, 84, 85, 86, 87, 88, 89, 90] (by decide +kernel) (by decide +kernel)
set_option maxRecDepth 20000 in
theorem gX8_settled_X3_giveToKeenest : GoodIn wsX8_settled (wsV RX8 184 RX3 yX3_giveToKeenest wsX3_giveToKeenest) := goodIn_app (goodIn_of _ (by decide +kernel)) ggX8_settled_X3_giveToKeenest
set_option maxRecDepth 20000 in
theorem ggX8_settled_X3_sumOf : GoodIn wsX8_settled wsX3_sumOf := goodIn_r _ [53, 15, 45, 16, 54, 18, 91, 92, 93, 94, 82, 83, 84, 85, 86, 87, 88, 89, 90] (by decide +kernel) (by decide +kernel)
set_option maxRecDepth 20000 in
theorem gX8_settled_X3_sumOf : GoodIn wsX8_settled (wsV RX8 165 RX3 yX3_sumOf wsX3_sumOf) := goodIn_app (goodIn_of _ (by decide +kernel)) ggX8_settled_X3_sumOf
set_option maxRecDepth 20000 in
theorem ggX8_settled_X3_claimOf : GoodIn wsX8_settled wsX3_claimOf := goodIn_r _ [58, 15, 16, 54, 18, 59, 60, 61, 62, 63, 91, 92, 93, 94, 82, 83, 84, 85, 86, 87, 88, 89, 90] (by decide +kernel) (by decide +kernel)
set_option maxRecDepth 20000 in
theorem gX8_settled_X3_claimOf : GoodIn wsX8_settled (wsV RX8 187 RX3 yX3_claimOf wsX3_claimOf) := goodIn_app (goodIn_of _ (by decide +kernel)) ggX8_settled_X3_claimOf
set_option maxRecDepth 20000 in
theorem ggX8_settled_X3_paymentOf : GoodIn wsX8_settled wsX3_paymentOf := goodIn_r _ [67, 68, 51, 52, 13, 53, 15, 45, 16, 54, 18, 69, 56, 57, 58, 59, 60, 61, 62, 63, 91, 92, 93, 94, 82, 83, 84, 85, 86, 87, 88, 89, 90] (by decide +kernel) (by decide +kernel)
set_option maxRecDepth 20000 in
theorem gX8_settled_X3_paymentOf : GoodIn wsX8_settled (wsV RX8 190 RX3 yX3_paymentOf wsX3_paymentOf) := goodIn_app (goodIn_of _ (by decide +kernel)) ggX8_settled_X3_paymentOf
set_option maxRecDepth 20000 in
theorem ggX8_settled_X3_partOfRest : GoodIn wsX8_settled wsX3_partOfRest := goodIn_r _ [73, 16, 59, 60, 61, 62, 63, 74, 65, 66, 13, 67, 68, 51, 52, 53, 15, 45, 54, 18, 69, 56, 57, 58, 91, 92, 93, 94, 82, 83, 84, 85, 86, 87, 88, 89, 90] (by decide +kernel) (by decide +kernel)
set_option maxRecDepth 20000 in
theorem gX8_settled_X3_partOfRest : GoodIn wsX8_settled (wsV RX8 193 RX3 yX3_partOfRest wsX3_partOfRest) := goodIn_app (goodIn_of _ (by decide +kernel)) ggX8_settled_X3_partOfRest
set_option maxRecDepth 20000 in
theorem ggX8_loads_X8_isWithin : GoodIn wsX8_loads wsX8_isWithin := goodIn_r _ [5] (by decide +kernel) (by decide +kernel)
set_option maxRecDepth 20000 in
theorem gX8_loads_X8_isWithin : GoodIn wsX8_loads (va_wsS RX8 83 yX8_isWithin wsX8_isWithin) := goodIn_app (goodIn_of _ (by decide +kernel)) ggX8_loads_X8_isWithin
set_option maxRecDepth 20000 in
theorem ggX8_loads_X7_fewest : GoodIn wsX8_loads wsX7_fewest := goodIn_r _ [10, 11, 12, 13, 14, 15, 16, 17, 18, 19, 9, 20, 21, 22, 23, 24, 25, 26, 27, 28, 29, 30, 31, 32, 33, 34, 35, 36, 37, 38, 39, 40, 41, 42, 43, 44, 45, 46, 47, 48, 49, 50, 51, 52, 53, 54, 55, 56, 57, 58, 66, 67, 68, 69, 70, 71, 72, 73, 74, 75, 76, 77, 78, 79, 80, 81, 82, 83, 84, 85, 86] (by decide +kernel) (by decide +kernel)
set_option maxRecDepth 20000 in
theorem gX8_loads_X7_fewest : GoodIn wsX8_loads (wsV RX8 196 RX7 yX7_fewest wsX7_fewest) := goodIn_app (goodIn_of _ (by decide +kernel)) ggX8_loads_X7_fewest
set_option maxRecDepth 20000 in
theorem ggX8_load_X1_hasThing : GoodIn wsX8_load wsX1_hasThing := goodIn_r _ [7, 8, 73, 74, 75, 76, 77, 78, 79, 80, 81] (by decide +kernel) (by decide +kernel)
set_option maxRecDepth 20000 in
theorem gX8_load_X1_hasThing : GoodIn wsX8_load (wsV RX8 105 RX1 yX1_hasThing wsX1_hasThing) := goodIn_app (goodIn_of _ (by decide +kernel)) ggX8_load_X1_hasThing
set_option maxRecDepth 20000 in
theorem ggX8_load_X1_wayOf : GoodIn wsX8_load wsX1_wayOf := goodIn_r _ [12, 13, 14, 15, 16, 17, 18, 6, 19, 20, 21, 22, 23, 24, 25, 26, 27, 28, 29, 30, 31, 73, 74, 75, 76, 77, 78, 79, 80, 81, 82, 83, 84, 85, 86, 87] (by decide +kernel) (by decide +kernel)
set_option maxRecDepth 20000 in
theorem gX8_load_X1_wayOf : GoodIn wsX8_load (wsV RX8 127 RX1 yX1_wayOf wsX1_wayOf) := goodIn_app (goodIn_of _ (by decide +kernel)) ggX8_load_X1_wayOf
set_option maxRecDepth 20000 in
theorem ggX8_load_X7_fewest : GoodIn wsX8_load wsX7_fewest := goodIn_r _ [36, 37, 38, 39, 40, 41, 42, 43, 44, 45, 35, 46, 47, 48, 49, 10, 11, 6, 12, 13, 14, 15, 16, 17, 18, 19, 20, 21, 22, 23, 24, 25, 26, 27, 28, 29, 30, 31, 50, 51, 52, 53, 54, 55, 56, 57, 58, 59, 60, 61, 88, 89, 90, 91, 92, 93, 82, 83, 84, 85, 86, 87, 73, 74, 75, 76, 77, 78, 79, 80, 81] (by decide +kernel) (by decide +kernel)
set_option maxRecDepth 20000 in
theorem gX8_load_X7_fewest : GoodIn wsX8_load (wsV RX8 196 RX7 yX7_fewest wsX7_fewest) := goodIn_app (goodIn_of _ (by decide +kernel)) ggX8_load_X7_fewest
set_option maxRecDepth 20000 in
theorem ggX8_load_X7_loadOf : GoodIn wsX8_load wsX7_loadOf := goodIn_r _ [65, 39, 42, 53, 88, 89, 90, 91, 92, 93] (by decide +kernel) (by decide +kernel)
set_option maxRecDepth 20000 in
theorem gX8_load_X7_loadOf : GoodIn wsX8_load (wsV RX8 199 RX7 yX7_loadOf wsX7_loadOf) := goodIn_app (goodIn_of _ (by decide +kernel)) ggX8_load_X7_loadOf
set_option maxRecDepth 20000 in
theorem ggX8_sheet_X8_isWithin : GoodIn wsX8_sheet wsX8_isWithin := goodIn_r _ [5] (by decide +kernel) (by decide +kernel)
set_option maxRecDepth 20000 in
theorem gX8_sheet_X8_isWithin : GoodIn wsX8_sheet (va_wsS RX8 83 yX8_isWithin wsX8_isWithin) := goodIn_app (goodIn_of _ (by decide +kernel)) ggX8_sheet_X8_isWithin
set_option maxRecDepth 20000 in
theorem ggX8_sheet_X8_isLane : GoodIn wsX8_sheet wsX8_isLane := goodIn_r _ [8, 2, 3, 4, 5] (by decide +kernel) (by decide +kernel)
set_option maxRecDepth 20000 in
theorem gX8_sheet_X8_isLane : GoodIn wsX8_sheet (va_wsS RX8 202 yX8_isLane wsX8_isLane) := goodIn_app (goodIn_of _ (by decide +kernel)) ggX8_sheet_X8_isLane
set_option maxRecDepth 20000 in
theorem ggX8_sheet_X4_renew : GoodIn wsX8_sheet wsX4_renew := goodIn_r _ [13, 14, 15, 16, 24, 25, 26] (by decide +kernel) (by decide +kernel)
set_option maxRecDepth 20000 in
theorem gX8_sheet_X4_renew : GoodIn wsX8_sheet (wsV RX8 205 RX4 yX4_renew wsX4_renew) := goodIn_app (goodIn_of _ (by decide +kernel)) ggX8_sheet_X4_renew
set_option maxRecDepth 20000 in
theorem ggX8_lay_X8_isWithin : GoodIn wsX8_lay wsX8_isWithin := goodIn_r _ [6] (by decide +kernel) (by decide +kernel)
set_option maxRecDepth 20000 in
theorem gX8_lay_X8_isWithin : GoodIn wsX8_lay (va_wsS RX8 83 yX8_isWithin wsX8_isWithin) := goodIn_app (goodIn_of _ (by decide +kernel)) ggX8_lay_X8_isWithin
set_option maxRecDepth 20000 in
theorem ggX8_lay_X4_hasCell : GoodIn wsX8_lay wsX4_hasCell := goodIn_r _ [11, 12, 26, 27, 28] (by decide +kernel) (by decide +kernel)
set_option maxRecDepth 20000 in
theorem gX8_lay_X4_hasCell : GoodIn wsX8_lay (wsV RX8 212 RX4 yX4_hasCell wsX4_hasCell) := goodIn_app (goodIn_of _ (by decide +kernel)) ggX8_lay_X4_hasCell
set_option maxRecDepth 20000 in
theorem ggX8_lay_X4_put : GoodIn wsX8_lay wsX4_put := goodIn_r _ [16, 17, 18, 26, 27, 28] (by decide +kernel) (by decide +kernel)
set_option maxRecDepth 20000 in
theorem gX8_lay_X4_put : GoodIn wsX8_lay (wsV RX8 215 RX4 yX4_put wsX4_put) := goodIn_app (goodIn_of _ (by decide +kernel)) ggX8_lay_X4_put
set_option maxRecDepth 20000 in
theorem ggX8_worths_X1_hasHeir : GoodIn wsX8_worths wsX1_hasHeir := goodIn_r _ [8, 9, 43, 44, 45, 46, 47, 48, 49, 50, 51] (by decide +kernel) (by decide +kernel)
set_option maxRecDepth 20000 in
theorem gX8_worths_X1_hasHeir : GoodIn wsX8_worths (wsV RX8 101 RX1 yX1_hasHeir wsX1_hasHeir) := goodIn_app (goodIn_of _ (by decide +kernel)) ggX8_worths_X1_hasHeir
set_option maxRecDepth 20000 in
theorem ggX8_worths_X8_isWithin : GoodIn wsX8_worths wsX8_isWithin := goodIn_r _ [13] (by decide +kernel) (by decide +kernel)
set_option maxRecDepth 20000 in
theorem gX8_worths_X8_isWithin : GoodIn wsX8_worths (va_wsS RX8 83 yX8_isWithin wsX8_isWithin) := goodIn_app (goodIn_of _ (by decide +kernel)) ggX8_worths_X8_isWithin
set_option maxRecDepth 20000 in
theorem ggX8_worths_X8_isLane : GoodIn wsX8_worths wsX8_isLane := goodIn_r _ [16, 10, 11, 12, 13] (by decide +kernel) (by decide +kernel)
set_option maxRecDepth 20000 in
theorem gX8_worths_X8_isLane : GoodIn wsX8_worths (va_wsS RX8 202 yX8_isLane wsX8_isLane) := goodIn_app (goodIn_of _ (by decide +kernel)) ggX8_worths_X8_isLane
set_option maxRecDepth 20000 in
theorem ggX8_worths_X4_refusal : GoodIn wsX8_worths wsX4_refusal := goodIn_r _ [21, 22, 23, 24, 25, 26, 20, 27, 28, 11, 12, 13, 52, 53, 54] (by decide +kernel) (by decide +kernel)
set_option maxRecDepth 20000 in
theorem gX8_worths_X4_refusal : GoodIn wsX8_worths (wsV RX8 218 RX4 yX4_refusal wsX4_refusal) := goodIn_app (goodIn_of _ (by decide +kernel)) ggX8_worths_X4_refusal
set_option maxRecDepth 20000 in
theorem ggX8_worths_X1_takeWorths : GoodIn wsX8_worths wsX1_takeWorths := goodIn_r _ [32, 33, 34, 35, 43, 44, 45, 46, 47, 48, 49, 50, 51, 52, 53, 54] (by decide +kernel) (by decide +kernel)
set_option maxRecDepth 20000 in
theorem gX8_worths_X1_takeWorths : GoodIn wsX8_worths (wsV RX8 222 RX1 yX1_takeWorths wsX1_takeWorths) := goodIn_app (goodIn_of _ (by decide +kernel)) ggX8_worths_X1_takeWorths
set_option maxRecDepth 20000 in
theorem ggX8_count_X1_countOnWay : GoodIn wsX8_count wsX1_countOnWay := goodIn_r _ [10, 11, 12, 13, 14, 9, 15, 16, 17, 18, 19, 20, 21, 22, 23, 24, 25, 26, 27, 28, 29, 30, 31, 32, 33, 34, 42, 43, 44, 45, 46, 47, 48, 49, 50, 51, 52, 53, 54, 55, 56] (by decide +kernel) (by decide +kernel)
set_option maxRecDepth 20000 in
theorem gX8_count_X1_countOnWay : GoodIn wsX8_count (wsV RX8 131 RX1 yX1_countOnWay wsX1_countOnWay) := goodIn_app (goodIn_of _ (by decide +kernel)) ggX8_count_X1_countOnWay
set_option maxRecDepth 20000 in
theorem ggX8_isLane_X8_isWithin : GoodIn wsX8_isLane wsX8_isWithin := goodIn_r _ [4] (by decide +kernel) (by decide +kernel)
set_option maxRecDepth 20000 in
theorem gX8_isLane_X8_isWithin : GoodIn wsX8_isLane (va_wsS RX8 83 yX8_isWithin wsX8_isWithin) := goodIn_app (goodIn_of _ (by decide +kernel)) ggX8_isLane_X8_isWithin
