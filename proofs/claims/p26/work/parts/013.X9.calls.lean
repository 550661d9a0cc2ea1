set_option maxRecDepth 20000 in
theorem ggX9_end_X9_in : GoodIn wsX9_end wsX9_in := goodIn_r _ [5] (by decide +kernel) (by decide +kernel)
set_option maxRecDepth 20000 in
theorem gX9_end_X9_in : GoodIn wsX9_end (va_wsS RX9 67 yX9_in wsX9_in) := goodIn_app (goodIn_of _ (by decide +kernel)) ggX9_end_X9_in
set_option maxRecDepth 20000 in
theorem ggX9_is_X9_byteAt : GoodIn wsX9_is wsX9_byteAt := goodIn_r _ [7, 8, 9, 10, 11, 12, 13, 14, 15, 16, 17, 18, 19, 20, 21, 22, 23, 24, 25, 26, 27, 28, 29, 30, 31, 32, 33, 34, 35, 36, 37] (by decide +kernel) (by decide +kernel)
set_option maxRecDepth 20000 in
theorem gX9_is_X9_byteAt : GoodIn wsX9_is (wsV RX9 83 RX9 yX9_byteAt wsX9_byteAt) := goodIn_app (goodIn_of _ (by decide +kernel)) ggX9_is_X9_byteAt
set_option maxRecDepth 20000 in
theorem ggX9_nameNow_X9_is : GoodIn wsX9_nameNow wsX9_is := goodIn_r _ [5, 6, 7, 8, 9, 10, 4, 11, 12, 13, 14, 15, 16, 17, 18, 19, 20, 21, 22, 23, 24, 25, 26, 27, 28, 29, 30, 31, 32, 33, 34, 35, 36, 37, 38, 39, 40, 41] (by decide +kernel) (by decide +kernel)
set_option maxRecDepth 20000 in
theorem gX9_nameNow_X9_is : GoodIn wsX9_nameNow (wsV RX9 87 RX9 yX9_is wsX9_is) := goodIn_app (goodIn_of _ (by decide +kernel)) ggX9_nameNow_X9_is
set_option maxRecDepth 20000 in
theorem ggX9_next_X9_byteAt : GoodIn wsX9_next wsX9_byteAt := goodIn_r _ [13, 14, 15, 33, 34, 35, 36, 37, 38, 39, 40, 41, 42, 43, 44, 45, 46, 47, 48, 49, 50, 51, 52, 53, 54, 55, 56, 57, 58, 59, 60] (by decide +kernel) (by decide +kernel)
set_option maxRecDepth 20000 in
theorem gX9_next_X9_byteAt : GoodIn wsX9_next (wsV RX9 83 RX9 yX9_byteAt wsX9_byteAt) := goodIn_app (goodIn_of _ (by decide +kernel)) ggX9_next_X9_byteAt
set_option maxRecDepth 20000 in
theorem ggX9_next_X9_in : GoodIn wsX9_next wsX9_in := goodIn_r _ [18] (by decide +kernel) (by decide +kernel)
set_option maxRecDepth 20000 in
theorem gX9_next_X9_in : GoodIn wsX9_next (va_wsS RX9 67 yX9_in wsX9_in) := goodIn_app (goodIn_of _ (by decide +kernel)) ggX9_next_X9_in
set_option maxRecDepth 20000 in
theorem ggX9_next_X9_nameNow : GoodIn wsX9_next wsX9_nameNow := goodIn_r _ [22, 23, 24, 25, 12, 26, 1, 2, 9, 10, 11, 13, 14, 15, 33, 34, 35, 36, 37, 38, 39, 40, 41, 42, 43, 44, 45, 46, 47, 48, 49, 50, 51, 52, 53, 54, 55, 56, 57, 58, 59, 60] (by decide +kernel) (by decide +kernel)
set_option maxRecDepth 20000 in
theorem gX9_next_X9_nameNow : GoodIn wsX9_next (wsV RX9 98 RX9 yX9_nameNow wsX9_nameNow) := goodIn_app (goodIn_of _ (by decide +kernel)) ggX9_next_X9_nameNow
set_option maxRecDepth 20000 in
theorem ggX9_next_X9_fails : GoodIn wsX9_next wsX9_fails := goodIn_r _ [30, 31, 2, 32, 33, 34, 35, 36, 37, 38, 39, 40, 41, 42, 43, 44, 45, 46, 47, 48, 49, 50, 51, 52, 53, 54, 55, 56, 57, 58, 59, 60] (by decide +kernel) (by decide +kernel)
set_option maxRecDepth 20000 in
theorem gX9_next_X9_fails : GoodIn wsX9_next (wsV RX9 105 RX9 yX9_fails wsX9_fails) := goodIn_app (goodIn_of _ (by decide +kernel)) ggX9_next_X9_fails
set_option maxRecDepth 20000 in
theorem ggX9_wants_X9_fails : GoodIn wsX9_wants wsX9_fails := goodIn_r _ [5, 6, 7, 8, 9, 10, 11, 12, 13, 14, 15, 16, 17, 18, 19, 20, 21, 22, 23, 24, 25, 26, 27, 28, 29, 30, 31, 32, 33, 34, 35, 36] (by decide +kernel) (by decide +kernel)
set_option maxRecDepth 20000 in
theorem gX9_wants_X9_fails : GoodIn wsX9_wants (wsV RX9 105 RX9 yX9_fails wsX9_fails) := goodIn_app (goodIn_of _ (by decide +kernel)) ggX9_wants_X9_fails
set_option maxRecDepth 20000 in
theorem ggX9_goesOn_X9_next : GoodIn wsX9_goesOn wsX9_next := goodIn_r _ [6, 7, 8, 9, 10, 11, 12, 13, 14, 15, 16, 17, 5, 18, 19, 20, 21, 22, 23, 24, 25, 26, 27, 28, 29, 30, 31, 32, 33, 34, 35, 1, 36, 37, 38, 39, 40, 41, 42, 43, 44, 45, 46, 47, 48, 49, 50, 51, 52, 53, 54, 55, 56, 57, 58, 59, 60, 61, 62, 63, 64] (by decide +kernel) (by decide +kernel)
set_option maxRecDepth 20000 in
theorem gX9_goesOn_X9_next : GoodIn wsX9_goesOn (wsV RX9 113 RX9 yX9_next wsX9_next) := goodIn_app (goodIn_of _ (by decide +kernel)) ggX9_goesOn_X9_next
set_option maxRecDepth 20000 in
theorem ggX9_readLaw_X9_wants : GoodIn wsX9_readLaw wsX9_wants := goodIn_r _ [9, 10, 11, 12, 8, 13, 3, 14, 15, 55, 56, 57, 58, 59, 60, 61, 62, 63, 64, 65, 66, 67, 68, 69, 70, 71, 72, 73, 74, 75, 76, 77, 78, 79, 80, 81, 82] (by decide +kernel) (by decide +kernel)
set_option maxRecDepth 20000 in
theorem gX9_readLaw_X9_wants : GoodIn wsX9_readLaw (wsV RX9 116 RX9 yX9_wants wsX9_wants) := goodIn_app (goodIn_of _ (by decide +kernel)) ggX9_readLaw_X9_wants
set_option maxRecDepth 20000 in
theorem ggX9_readLaw_X9_goesOn : GoodIn wsX9_readLaw wsX9_goesOn := goodIn_r _ [19, 3, 20, 21, 22, 8, 23, 24, 14, 1, 25, 26, 2, 27, 28, 29, 30, 31, 32, 33, 34, 35, 36, 37, 38, 39, 40, 41, 42, 43, 44, 45, 10, 11, 12, 13, 15, 55, 56, 57, 58, 59, 60, 61, 62, 63, 64, 65, 66, 67, 68, 69, 70, 71, 72, 73, 74, 75, 76, 77, 78, 79, 80, 81, 82] (by decide +kernel) (by decide +kernel)
set_option maxRecDepth 20000 in
theorem gX9_readLaw_X9_goesOn : GoodIn wsX9_readLaw (wsV RX9 120 RX9 yX9_goesOn wsX9_goesOn) := goodIn_app (goodIn_of _ (by decide +kernel)) ggX9_readLaw_X9_goesOn
set_option maxRecDepth 20000 in
theorem ggX9_readLaw_X9_wayOf : GoodIn wsX9_readLaw wsX9_wayOf := goodIn_r _ [48] (by decide +kernel) (by decide +kernel)
set_option maxRecDepth 20000 in
theorem gX9_readLaw_X9_wayOf : GoodIn wsX9_readLaw (va_wsS RX9 123 yX9_wayOf wsX9_wayOf) := goodIn_app (goodIn_of _ (by decide +kernel)) ggX9_readLaw_X9_wayOf
set_option maxRecDepth 20000 in
theorem ggX9_readLaw_X9_least : GoodIn wsX9_readLaw wsX9_least := goodIn_r _ [51] (by decide +kernel) (by decide +kernel)
set_option maxRecDepth 20000 in
theorem gX9_readLaw_X9_least : GoodIn wsX9_readLaw (va_wsS RX9 126 yX9_least wsX9_least) := goodIn_app (goodIn_of _ (by decide +kernel)) ggX9_readLaw_X9_least
set_option maxRecDepth 20000 in
theorem ggX9_readLaw_X9_most : GoodIn wsX9_readLaw wsX9_most := goodIn_r _ [54] (by decide +kernel) (by decide +kernel)
set_option maxRecDepth 20000 in
theorem gX9_readLaw_X9_most : GoodIn wsX9_readLaw (va_wsS RX9 129 yX9_most wsX9_most) := goodIn_app (goodIn_of _ (by decide +kernel)) ggX9_readLaw_X9_most
set_option maxRecDepth 20000 in
theorem ggX9_readLaw_X9_in : GoodIn wsX9_readLaw wsX9_in := goodIn_r _ [37] (by decide +kernel) (by decide +kernel)
set_option maxRecDepth 20000 in
theorem gX9_readLaw_X9_in : GoodIn wsX9_readLaw (va_wsS RX9 67 yX9_in wsX9_in) := goodIn_app (goodIn_of _ (by decide +kernel)) ggX9_readLaw_X9_in
set_option maxRecDepth 20000 in
theorem ggX9_laws_X9_next : GoodIn wsX9_laws wsX9_next := goodIn_r _ [12, 2, 13, 4, 14, 15, 16, 17, 18, 19, 20, 21, 11, 22, 5, 23, 24, 25, 26, 27, 28, 29, 30, 31, 32, 33, 34, 35, 36, 37, 38, 1, 6, 64, 65, 66, 67, 68, 69, 70, 71, 72, 73, 74, 75, 76, 77, 78, 79, 80, 81, 82, 83, 84, 85, 86, 87, 88, 89, 90, 91] (by decide +kernel) (by decide +kernel)
set_option maxRecDepth 20000 in
theorem gX9_laws_X9_next : GoodIn wsX9_laws (wsV RX9 113 RX9 yX9_next wsX9_next) := goodIn_app (goodIn_of _ (by decide +kernel)) ggX9_laws_X9_next
set_option maxRecDepth 20000 in
theorem ggX9_laws_X9_readLaw : GoodIn wsX9_laws wsX9_readLaw := goodIn_r _ [42, 4, 16, 1, 3, 43, 44, 45, 11, 46, 35, 36, 37, 38, 13, 6, 47, 48, 49, 50, 8, 9, 10, 12, 2, 14, 15, 17, 18, 19, 20, 21, 22, 5, 23, 24, 25, 26, 27, 28, 29, 30, 31, 32, 33, 34, 51, 52, 53, 54, 55, 56, 57, 58, 59, 64, 65, 66, 67, 68, 69, 70, 71, 72, 73, 74, 75, 76, 77, 78, 79, 80, 81, 82, 83, 84, 85, 86, 87, 88, 89, 90, 91] (by decide +kernel) (by decide +kernel)
set_option maxRecDepth 20000 in
theorem gX9_laws_X9_readLaw : GoodIn wsX9_laws (wsV RX9 132 RX9 yX9_readLaw wsX9_readLaw) := goodIn_app (goodIn_of _ (by decide +kernel)) ggX9_laws_X9_readLaw
set_option maxRecDepth 20000 in
theorem ggX9_laws_X9_lawMany : GoodIn wsX9_laws wsX9_lawMany := goodIn_r _ [63, 7, 64, 65, 66, 67, 68, 69, 70, 71, 72, 73, 74, 75, 76, 77, 78, 79, 80, 81, 82, 83, 84, 85, 86, 87, 88, 89, 90, 91] (by decide +kernel) (by decide +kernel)
set_option maxRecDepth 20000 in
theorem gX9_laws_X9_lawMany : GoodIn wsX9_laws (wsV RX9 135 RX9 yX9_lawMany wsX9_lawMany) := goodIn_app (goodIn_of _ (by decide +kernel)) ggX9_laws_X9_lawMany
set_option maxRecDepth 20000 in
theorem ggX9_law_X9_in : GoodIn wsX9_law wsX9_in := goodIn_r _ [5] (by decide +kernel) (by decide +kernel)
set_option maxRecDepth 20000 in
theorem gX9_law_X9_in : GoodIn wsX9_law (va_wsS RX9 67 yX9_in wsX9_in) := goodIn_app (goodIn_of _ (by decide +kernel)) ggX9_law_X9_in
set_option maxRecDepth 20000 in
theorem ggX9_law_X9_lawOf : GoodIn wsX9_law wsX9_lawOf := goodIn_r _ [9, 10, 11, 12, 13, 14, 15, 16, 17, 18, 19, 20, 21, 22, 23, 24, 25, 26, 27, 28, 29, 30, 31, 32, 33, 34, 35, 36, 37, 38] (by decide +kernel) (by decide +kernel)
set_option maxRecDepth 20000 in
theorem gX9_law_X9_lawOf : GoodIn wsX9_law (wsV RX9 140 RX9 yX9_lawOf wsX9_lawOf) := goodIn_app (goodIn_of _ (by decide +kernel)) ggX9_law_X9_lawOf
set_option maxRecDepth 20000 in
theorem ggX9_isHeir_X9_in : GoodIn wsX9_isHeir wsX9_in := goodIn_r _ [5] (by decide +kernel) (by decide +kernel)
set_option maxRecDepth 20000 in
theorem gX9_isHeir_X9_in : GoodIn wsX9_isHeir (va_wsS RX9 67 yX9_in wsX9_in) := goodIn_app (goodIn_of _ (by decide +kernel)) ggX9_isHeir_X9_in
set_option maxRecDepth 20000 in
theorem ggX9_isThing_X9_in : GoodIn wsX9_isThing wsX9_in := goodIn_r _ [5] (by decide +kernel) (by decide +kernel)
set_option maxRecDepth 20000 in
theorem gX9_isThing_X9_in : GoodIn wsX9_isThing (va_wsS RX9 67 yX9_in wsX9_in) := goodIn_app (goodIn_of _ (by decide +kernel)) ggX9_isThing_X9_in
set_option maxRecDepth 20000 in
theorem ggX9_thing_X9_in : GoodIn wsX9_thing wsX9_in := goodIn_r _ [15] (by decide +kernel) (by decide +kernel)
set_option maxRecDepth 20000 in
theorem gX9_thing_X9_in : GoodIn wsX9_thing (va_wsS RX9 67 yX9_in wsX9_in) := goodIn_app (goodIn_of _ (by decide +kernel)) ggX9_thing_X9_in
set_option maxRecDepth 20000 in
theorem ggX9_worth_X9_isHeir : GoodIn wsX9_worth wsX9_isHeir := goodIn_r _ [7, 8, 9, 10, 6, 11, 17, 18, 19, 20, 21, 22, 23, 24, 25, 26, 27, 28, 29, 30, 31, 32, 33, 34, 35, 36, 37, 38, 39, 40, 41, 42, 43, 44] (by decide +kernel) (by decide +kernel)
set_option maxRecDepth 20000 in
theorem gX9_worth_X9_isHeir : GoodIn wsX9_worth (wsV RX9 157 RX9 yX9_isHeir wsX9_isHeir) := goodIn_app (goodIn_of _ (by decide +kernel)) ggX9_worth_X9_isHeir
set_option maxRecDepth 20000 in
theorem ggX9_worth_X9_isThing : GoodIn wsX9_worth wsX9_isThing := goodIn_r _ [15, 16, 9, 10, 6, 11, 17, 18, 19, 20, 21, 22, 23, 24, 25, 26, 27, 28, 29, 30, 31, 32, 33, 34, 35, 36, 37, 38, 39, 40, 41, 42, 43, 44] (by decide +kernel) (by decide +kernel)
set_option maxRecDepth 20000 in
theorem gX9_worth_X9_isThing : GoodIn wsX9_worth (wsV RX9 161 RX9 yX9_isThing wsX9_isThing) := goodIn_app (goodIn_of _ (by decide +kernel)) ggX9_worth_X9_isThing
set_option maxRecDepth 20000 in
theorem ggX9_worth_X9_in : GoodIn wsX9_worth wsX9_in := goodIn_r _ [11] (by decide +kernel) (by decide +kernel)
set_option maxRecDepth 20000 in
theorem gX9_worth_X9_in : GoodIn wsX9_worth (va_wsS RX9 67 yX9_in wsX9_in) := goodIn_app (goodIn_of _ (by decide +kernel)) ggX9_worth_X9_in
set_option maxRecDepth 20000 in
theorem ggX9_look_X9_isThing : GoodIn wsX9_look wsX9_isThing := goodIn_r _ [8, 9, 10, 11, 7, 12, 13, 14, 15, 16, 17, 18, 19, 20, 21, 22, 23, 24, 25, 26, 27, 28, 29, 30, 31, 32, 33, 34, 35, 36, 37, 38, 39, 40] (by decide +kernel) (by decide +kernel)
set_option maxRecDepth 20000 in
theorem gX9_look_X9_isThing : GoodIn wsX9_look (wsV RX9 161 RX9 yX9_isThing wsX9_isThing) := goodIn_app (goodIn_of _ (by decide +kernel)) ggX9_look_X9_isThing
set_option maxRecDepth 20000 in
theorem ggX9_look_X9_in : GoodIn wsX9_look wsX9_in := goodIn_r _ [12] (by decide +kernel) (by decide +kernel)
set_option maxRecDepth 20000 in
theorem gX9_look_X9_in : GoodIn wsX9_look (va_wsS RX9 67 yX9_in wsX9_in) := goodIn_app (goodIn_of _ (by decide +kernel)) ggX9_look_X9_in
set_option maxRecDepth 20000 in
theorem ggX9_sent_X9_has : GoodIn wsX9_sent wsX9_has := goodIn_r _ [6, 7, 13, 14, 15, 16, 17, 18, 19, 20, 21, 22, 23, 24, 25, 26, 27, 28, 29, 30, 31, 32, 33, 34, 35, 36, 37, 38, 39, 40] (by decide +kernel) (by decide +kernel)
set_option maxRecDepth 20000 in
theorem gX9_sent_X9_has : GoodIn wsX9_sent (wsV RX9 166 RX9 yX9_has wsX9_has) := goodIn_app (goodIn_of _ (by decide +kernel)) ggX9_sent_X9_has
set_option maxRecDepth 20000 in
theorem ggX9_sent_X9_lawOf : GoodIn wsX9_sent wsX9_lawOf := goodIn_r _ [11, 12, 13, 14, 15, 16, 17, 18, 19, 20, 21, 22, 23, 24, 25, 26, 27, 28, 29, 30, 31, 32, 33, 34, 35, 36, 37, 38, 39, 40] (by decide +kernel) (by decide +kernel)
set_option maxRecDepth 20000 in
theorem gX9_sent_X9_lawOf : GoodIn wsX9_sent (wsV RX9 140 RX9 yX9_lawOf wsX9_lawOf) := goodIn_app (goodIn_of _ (by decide +kernel)) ggX9_sent_X9_lawOf
set_option maxRecDepth 20000 in
theorem ggX9_wayNow_X9_sent : GoodIn wsX9_wayNow wsX9_sent := goodIn_r _ [8, 9, 10, 11, 12, 7, 13, 14, 15, 16, 17, 18, 19, 20, 21, 22, 23, 24, 25, 26, 27, 28, 29, 30, 31, 32, 33, 34, 35, 36, 37, 38, 39, 40, 41, 42, 43, 44, 45, 46, 47] (by decide +kernel) (by decide +kernel)
set_option maxRecDepth 20000 in
theorem gX9_wayNow_X9_sent : GoodIn wsX9_wayNow (wsV RX9 170 RX9 yX9_sent wsX9_sent) := goodIn_app (goodIn_of _ (by decide +kernel)) ggX9_wayNow_X9_sent
set_option maxRecDepth 20000 in
theorem ggX9_wayNow_X9_lawOf : GoodIn wsX9_wayNow wsX9_lawOf := goodIn_r _ [18, 19, 20, 21, 22, 23, 24, 25, 26, 27, 28, 29, 30, 31, 32, 33, 34, 35, 36, 37, 38, 39, 40, 41, 42, 43, 44, 45, 46, 47] (by decide +kernel) (by decide +kernel)
set_option maxRecDepth 20000 in
theorem gX9_wayNow_X9_lawOf : GoodIn wsX9_wayNow (wsV RX9 140 RX9 yX9_lawOf wsX9_lawOf) := goodIn_app (goodIn_of _ (by decide +kernel)) ggX9_wayNow_X9_lawOf
set_option maxRecDepth 20000 in
theorem ggX9_told_X9_isThing : GoodIn wsX9_told wsX9_isThing := goodIn_r _ [11, 12, 13, 14, 10, 15, 35, 36, 37, 38, 39, 40, 41, 42, 43, 44, 45, 46, 47, 48, 49, 50, 51, 52, 53, 54, 55, 56, 57, 58, 59, 60, 61, 62] (by decide +kernel) (by decide +kernel)
set_option maxRecDepth 20000 in
theorem gX9_told_X9_isThing : GoodIn wsX9_told (wsV RX9 161 RX9 yX9_isThing wsX9_isThing) := goodIn_app (goodIn_of _ (by decide +kernel)) ggX9_told_X9_isThing
set_option maxRecDepth 20000 in
theorem ggX9_told_X9_in : GoodIn wsX9_told wsX9_in := goodIn_r _ [15] (by decide +kernel) (by decide +kernel)
set_option maxRecDepth 20000 in
theorem gX9_told_X9_in : GoodIn wsX9_told (va_wsS RX9 67 yX9_in wsX9_in) := goodIn_app (goodIn_of _ (by decide +kernel)) ggX9_told_X9_in
set_option maxRecDepth 20000 in
theorem ggX9_told_X9_wayNow : GoodIn wsX9_told wsX9_wayNow := goodIn_r _ [19, 20, 21, 3, 22, 23, 24, 10, 25, 5, 26, 27, 28, 29, 6, 30, 31, 32, 33, 34, 35, 36, 37, 38, 39, 40, 41, 42, 43, 44, 45, 46, 47, 48, 49, 50, 51, 52, 53, 54, 55, 56, 57, 58, 59, 60, 61, 62] (by decide +kernel) (by decide +kernel)
set_option maxRecDepth 20000 in
theorem gX9_told_X9_wayNow : GoodIn wsX9_told (wsV RX9 175 RX9 yX9_wayNow wsX9_wayNow) := goodIn_app (goodIn_of _ (by decide +kernel)) ggX9_told_X9_wayNow
set_option maxRecDepth 20000 in
theorem ggX9_way_X9_in : GoodIn wsX9_way wsX9_in := goodIn_r _ [10] (by decide +kernel) (by decide +kernel)
set_option maxRecDepth 20000 in
theorem gX9_way_X9_in : GoodIn wsX9_way (va_wsS RX9 67 yX9_in wsX9_in) := goodIn_app (goodIn_of _ (by decide +kernel)) ggX9_way_X9_in
set_option maxRecDepth 20000 in
theorem ggX9_way_X9_wayNow : GoodIn wsX9_way wsX9_wayNow := goodIn_r _ [14, 15, 16, 5, 17, 18, 19, 9, 20, 21, 22, 23, 24, 25, 26, 27, 28, 29, 30, 31, 32, 33, 34, 35, 36, 37, 38, 39, 40, 41, 42, 43, 44, 45, 46, 47, 48, 49, 50, 51, 52, 53, 54, 55, 56, 57, 58, 59] (by decide +kernel) (by decide +kernel)
set_option maxRecDepth 20000 in
theorem gX9_way_X9_wayNow : GoodIn wsX9_way (wsV RX9 175 RX9 yX9_wayNow wsX9_wayNow) := goodIn_app (goodIn_of _ (by decide +kernel)) ggX9_way_X9_wayNow
set_option maxRecDepth 20000 in
theorem ggX9_asks_X9_isThing : GoodIn wsX9_asks wsX9_isThing := goodIn_r _ [7, 8, 9, 10, 6, 11, 27, 28, 29, 30, 31, 32, 33, 34, 35, 36, 37, 38, 39, 40, 41, 42, 43, 44, 45, 46, 47, 48, 49, 50, 51, 52, 53, 54] (by decide +kernel) (by decide +kernel)
set_option maxRecDepth 20000 in
theorem gX9_asks_X9_isThing : GoodIn wsX9_asks (wsV RX9 161 RX9 yX9_isThing wsX9_isThing) := goodIn_app (goodIn_of _ (by decide +kernel)) ggX9_asks_X9_isThing
set_option maxRecDepth 20000 in
theorem ggX9_asks_X9_lawOf : GoodIn wsX9_asks wsX9_lawOf := goodIn_r _ [15, 16, 27, 28, 29, 30, 31, 32, 33, 34, 35, 36, 37, 38, 39, 40, 41, 42, 43, 44, 45, 46, 47, 48, 49, 50, 51, 52, 53, 54] (by decide +kernel) (by decide +kernel)
set_option maxRecDepth 20000 in
theorem gX9_asks_X9_lawOf : GoodIn wsX9_asks (wsV RX9 140 RX9 yX9_lawOf wsX9_lawOf) := goodIn_app (goodIn_of _ (by decide +kernel)) ggX9_asks_X9_lawOf
set_option maxRecDepth 20000 in
theorem ggX9_asks_X9_sent : GoodIn wsX9_asks wsX9_sent := goodIn_r _ [20, 21, 22, 23, 24, 6, 25, 26, 12, 13, 14, 15, 16, 27, 28, 29, 30, 31, 32, 33, 34, 35, 36, 37, 38, 39, 40, 41, 42, 43, 44, 45, 46, 47, 48, 49, 50, 51, 52, 53, 54] (by decide +kernel) (by decide +kernel)
set_option maxRecDepth 20000 in
theorem gX9_asks_X9_sent : GoodIn wsX9_asks (wsV RX9 170 RX9 yX9_sent wsX9_sent) := goodIn_app (goodIn_of _ (by decide +kernel)) ggX9_asks_X9_sent
set_option maxRecDepth 20000 in
theorem ggX9_findShared_X9_wayNow : GoodIn wsX9_findShared wsX9_wayNow := goodIn_r _ [8, 9, 10, 11, 12, 13, 14, 7, 15, 16, 17, 18, 19, 20, 21, 22, 23, 24, 25, 26, 27, 28, 29, 30, 31, 32, 33, 34, 35, 36, 37, 38, 39, 40, 41, 42, 43, 44, 45, 46, 47, 48, 49, 50, 51, 52, 53, 54] (by decide +kernel) (by decide +kernel)
set_option maxRecDepth 20000 in
theorem gX9_findShared_X9_wayNow : GoodIn wsX9_findShared (wsV RX9 175 RX9 yX9_wayNow wsX9_wayNow) := goodIn_app (goodIn_of _ (by decide +kernel)) ggX9_findShared_X9_wayNow
set_option maxRecDepth 20000 in
theorem ggX9_takes_X9_worthNow : GoodIn wsX9_takes wsX9_worthNow := goodIn_r _ [8, 9, 10, 11, 12, 13, 14, 15, 16, 17, 18, 19, 20, 21, 22, 23, 24, 25, 26, 27, 28, 29, 30, 31, 32, 33, 34, 35, 36, 37, 38] (by decide +kernel) (by decide +kernel)
set_option maxRecDepth 20000 in
theorem gX9_takes_X9_worthNow : GoodIn wsX9_takes (wsV RX9 185 RX9 yX9_worthNow wsX9_worthNow) := goodIn_app (goodIn_of _ (by decide +kernel)) ggX9_takes_X9_worthNow
set_option maxRecDepth 20000 in
theorem ggX9_turns_X9_in : GoodIn wsX9_turns wsX9_in := goodIn_r _ [5] (by decide +kernel) (by decide +kernel)
set_option maxRecDepth 20000 in
theorem gX9_turns_X9_in : GoodIn wsX9_turns (va_wsS RX9 67 yX9_in wsX9_in) := goodIn_app (goodIn_of _ (by decide +kernel)) ggX9_turns_X9_in
set_option maxRecDepth 20000 in
theorem ggX9_turns_X9_findShared : GoodIn wsX9_turns wsX9_findShared := goodIn_r _ [9, 10, 11, 12, 13, 14, 15, 4, 16, 1, 17, 18, 19, 20, 21, 22, 23, 24, 25, 26, 27, 28, 29, 30, 31, 32, 33, 47, 48, 49, 50, 51, 52, 53, 54, 55, 56, 57, 58, 59, 60, 61, 62, 63, 64, 65, 66, 67, 68, 69, 70, 71, 72, 73, 74] (by decide +kernel) (by decide +kernel)
set_option maxRecDepth 20000 in
theorem gX9_turns_X9_findShared : GoodIn wsX9_turns (wsV RX9 189 RX9 yX9_findShared wsX9_findShared) := goodIn_app (goodIn_of _ (by decide +kernel)) ggX9_turns_X9_findShared
set_option maxRecDepth 20000 in
theorem ggX9_turns_X9_takes : GoodIn wsX9_turns wsX9_takes := goodIn_r _ [37, 10, 38, 1, 39, 40, 41, 4, 42, 12, 17, 47, 48, 49, 50, 51, 52, 53, 54, 55, 56, 57, 58, 59, 60, 61, 62, 63, 64, 65, 66, 67, 68, 69, 70, 71, 72, 73, 74] (by decide +kernel) (by decide +kernel)
set_option maxRecDepth 20000 in
theorem gX9_turns_X9_takes : GoodIn wsX9_turns (wsV RX9 192 RX9 yX9_takes wsX9_takes) := goodIn_app (goodIn_of _ (by decide +kernel)) ggX9_turns_X9_takes
set_option maxRecDepth 20000 in
theorem ggX9_turns_X9_number : GoodIn wsX9_turns wsX9_number := goodIn_r _ [46, 10, 1, 38, 47, 48, 49, 50, 51, 52, 53, 54, 55, 56, 57, 58, 59, 60, 61, 62, 63, 64, 65, 66, 67, 68, 69, 70, 71, 72, 73, 74] (by decide +kernel) (by decide +kernel)
set_option maxRecDepth 20000 in
theorem gX9_turns_X9_number : GoodIn wsX9_turns (wsV RX9 196 RX9 yX9_number wsX9_number) := goodIn_app (goodIn_of _ (by decide +kernel)) ggX9_turns_X9_number
set_option maxRecDepth 20000 in
theorem ggX9_lie_X9_in : GoodIn wsX9_lie wsX9_in := goodIn_r _ [5] (by decide +kernel) (by decide +kernel)
set_option maxRecDepth 20000 in
theorem gX9_lie_X9_in : GoodIn wsX9_lie (va_wsS RX9 67 yX9_in wsX9_in) := goodIn_app (goodIn_of _ (by decide +kernel)) ggX9_lie_X9_in
set_option maxRecDepth 20000 in
theorem ggX9_lie_X9_isHeir : GoodIn wsX9_lie wsX9_isHeir := goodIn_r _ [9, 10, 2, 3, 4, 5, 56, 57, 58, 59, 60, 61, 62, 63, 64, 65, 66, 67, 68, 69, 70, 71, 72, 73, 74, 75, 76, 77, 78, 79, 80, 81, 82, 83] (by decide +kernel) (by decide +kernel)
set_option maxRecDepth 20000 in
theorem gX9_lie_X9_isHeir : GoodIn wsX9_lie (wsV RX9 157 RX9 yX9_isHeir wsX9_isHeir) := goodIn_app (goodIn_of _ (by decide +kernel)) ggX9_lie_X9_isHeir
set_option maxRecDepth 20000 in
theorem ggX9_lie_X9_isThing : GoodIn wsX9_lie wsX9_isThing := goodIn_r _ [14, 15, 2, 3, 4, 5, 56, 57, 58, 59, 60, 61, 62, 63, 64, 65, 66, 67, 68, 69, 70, 71, 72, 73, 74, 75, 76, 77, 78, 79, 80, 81, 82, 83] (by decide +kernel) (by decide +kernel)
set_option maxRecDepth 20000 in
theorem gX9_lie_X9_isThing : GoodIn wsX9_lie (wsV RX9 161 RX9 yX9_isThing wsX9_isThing) := goodIn_app (goodIn_of _ (by decide +kernel)) ggX9_lie_X9_isThing
set_option maxRecDepth 20000 in
theorem ggX9_lie_X9_findShared : GoodIn wsX9_lie wsX9_findShared := goodIn_r _ [19, 20, 15, 21, 22, 23, 24, 4, 25, 10, 26, 27, 28, 29, 30, 31, 32, 33, 34, 35, 36, 37, 38, 39, 40, 41, 42, 56, 57, 58, 59, 60, 61, 62, 63, 64, 65, 66, 67, 68, 69, 70, 71, 72, 73, 74, 75, 76, 77, 78, 79, 80, 81, 82, 83] (by decide +kernel) (by decide +kernel)
set_option maxRecDepth 20000 in
theorem gX9_lie_X9_findShared : GoodIn wsX9_lie (wsV RX9 189 RX9 yX9_findShared wsX9_findShared) := goodIn_app (goodIn_of _ (by decide +kernel)) ggX9_lie_X9_findShared
set_option maxRecDepth 20000 in
theorem ggX9_lie_X9_takes : GoodIn wsX9_lie wsX9_takes := goodIn_r _ [46, 20, 47, 10, 48, 49, 50, 4, 51, 21, 26, 56, 57, 58, 59, 60, 61, 62, 63, 64, 65, 66, 67, 68, 69, 70, 71, 72, 73, 74, 75, 76, 77, 78, 79, 80, 81, 82, 83] (by decide +kernel) (by decide +kernel)
set_option maxRecDepth 20000 in
theorem gX9_lie_X9_takes : GoodIn wsX9_lie (wsV RX9 192 RX9 yX9_takes wsX9_takes) := goodIn_app (goodIn_of _ (by decide +kernel)) ggX9_lie_X9_takes
set_option maxRecDepth 20000 in
theorem ggX9_lie_X9_number : GoodIn wsX9_lie wsX9_number := goodIn_r _ [55, 20, 10, 47, 56, 57, 58, 59, 60, 61, 62, 63, 64, 65, 66, 67, 68, 69, 70, 71, 72, 73, 74, 75, 76, 77, 78, 79, 80, 81, 82, 83] (by decide +kernel) (by decide +kernel)
set_option maxRecDepth 20000 in
theorem gX9_lie_X9_number : GoodIn wsX9_lie (wsV RX9 196 RX9 yX9_number wsX9_number) := goodIn_app (goodIn_of _ (by decide +kernel)) ggX9_lie_X9_number
set_option maxRecDepth 20000 in
theorem ggX9_gain_X9_in : GoodIn wsX9_gain wsX9_in := goodIn_r _ [6] (by decide +kernel) (by decide +kernel)
set_option maxRecDepth 20000 in
theorem gX9_gain_X9_in : GoodIn wsX9_gain (va_wsS RX9 67 yX9_in wsX9_in) := goodIn_app (goodIn_of _ (by decide +kernel)) ggX9_gain_X9_in
set_option maxRecDepth 20000 in
theorem ggX9_gain_X9_isHeir : GoodIn wsX9_gain wsX9_isHeir := goodIn_r _ [10, 11, 3, 4, 5, 6, 51, 52, 53, 54, 55, 56, 57, 58, 59, 60, 61, 62, 63, 64, 65, 66, 67, 68, 69, 70, 71, 72, 73, 74, 75, 76, 77, 78] (by decide +kernel) (by decide +kernel)
set_option maxRecDepth 20000 in
theorem gX9_gain_X9_isHeir : GoodIn wsX9_gain (wsV RX9 157 RX9 yX9_isHeir wsX9_isHeir) := goodIn_app (goodIn_of _ (by decide +kernel)) ggX9_gain_X9_isHeir
set_option maxRecDepth 20000 in
theorem ggX9_gain_X9_findShared : GoodIn wsX9_gain wsX9_findShared := goodIn_r _ [15, 1, 16, 2, 17, 18, 19, 5, 20, 11, 21, 22, 23, 24, 25, 26, 27, 28, 29, 30, 31, 32, 33, 34, 35, 36, 37, 51, 52, 53, 54, 55, 56, 57, 58, 59, 60, 61, 62, 63, 64, 65, 66, 67, 68, 69, 70, 71, 72, 73, 74, 75, 76, 77, 78] (by decide +kernel) (by decide +kernel)
set_option maxRecDepth 20000 in
theorem gX9_gain_X9_findShared : GoodIn wsX9_gain (wsV RX9 189 RX9 yX9_findShared wsX9_findShared) := goodIn_app (goodIn_of _ (by decide +kernel)) ggX9_gain_X9_findShared
set_option maxRecDepth 20000 in
theorem ggX9_gain_X9_takes : GoodIn wsX9_gain wsX9_takes := goodIn_r _ [41, 1, 42, 11, 43, 44, 45, 5, 46, 2, 21, 51, 52, 53, 54, 55, 56, 57, 58, 59, 60, 61, 62, 63, 64, 65, 66, 67, 68, 69, 70, 71, 72, 73, 74, 75, 76, 77, 78] (by decide +kernel) (by decide +kernel)
set_option maxRecDepth 20000 in
theorem gX9_gain_X9_takes : GoodIn wsX9_gain (wsV RX9 192 RX9 yX9_takes wsX9_takes) := goodIn_app (goodIn_of _ (by decide +kernel)) ggX9_gain_X9_takes
set_option maxRecDepth 20000 in
theorem ggX9_gain_X9_sumOf : GoodIn wsX9_gain wsX9_sumOf := goodIn_r _ [50, 1, 42, 21, 2, 51, 52, 53, 54, 55, 56, 57, 58, 59, 60, 61, 62, 63, 64, 65, 66, 67, 68, 69, 70, 71, 72, 73, 74, 75, 76, 77, 78] (by decide +kernel) (by decide +kernel)
set_option maxRecDepth 20000 in
theorem gX9_gain_X9_sumOf : GoodIn wsX9_gain (wsV RX9 199 RX9 yX9_sumOf wsX9_sumOf) := goodIn_app (goodIn_of _ (by decide +kernel)) ggX9_gain_X9_sumOf
set_option maxRecDepth 20000 in
theorem ggX9_isSharing_X9_findShared : GoodIn wsX9_isSharing wsX9_findShared := goodIn_r _ [6, 7, 8, 9, 10, 11, 12, 5, 13, 1, 14, 15, 16, 17, 18, 19, 20, 21, 22, 23, 24, 25, 26, 27, 28, 29, 30, 43, 44, 45, 46, 47, 48, 49, 50, 51, 52, 53, 54, 55, 56, 57, 58, 59, 60, 61, 62, 63, 64, 65, 66, 67, 68, 69, 70] (by decide +kernel) (by decide +kernel)
set_option maxRecDepth 20000 in
theorem gX9_isSharing_X9_findShared : GoodIn wsX9_isSharing (wsV RX9 189 RX9 yX9_findShared wsX9_findShared) := goodIn_app (goodIn_of _ (by decide +kernel)) ggX9_isSharing_X9_findShared
set_option maxRecDepth 20000 in
theorem ggX9_isSharing_X9_sharings : GoodIn wsX9_isSharing wsX9_sharings := goodIn_r _ [34, 7, 1, 43, 44, 45, 46, 47, 48, 49, 50, 51, 52, 53, 54, 55, 56, 57, 58, 59, 60, 61, 62, 63, 64, 65, 66, 67, 68, 69, 70] (by decide +kernel) (by decide +kernel)
set_option maxRecDepth 20000 in
theorem gX9_isSharing_X9_sharings : GoodIn wsX9_isSharing (wsV RX9 203 RX9 yX9_sharings wsX9_sharings) := goodIn_app (goodIn_of _ (by decide +kernel)) ggX9_isSharing_X9_sharings
set_option maxRecDepth 20000 in
theorem ggX9_isSharing_X9_in : GoodIn wsX9_isSharing wsX9_in := goodIn_r _ [37] (by decide +kernel) (by decide +kernel)
set_option maxRecDepth 20000 in
theorem gX9_isSharing_X9_in : GoodIn wsX9_isSharing (va_wsS RX9 67 yX9_in wsX9_in) := goodIn_app (goodIn_of _ (by decide +kernel)) ggX9_isSharing_X9_in
set_option maxRecDepth 20000 in
theorem ggX9_isSharing_X9_parts : GoodIn wsX9_isSharing wsX9_parts := goodIn_r _ [41, 7, 42, 1, 43, 44, 45, 46, 47, 48, 49, 50, 51, 52, 53, 54, 55, 56, 57, 58, 59, 60, 61, 62, 63, 64, 65, 66, 67, 68, 69, 70] (by decide +kernel) (by decide +kernel)
set_option maxRecDepth 20000 in
theorem gX9_isSharing_X9_parts : GoodIn wsX9_isSharing (wsV RX9 206 RX9 yX9_parts wsX9_parts) := goodIn_app (goodIn_of _ (by decide +kernel)) ggX9_isSharing_X9_parts
set_option maxRecDepth 20000 in
theorem ggX9_sum_X9_isHeir : GoodIn wsX9_sum wsX9_isHeir := goodIn_r _ [5, 6, 7, 8, 4, 9, 55, 56, 57, 58, 59, 60, 61, 62, 63, 64, 65, 66, 67, 68, 69, 70, 71, 72, 73, 74, 75, 76, 77, 78, 79, 80, 81, 82] (by decide +kernel) (by decide +kernel)
set_option maxRecDepth 20000 in
theorem gX9_sum_X9_isHeir : GoodIn wsX9_sum (wsV RX9 157 RX9 yX9_isHeir wsX9_isHeir) := goodIn_app (goodIn_of _ (by decide +kernel)) ggX9_sum_X9_isHeir
set_option maxRecDepth 20000 in
theorem ggX9_sum_X9_isSharing : GoodIn wsX9_sum wsX9_isSharing := goodIn_r _ [13, 6, 14, 15, 16, 4, 17, 18, 19, 20, 21, 22, 23, 24, 25, 26, 27, 28, 29, 30, 31, 32, 33, 34, 35, 36, 37, 38, 39, 40, 41, 42, 43, 44, 45, 7, 8, 9, 46, 47, 48, 49, 50, 55, 56, 57, 58, 59, 60, 61, 62, 63, 64, 65, 66, 67, 68, 69, 70, 71, 72, 73, 74, 75, 76, 77, 78, 79, 80, 81, 82] (by decide +kernel) (by decide +kernel)
set_option maxRecDepth 20000 in
theorem gX9_sum_X9_isSharing : GoodIn wsX9_sum (wsV RX9 209 RX9 yX9_isSharing wsX9_isSharing) := goodIn_app (goodIn_of _ (by decide +kernel)) ggX9_sum_X9_isSharing
set_option maxRecDepth 20000 in
theorem ggX9_sum_X9_sumOf : GoodIn wsX9_sum wsX9_sumOf := goodIn_r _ [54, 18, 50, 25, 20, 55, 56, 57, 58, 59, 60, 61, 62, 63, 64, 65, 66, 67, 68, 69, 70, 71, 72, 73, 74, 75, 76, 77, 78, 79, 80, 81, 82] (by decide +kernel) (by decide +kernel)
set_option maxRecDepth 20000 in
theorem gX9_sum_X9_sumOf : GoodIn wsX9_sum (wsV RX9 199 RX9 yX9_sumOf wsX9_sumOf) := goodIn_app (goodIn_of _ (by decide +kernel)) ggX9_sum_X9_sumOf
set_option maxRecDepth 20000 in
theorem ggX9_envyOf_X9_sumOf : GoodIn wsX9_envyOf wsX9_sumOf := goodIn_r _ [9, 1, 4, 2, 3, 10, 11, 12, 13, 14, 15, 16, 17, 18, 19, 20, 21, 22, 23, 24, 25, 26, 27, 28, 29, 30, 31, 32, 33, 34, 35, 36, 37] (by decide +kernel) (by decide +kernel)
set_option maxRecDepth 20000 in
theorem gX9_envyOf_X9_sumOf : GoodIn wsX9_envyOf (wsV RX9 199 RX9 yX9_sumOf wsX9_sumOf) := goodIn_app (goodIn_of _ (by decide +kernel)) ggX9_envyOf_X9_sumOf
set_option maxRecDepth 20000 in
theorem ggX9_envies_X9_isHeir : GoodIn wsX9_envies wsX9_isHeir := goodIn_r _ [5, 6, 7, 8, 4, 9, 59, 60, 61, 62, 63, 64, 65, 66, 67, 68, 69, 70, 71, 72, 73, 74, 75, 76, 77, 78, 79, 80, 81, 82, 83, 84, 85, 86] (by decide +kernel) (by decide +kernel)
set_option maxRecDepth 20000 in
theorem gX9_envies_X9_isHeir : GoodIn wsX9_envies (wsV RX9 157 RX9 yX9_isHeir wsX9_isHeir) := goodIn_app (goodIn_of _ (by decide +kernel)) ggX9_envies_X9_isHeir
set_option maxRecDepth 20000 in
theorem ggX9_envies_X9_isSharing : GoodIn wsX9_envies wsX9_isSharing := goodIn_r _ [13, 6, 14, 15, 16, 4, 17, 18, 19, 20, 21, 22, 23, 24, 25, 26, 27, 28, 29, 30, 31, 32, 33, 34, 35, 36, 37, 38, 39, 40, 41, 42, 43, 44, 45, 7, 8, 9, 46, 47, 48, 49, 50, 59, 60, 61, 62, 63, 64, 65, 66, 67, 68, 69, 70, 71, 72, 73, 74, 75, 76, 77, 78, 79, 80, 81, 82, 83, 84, 85, 86] (by decide +kernel) (by decide +kernel)
set_option maxRecDepth 20000 in
theorem gX9_envies_X9_isSharing : GoodIn wsX9_envies (wsV RX9 209 RX9 yX9_isSharing wsX9_isSharing) := goodIn_app (goodIn_of _ (by decide +kernel)) ggX9_envies_X9_isSharing
set_option maxRecDepth 20000 in
theorem ggX9_envies_X9_envyOf : GoodIn wsX9_envies wsX9_envyOf := goodIn_r _ [54, 18, 25, 20, 50, 55, 56, 57, 4, 58, 59, 60, 61, 62, 63, 64, 65, 66, 67, 68, 69, 70, 71, 72, 73, 74, 75, 76, 77, 78, 79, 80, 81, 82, 83, 84, 85, 86] (by decide +kernel) (by decide +kernel)
set_option maxRecDepth 20000 in
theorem gX9_envies_X9_envyOf : GoodIn wsX9_envies (wsV RX9 212 RX9 yX9_envyOf wsX9_envyOf) := goodIn_app (goodIn_of _ (by decide +kernel)) ggX9_envies_X9_envyOf
set_option maxRecDepth 20000 in
theorem ggX9_envy_X9_isSharing : GoodIn wsX9_envy wsX9_isSharing := goodIn_r _ [6, 1, 7, 8, 9, 5, 10, 11, 12, 13, 14, 15, 16, 17, 18, 19, 20, 21, 22, 23, 24, 25, 26, 27, 28, 29, 30, 31, 32, 33, 34, 35, 36, 37, 38, 39, 40, 41, 42, 43, 44, 45, 46, 55, 56, 57, 58, 59, 60, 61, 62, 63, 64, 65, 66, 67, 68, 69, 70, 71, 72, 73, 74, 75, 76, 77, 78, 79, 80, 81, 82] (by decide +kernel) (by decide +kernel)
set_option maxRecDepth 20000 in
theorem gX9_envy_X9_isSharing : GoodIn wsX9_envy (wsV RX9 209 RX9 yX9_isSharing wsX9_isSharing) := goodIn_app (goodIn_of _ (by decide +kernel)) ggX9_envy_X9_isSharing
set_option maxRecDepth 20000 in
theorem ggX9_envy_X9_envyOf : GoodIn wsX9_envy wsX9_envyOf := goodIn_r _ [50, 11, 18, 13, 46, 51, 52, 53, 5, 54, 55, 56, 57, 58, 59, 60, 61, 62, 63, 64, 65, 66, 67, 68, 69, 70, 71, 72, 73, 74, 75, 76, 77, 78, 79, 80, 81, 82] (by decide +kernel) (by decide +kernel)
set_option maxRecDepth 20000 in
theorem gX9_envy_X9_envyOf : GoodIn wsX9_envy (wsV RX9 212 RX9 yX9_envyOf wsX9_envyOf) := goodIn_app (goodIn_of _ (by decide +kernel)) ggX9_envy_X9_envyOf
set_option maxRecDepth 20000 in
theorem ggX9_fairest_X9_findShared : GoodIn wsX9_fairest wsX9_findShared := goodIn_r _ [7, 2, 8, 9, 10, 11, 12, 6, 13, 1, 14, 15, 16, 17, 18, 19, 20, 21, 22, 23, 24, 25, 26, 27, 28, 29, 30, 44, 45, 46, 47, 48, 49, 50, 51, 52, 53, 54, 55, 56, 57, 58, 59, 60, 61, 62, 63, 64, 65, 66, 67, 68, 69, 70, 71] (by decide +kernel) (by decide +kernel)
set_option maxRecDepth 20000 in
theorem gX9_fairest_X9_findShared : GoodIn wsX9_fairest (wsV RX9 189 RX9 yX9_findShared wsX9_findShared) := goodIn_app (goodIn_of _ (by decide +kernel)) ggX9_fairest_X9_findShared
set_option maxRecDepth 20000 in
theorem ggX9_fairest_X9_sharings : GoodIn wsX9_fairest wsX9_sharings := goodIn_r _ [34, 2, 1, 44, 45, 46, 47, 48, 49, 50, 51, 52, 53, 54, 55, 56, 57, 58, 59, 60, 61, 62, 63, 64, 65, 66, 67, 68, 69, 70, 71] (by decide +kernel) (by decide +kernel)
set_option maxRecDepth 20000 in
theorem gX9_fairest_X9_sharings : GoodIn wsX9_fairest (wsV RX9 203 RX9 yX9_sharings wsX9_sharings) := goodIn_app (goodIn_of _ (by decide +kernel)) ggX9_fairest_X9_sharings
set_option maxRecDepth 20000 in
theorem ggX9_fairest_X9_parts : GoodIn wsX9_fairest wsX9_parts := goodIn_r _ [38, 2, 39, 1, 44, 45, 46, 47, 48, 49, 50, 51, 52, 53, 54, 55, 56, 57, 58, 59, 60, 61, 62, 63, 64, 65, 66, 67, 68, 69, 70, 71] (by decide +kernel) (by decide +kernel)
set_option maxRecDepth 20000 in
theorem gX9_fairest_X9_parts : GoodIn wsX9_fairest (wsV RX9 206 RX9 yX9_parts wsX9_parts) := goodIn_app (goodIn_of _ (by decide +kernel)) ggX9_fairest_X9_parts
set_option maxRecDepth 20000 in
theorem ggX9_fairest_X9_sumOf : GoodIn wsX9_fairest wsX9_sumOf := goodIn_r _ [43, 2, 39, 14, 9, 44, 45, 46, 47, 48, 49, 50, 51, 52, 53, 54, 55, 56, 57, 58, 59, 60, 61, 62, 63, 64, 65, 66, 67, 68, 69, 70, 71] (by decide +kernel) (by decide +kernel)
set_option maxRecDepth 20000 in
theorem gX9_fairest_X9_sumOf : GoodIn wsX9_fairest (wsV RX9 199 RX9 yX9_sumOf wsX9_sumOf) := goodIn_app (goodIn_of _ (by decide +kernel)) ggX9_fairest_X9_sumOf
set_option maxRecDepth 20000 in
theorem ggX9_bid_X9_isThing : GoodIn wsX9_bid wsX9_isThing := goodIn_r _ [6, 7, 8, 9, 5, 10, 36, 37, 38, 39, 40, 41, 42, 43, 44, 45, 46, 47, 48, 49, 50, 51, 52, 53, 54, 55, 56, 57, 58, 59, 60, 61, 62, 63] (by decide +kernel) (by decide +kernel)
set_option maxRecDepth 20000 in
theorem gX9_bid_X9_isThing : GoodIn wsX9_bid (wsV RX9 161 RX9 yX9_isThing wsX9_isThing) := goodIn_app (goodIn_of _ (by decide +kernel)) ggX9_bid_X9_isThing
set_option maxRecDepth 20000 in
theorem ggX9_bid_X9_wayNow : GoodIn wsX9_bid wsX9_wayNow := goodIn_r _ [14, 1, 15, 16, 17, 18, 19, 5, 20, 21, 22, 23, 24, 25, 26, 27, 28, 29, 30, 31, 36, 37, 38, 39, 40, 41, 42, 43, 44, 45, 46, 47, 48, 49, 50, 51, 52, 53, 54, 55, 56, 57, 58, 59, 60, 61, 62, 63] (by decide +kernel) (by decide +kernel)
set_option maxRecDepth 20000 in
theorem gX9_bid_X9_wayNow : GoodIn wsX9_bid (wsV RX9 175 RX9 yX9_wayNow wsX9_wayNow) := goodIn_app (goodIn_of _ (by decide +kernel)) ggX9_bid_X9_wayNow
set_option maxRecDepth 20000 in
theorem ggX9_bid_X9_bidder : GoodIn wsX9_bid wsX9_bidder := goodIn_r _ [35, 1, 15, 36, 37, 38, 39, 40, 41, 42, 43, 44, 45, 46, 47, 48, 49, 50, 51, 52, 53, 54, 55, 56, 57, 58, 59, 60, 61, 62, 63] (by decide +kernel) (by decide +kernel)
set_option maxRecDepth 20000 in
theorem gX9_bid_X9_bidder : GoodIn wsX9_bid (wsV RX9 215 RX9 yX9_bidder wsX9_bidder) := goodIn_app (goodIn_of _ (by decide +kernel)) ggX9_bid_X9_bidder
set_option maxRecDepth 20000 in
theorem ggX9_settled_X9_isHeir : GoodIn wsX9_settled wsX9_isHeir := goodIn_r _ [11, 6, 12, 13, 10, 14, 56, 57, 58, 59, 60, 61, 62, 63, 64, 65, 66, 67, 68, 69, 70, 71, 72, 73, 74, 75, 76, 77, 78, 79, 80, 81, 82, 83] (by decide +kernel) (by decide +kernel)
set_option maxRecDepth 20000 in
theorem gX9_settled_X9_isHeir : GoodIn wsX9_settled (wsV RX9 157 RX9 yX9_isHeir wsX9_isHeir) := goodIn_app (goodIn_of _ (by decide +kernel)) ggX9_settled_X9_isHeir
set_option maxRecDepth 20000 in
theorem ggX9_settled_X9_in : GoodIn wsX9_settled wsX9_in := goodIn_r _ [14] (by decide +kernel) (by decide +kernel)
set_option maxRecDepth 20000 in
theorem gX9_settled_X9_in : GoodIn wsX9_settled (va_wsS RX9 67 yX9_in wsX9_in) := goodIn_app (goodIn_of _ (by decide +kernel)) ggX9_settled_X9_in
set_option maxRecDepth 20000 in
theorem ggX9_settled_X9_findShared : GoodIn wsX9_settled wsX9_findShared := goodIn_r _ [18, 3, 19, 5, 20, 21, 22, 10, 23, 6, 24, 25, 26, 27, 28, 29, 30, 31, 32, 33, 34, 35, 36, 37, 38, 39, 40, 56, 57, 58, 59, 60, 61, 62, 63, 64, 65, 66, 67, 68, 69, 70, 71, 72, 73, 74, 75, 76, 77, 78, 79, 80, 81, 82, 83] (by decide +kernel) (by decide +kernel)
set_option maxRecDepth 20000 in
theorem gX9_settled_X9_findShared : GoodIn wsX9_settled (wsV RX9 189 RX9 yX9_findShared wsX9_findShared) := goodIn_app (goodIn_of _ (by decide +kernel)) ggX9_settled_X9_findShared
set_option maxRecDepth 20000 in
theorem ggX9_settled_X9_bidder : GoodIn wsX9_settled wsX9_bidder := goodIn_r _ [44, 6, 24, 56, 57, 58, 59, 60, 61, 62, 63, 64, 65, 66, 67, 68, 69, 70, 71, 72, 73, 74, 75, 76, 77, 78, 79, 80, 81, 82, 83] (by decide +kernel) (by decide +kernel)
set_option maxRecDepth 20000 in
theorem gX9_settled_X9_bidder : GoodIn wsX9_settled (wsV RX9 215 RX9 yX9_bidder wsX9_bidder) := goodIn_app (goodIn_of _ (by decide +kernel)) ggX9_settled_X9_bidder
set_option maxRecDepth 20000 in
theorem ggX9_settled_X9_sumOf : GoodIn wsX9_settled wsX9_sumOf := goodIn_r _ [48, 3, 4, 24, 5, 56, 57, 58, 59, 60, 61, 62, 63, 64, 65, 66, 67, 68, 69, 70, 71, 72, 73, 74, 75, 76, 77, 78, 79, 80, 81, 82, 83] (by decide +kernel) (by decide +kernel)
set_option maxRecDepth 20000 in
theorem gX9_settled_X9_sumOf : GoodIn wsX9_settled (wsV RX9 199 RX9 yX9_sumOf wsX9_sumOf) := goodIn_app (goodIn_of _ (by decide +kernel)) ggX9_settled_X9_sumOf
set_option maxRecDepth 20000 in
theorem ggX9_settled_X9_claimOf : GoodIn wsX9_settled wsX9_claimOf := goodIn_r _ [52, 3, 24, 5, 6, 56, 57, 58, 59, 60, 61, 62, 63, 64, 65, 66, 67, 68, 69, 70, 71, 72, 73, 74, 75, 76, 77, 78, 79, 80, 81, 82, 83] (by decide +kernel) (by decide +kernel)
set_option maxRecDepth 20000 in
theorem gX9_settled_X9_claimOf : GoodIn wsX9_settled (wsV RX9 219 RX9 yX9_claimOf wsX9_claimOf) := goodIn_app (goodIn_of _ (by decide +kernel)) ggX9_settled_X9_claimOf
set_option maxRecDepth 20000 in
theorem ggX9_settled_X9_down : GoodIn wsX9_settled wsX9_down := goodIn_r _ [55] (by decide +kernel) (by decide +kernel)
set_option maxRecDepth 20000 in
theorem gX9_settled_X9_down : GoodIn wsX9_settled (va_wsS RX9 222 yX9_down wsX9_down) := goodIn_app (goodIn_of _ (by decide +kernel)) ggX9_settled_X9_down
set_option maxRecDepth 20000 in
theorem ggX9_lays_X9_lawOf : GoodIn wsX9_lays wsX9_lawOf := goodIn_r _ [10, 11, 12, 13, 14, 15, 16, 17, 18, 19, 20, 21, 22, 23, 24, 25, 26, 27, 28, 29, 30, 31, 32, 33, 34, 35, 36, 37, 38, 39] (by decide +kernel) (by decide +kernel)
set_option maxRecDepth 20000 in
theorem gX9_lays_X9_lawOf : GoodIn wsX9_lays (wsV RX9 140 RX9 yX9_lawOf wsX9_lawOf) := goodIn_app (goodIn_of _ (by decide +kernel)) ggX9_lays_X9_lawOf
set_option maxRecDepth 20000 in
theorem ggX9_findLoads_X9_wayNow : GoodIn wsX9_findLoads wsX9_wayNow := goodIn_r _ [9, 10, 11, 12, 13, 14, 15, 8, 16, 17, 18, 19, 20, 21, 22, 23, 24, 25, 26, 27, 34, 35, 36, 37, 38, 39, 40, 41, 42, 43, 44, 45, 46, 47, 48, 49, 50, 51, 52, 53, 54, 55, 56, 57, 58, 59, 60, 61] (by decide +kernel) (by decide +kernel)
set_option maxRecDepth 20000 in
theorem gX9_findLoads_X9_wayNow : GoodIn wsX9_findLoads (wsV RX9 175 RX9 yX9_wayNow wsX9_wayNow) := goodIn_app (goodIn_of _ (by decide +kernel)) ggX9_findLoads_X9_wayNow
set_option maxRecDepth 20000 in
theorem ggX9_findLoads_X9_lawOf : GoodIn wsX9_findLoads wsX9_lawOf := goodIn_r _ [26, 27, 34, 35, 36, 37, 38, 39, 40, 41, 42, 43, 44, 45, 46, 47, 48, 49, 50, 51, 52, 53, 54, 55, 56, 57, 58, 59, 60, 61] (by decide +kernel) (by decide +kernel)
set_option maxRecDepth 20000 in
theorem gX9_findLoads_X9_lawOf : GoodIn wsX9_findLoads (wsV RX9 140 RX9 yX9_lawOf wsX9_lawOf) := goodIn_app (goodIn_of _ (by decide +kernel)) ggX9_findLoads_X9_lawOf
set_option maxRecDepth 20000 in
theorem ggX9_findLoads_X9_lays : GoodIn wsX9_findLoads wsX9_lays := goodIn_r _ [31, 32, 1, 33, 4, 3, 23, 24, 25, 8, 26, 27, 34, 35, 36, 37, 38, 39, 40, 41, 42, 43, 44, 45, 46, 47, 48, 49, 50, 51, 52, 53, 54, 55, 56, 57, 58, 59, 60, 61] (by decide +kernel) (by decide +kernel)
set_option maxRecDepth 20000 in
theorem gX9_findLoads_X9_lays : GoodIn wsX9_findLoads (wsV RX9 228 RX9 yX9_lays wsX9_lays) := goodIn_app (goodIn_of _ (by decide +kernel)) ggX9_findLoads_X9_lays
set_option maxRecDepth 20000 in
theorem ggX9_loads_X9_in : GoodIn wsX9_loads wsX9_in := goodIn_r _ [5] (by decide +kernel) (by decide +kernel)
set_option maxRecDepth 20000 in
theorem gX9_loads_X9_in : GoodIn wsX9_loads (va_wsS RX9 67 yX9_in wsX9_in) := goodIn_app (goodIn_of _ (by decide +kernel)) ggX9_loads_X9_in
set_option maxRecDepth 20000 in
theorem ggX9_loads_X9_findLoads : GoodIn wsX9_loads wsX9_findLoads := goodIn_r _ [9, 10, 11, 12, 13, 14, 15, 16, 4, 17, 18, 19, 20, 21, 22, 23, 24, 25, 26, 27, 28, 29, 30, 31, 32, 33, 34, 35, 36, 37, 38, 39, 40, 41, 42, 43, 44, 45, 46, 47, 48, 49, 50, 51, 52, 53, 54, 55, 56, 57, 58, 59, 60, 61, 62, 63, 64, 65, 66, 67, 68, 69] (by decide +kernel) (by decide +kernel)
set_option maxRecDepth 20000 in
theorem gX9_loads_X9_findLoads : GoodIn wsX9_loads (wsV RX9 231 RX9 yX9_findLoads wsX9_findLoads) := goodIn_app (goodIn_of _ (by decide +kernel)) ggX9_loads_X9_findLoads
set_option maxRecDepth 20000 in
theorem ggX9_load_X9_isThing : GoodIn wsX9_load wsX9_isThing := goodIn_r _ [7, 8, 9, 10, 6, 11, 45, 46, 47, 48, 49, 50, 51, 52, 53, 54, 55, 56, 57, 58, 59, 60, 61, 62, 63, 64, 65, 66, 67, 68, 69, 70, 71, 72] (by decide +kernel) (by decide +kernel)
set_option maxRecDepth 20000 in
theorem gX9_load_X9_isThing : GoodIn wsX9_load (wsV RX9 161 RX9 yX9_isThing wsX9_isThing) := goodIn_app (goodIn_of _ (by decide +kernel)) ggX9_load_X9_isThing
set_option maxRecDepth 20000 in
theorem ggX9_load_X9_wayNow : GoodIn wsX9_load wsX9_wayNow := goodIn_r _ [15, 16, 17, 18, 19, 20, 21, 6, 22, 23, 24, 25, 26, 27, 28, 29, 30, 31, 32, 33, 45, 46, 47, 48, 49, 50, 51, 52, 53, 54, 55, 56, 57, 58, 59, 60, 61, 62, 63, 64, 65, 66, 67, 68, 69, 70, 71, 72] (by decide +kernel) (by decide +kernel)
set_option maxRecDepth 20000 in
theorem gX9_load_X9_wayNow : GoodIn wsX9_load (wsV RX9 175 RX9 yX9_wayNow wsX9_wayNow) := goodIn_app (goodIn_of _ (by decide +kernel)) ggX9_load_X9_wayNow
set_option maxRecDepth 20000 in
theorem ggX9_load_X9_findLoads : GoodIn wsX9_load wsX9_findLoads := goodIn_r _ [37, 38, 8, 1, 39, 12, 13, 14, 6, 15, 16, 17, 18, 19, 20, 21, 22, 23, 24, 25, 26, 27, 28, 29, 30, 31, 32, 33, 40, 41, 42, 43, 44, 2, 45, 46, 47, 48, 49, 50, 51, 52, 53, 54, 55, 56, 57, 58, 59, 60, 61, 62, 63, 64, 65, 66, 67, 68, 69, 70, 71, 72] (by decide +kernel) (by decide +kernel)
set_option maxRecDepth 20000 in
theorem gX9_load_X9_findLoads : GoodIn wsX9_load (wsV RX9 231 RX9 yX9_findLoads wsX9_findLoads) := goodIn_app (goodIn_of _ (by decide +kernel)) ggX9_load_X9_findLoads
set_option maxRecDepth 20000 in
theorem ggX9_isSheet_X9_in : GoodIn wsX9_isSheet wsX9_in := goodIn_r _ [6] (by decide +kernel) (by decide +kernel)
set_option maxRecDepth 20000 in
theorem gX9_isSheet_X9_in : GoodIn wsX9_isSheet (va_wsS RX9 67 yX9_in wsX9_in) := goodIn_app (goodIn_of _ (by decide +kernel)) ggX9_isSheet_X9_in
set_option maxRecDepth 20000 in
theorem ggX9_sheet_X9_isSheet : GoodIn wsX9_sheet wsX9_isSheet := goodIn_r _ [7, 8, 9, 10, 11, 6, 12] (by decide +kernel) (by decide +kernel)
set_option maxRecDepth 20000 in
theorem gX9_sheet_X9_isSheet : GoodIn wsX9_sheet (va_wsS RX9 236 yX9_isSheet wsX9_isSheet) := goodIn_app (goodIn_of _ (by decide +kernel)) ggX9_sheet_X9_isSheet
set_option maxRecDepth 20000 in
theorem ggX9_lay_X9_isSheet : GoodIn wsX9_lay wsX9_isSheet := goodIn_r _ [7, 8, 9, 10, 11, 6, 12] (by decide +kernel) (by decide +kernel)
set_option maxRecDepth 20000 in
theorem gX9_lay_X9_isSheet : GoodIn wsX9_lay (va_wsS RX9 236 yX9_isSheet wsX9_isSheet) := goodIn_app (goodIn_of _ (by decide +kernel)) ggX9_lay_X9_isSheet
set_option maxRecDepth 20000 in
theorem ggX9_lay_X9_in : GoodIn wsX9_lay wsX9_in := goodIn_r _ [12] (by decide +kernel) (by decide +kernel)
set_option maxRecDepth 20000 in
theorem gX9_lay_X9_in : GoodIn wsX9_lay (va_wsS RX9 67 yX9_in wsX9_in) := goodIn_app (goodIn_of _ (by decide +kernel)) ggX9_lay_X9_in
set_option maxRecDepth 20000 in
theorem ggX9_worths_X9_isHeir : GoodIn wsX9_worths wsX9_isHeir := goodIn_r _ [11, 12, 13, 14, 10, 15, 21, 22, 23, 24, 25, 26, 27, 28, 29, 30, 31, 32, 33, 34, 35, 36, 37, 38, 39, 40, 41, 42, 43, 44, 45, 46, 47, 48] (by decide +kernel) (by decide +kernel)
set_option maxRecDepth 20000 in
theorem gX9_worths_X9_isHeir : GoodIn wsX9_worths (wsV RX9 157 RX9 yX9_isHeir wsX9_isHeir) := goodIn_app (goodIn_of _ (by decide +kernel)) ggX9_worths_X9_isHeir
set_option maxRecDepth 20000 in
theorem ggX9_worths_X9_isSheet : GoodIn wsX9_worths wsX9_isSheet := goodIn_r _ [18, 19, 20, 13, 14, 10, 15] (by decide +kernel) (by decide +kernel)
set_option maxRecDepth 20000 in
theorem gX9_worths_X9_isSheet : GoodIn wsX9_worths (va_wsS RX9 236 yX9_isSheet wsX9_isSheet) := goodIn_app (goodIn_of _ (by decide +kernel)) ggX9_worths_X9_isSheet
set_option maxRecDepth 20000 in
theorem ggX9_worths_X9_in : GoodIn wsX9_worths wsX9_in := goodIn_r _ [15] (by decide +kernel) (by decide +kernel)
set_option maxRecDepth 20000 in
theorem gX9_worths_X9_in : GoodIn wsX9_worths (va_wsS RX9 67 yX9_in wsX9_in) := goodIn_app (goodIn_of _ (by decide +kernel)) ggX9_worths_X9_in
set_option maxRecDepth 20000 in
theorem ggX9_count_X9_findShared : GoodIn wsX9_count wsX9_findShared := goodIn_r _ [8, 3, 2, 9, 10, 11, 12, 7, 13, 1, 14, 15, 16, 17, 18, 19, 20, 21, 22, 23, 24, 25, 26, 27, 28, 29, 30, 35, 36, 37, 38, 39, 40, 41, 42, 43, 44, 45, 46, 47, 48, 49, 50, 51, 52, 53, 54, 55, 56, 57, 58, 59, 60, 61, 62] (by decide +kernel) (by decide +kernel)
set_option maxRecDepth 20000 in
theorem gX9_count_X9_findShared : GoodIn wsX9_count (wsV RX9 189 RX9 yX9_findShared wsX9_findShared) := goodIn_app (goodIn_of _ (by decide +kernel)) ggX9_count_X9_findShared
set_option maxRecDepth 20000 in
theorem ggX9_count_X9_lawMany : GoodIn wsX9_count wsX9_lawMany := goodIn_r _ [34, 30, 35, 36, 37, 38, 39, 40, 41, 42, 43, 44, 45, 46, 47, 48, 49, 50, 51, 52, 53, 54, 55, 56, 57, 58, 59, 60, 61, 62] (by decide +kernel) (by decide +kernel)
set_option maxRecDepth 20000 in
theorem gX9_count_X9_lawMany : GoodIn wsX9_count (wsV RX9 135 RX9 yX9_lawMany wsX9_lawMany) := goodIn_app (goodIn_of _ (by decide +kernel)) ggX9_count_X9_lawMany
