set_option maxRecDepth 20000 in
theorem ggX0_bestNumber_X1_keenest : GoodIn wsX0_bestNumber wsX1_keenest := goodIn_r _ [20, 21, 22, 48, 49, 50, 51, 52, 53, 54, 55, 56] (by decide +kernel) (by decide +kernel)
set_option maxRecDepth 20000 in
theorem gX0_bestNumber_X1_keenest : GoodIn wsX0_bestNumber (wsV RX0 45 RX1 yX1_keenest wsX1_keenest) := goodIn_app (goodIn_of _ (by decide +kernel)) ggX0_bestNumber_X1_keenest
set_option maxRecDepth 20000 in
theorem ggX0_bestNumber_X0_seek : GoodIn wsX0_bestNumber wsX0_seek := goodIn_r _ [26, 9, 10, 11, 1, 3, 5, 7, 6, 27, 28, 29, 30, 25, 31, 4, 8, 32, 33, 34, 35, 12, 13, 14, 15, 23, 24, 36, 37, 38, 39, 40, 41, 42, 43, 44, 45, 46, 47, 48, 49, 50, 51, 52, 53, 54, 55, 56] (by decide +kernel) (by decide +kernel)
set_option maxRecDepth 20000 in
theorem gX0_bestNumber_X0_seek : GoodIn wsX0_bestNumber (va_wsS RX0 67 yX0_seek wsX0_seek) := goodIn_app (goodIn_of _ (by decide +kernel)) ggX0_bestNumber_X0_seek
set_option maxRecDepth 20000 in
theorem ggX0_seek_X0_mayBeBetter : GoodIn wsX0_seek wsX0_mayBeBetter := goodIn_r _ [14, 15, 2, 1, 6, 7, 9, 16, 27, 28, 29, 30, 31, 32, 33, 34, 39, 40, 41, 42, 43, 44, 45, 46, 47] (by decide +kernel) (by decide +kernel)
set_option maxRecDepth 20000 in
theorem gX0_seek_X0_mayBeBetter : GoodIn wsX0_seek (wsV RX0 71 RX0 yX0_mayBeBetter wsX0_mayBeBetter) := goodIn_app (goodIn_of _ (by decide +kernel)) ggX0_seek_X0_mayBeBetter
set_option maxRecDepth 20000 in
theorem ggX0_seek_X0_leastSum : GoodIn wsX0_seek wsX0_leastSum := goodIn_r _ [20, 9, 6, 7, 21, 22, 23, 24, 27, 28, 29, 30, 31, 32, 33, 34, 39, 40, 41, 42, 43, 44, 45, 46, 47] (by decide +kernel) (by decide +kernel)
set_option maxRecDepth 20000 in
theorem gX0_seek_X0_leastSum : GoodIn wsX0_seek (wsV RX0 75 RX0 yX0_leastSum wsX0_leastSum) := goodIn_app (goodIn_of _ (by decide +kernel)) ggX0_seek_X0_leastSum
set_option maxRecDepth 20000 in
theorem ggX0_seek_X0_seek : GoodIn wsX0_seek wsX0_seek := goodIn_r _ [0, 1, 2, 3, 4, 5, 6, 7, 8, 9, 10, 11, 12, 13, 14, 15, 16, 17, 18, 19, 20, 21, 22, 23, 24, 25, 26, 27, 28, 29, 30, 31, 32, 33, 34, 35, 36, 37, 38, 39, 40, 41, 42, 43, 44, 45, 46, 47] (by decide +kernel) (by decide +kernel)
set_option maxRecDepth 20000 in
theorem gX0_seek_X0_seek : GoodIn wsX0_seek (va_wsS RX0 67 yX0_seek wsX0_seek) := goodIn_app (goodIn_of _ (by decide +kernel)) ggX0_seek_X0_seek
