set_option maxRecDepth 20000 in
theorem ggX2_init_X6_init : GoodIn wsX2_init wsX6_init := goodIn_r _ [19, 20, 2, 3, 21, 28, 29, 30, 31, 32] (by decide +kernel) (by decide +kernel)
set_option maxRecDepth 20000 in
theorem gX2_init_X6_init : GoodIn wsX2_init (wsX6_init) := ggX2_init_X6_init
set_option maxRecDepth 20000 in
theorem ggX2_readTape_X6_rewind : GoodIn wsX2_readTape wsX6_rewind := goodIn_r _ [17, 18, 127, 128, 129, 130, 131] (by decide +kernel) (by decide +kernel)
set_option maxRecDepth 20000 in
theorem gX2_readTape_X6_rewind : GoodIn wsX2_readTape (wsV RX2 35 RX6 yX6_rewind wsX6_rewind) := goodIn_app (goodIn_of _ (by decide +kernel)) ggX2_readTape_X6_rewind
set_option maxRecDepth 20000 in
theorem ggX2_readTape_X6_advance : GoodIn wsX2_readTape wsX6_advance := goodIn_r _ [22, 18, 23, 24, 25, 26, 27, 28, 29, 16, 30, 31, 32, 33, 34, 35, 36, 37, 38, 39, 40, 41, 42, 43, 44, 45, 46, 47, 48, 49, 50, 51, 52, 53, 54, 55, 56, 57, 58, 59, 60, 61, 62, 63, 64, 65, 66, 67, 68, 69, 70, 71, 72, 73, 74, 75, 76, 77, 78, 79, 80, 81, 82, 83, 84, 85, 86, 87, 88, 89, 90, 91, 92, 127, 128, 129, 130, 131, 132, 133] (by decide +kernel) (by decide +kernel)
set_option maxRecDepth 20000 in
theorem gX2_readTape_X6_advance : GoodIn wsX2_readTape (wsV RX2 51 RX6 yX6_advance wsX6_advance) := goodIn_app (goodIn_of _ (by decide +kernel)) ggX2_readTape_X6_advance
set_option maxRecDepth 20000 in
theorem ggX2_readTape_X2_readLaw : GoodIn wsX2_readTape wsX2_readLaw := goodIn_r _ [97, 1, 9, 98, 7, 99, 100, 101, 96, 102, 19, 20, 21, 16, 22, 18, 23, 24, 25, 26, 27, 28, 29, 30, 31, 32, 33, 34, 35, 36, 37, 38, 39, 40, 41, 42, 43, 44, 45, 46, 47, 48, 49, 50, 51, 52, 53, 54, 55, 56, 57, 58, 59, 60, 61, 62, 63, 64, 65, 66, 67, 68, 69, 70, 71, 72, 73, 74, 75, 76, 77, 78, 79, 80, 81, 82, 83, 84, 85, 86, 87, 88, 89, 90, 91, 92, 103, 104, 105, 106, 2, 107, 108, 109, 110, 111, 112, 113, 121, 122, 123, 124, 125, 126, 127, 128, 129, 130, 131, 132, 133] (by decide +kernel) (by decide +kernel)
set_option maxRecDepth 20000 in
theorem gX2_readTape_X2_readLaw : GoodIn wsX2_readTape (wsV RX2 57 RX2 yX2_readLaw wsX2_readLaw) := goodIn_app (goodIn_of _ (by decide +kernel)) ggX2_readTape_X2_readLaw
set_option maxRecDepth 20000 in
theorem ggX2_readTape_J6_bitCount_0f7a4 : GoodIn wsX2_readTape wsJ6_bitCount_0f7a4 := goodIn_r _ [117, 118, 119, 120] (by decide +kernel) (by decide +kernel)
set_option maxRecDepth 20000 in
theorem gX2_readTape_J6_bitCount_0f7a4 : GoodIn wsX2_readTape (va_wsS RX2 64 yJ6_bitCount_0f7a4 wsJ6_bitCount_0f7a4) := goodIn_app (goodIn_of _ (by decide +kernel)) ggX2_readTape_J6_bitCount_0f7a4
set_option maxRecDepth 20000 in
theorem ggX2_readLaw_X2_misfit : GoodIn wsX2_readLaw wsX2_misfit := goodIn_r _ [9, 1, 2, 98, 99, 100, 101, 102, 103, 104, 105, 106, 107, 108] (by decide +kernel) (by decide +kernel)
set_option maxRecDepth 20000 in
theorem gX2_readLaw_X2_misfit : GoodIn wsX2_readLaw (wsV RX2 75 RX2 yX2_misfit wsX2_misfit) := goodIn_app (goodIn_of _ (by decide +kernel)) ggX2_readLaw_X2_misfit
set_option maxRecDepth 20000 in
theorem ggX2_readLaw_X6_advance : GoodIn wsX2_readLaw wsX6_advance := goodIn_r _ [14, 15, 16, 17, 18, 19, 20, 21, 22, 13, 23, 24, 25, 26, 27, 28, 29, 30, 31, 32, 33, 34, 35, 36, 37, 38, 39, 40, 41, 42, 43, 44, 45, 46, 47, 48, 49, 50, 51, 52, 53, 54, 55, 56, 57, 58, 59, 60, 61, 62, 63, 64, 65, 66, 67, 68, 69, 70, 71, 72, 73, 74, 75, 76, 77, 78, 79, 80, 81, 82, 83, 84, 85, 104, 105, 106, 107, 108, 109, 110] (by decide +kernel) (by decide +kernel)
set_option maxRecDepth 20000 in
theorem gX2_readLaw_X6_advance : GoodIn wsX2_readLaw (wsV RX2 51 RX6 yX6_advance wsX6_advance) := goodIn_app (goodIn_of _ (by decide +kernel)) ggX2_readLaw_X6_advance
set_option maxRecDepth 20000 in
theorem ggX2_readLaw_X2_readAmount : GoodIn wsX2_readLaw wsX2_readAmount := goodIn_r _ [89, 1, 2, 3, 90, 5, 6, 7, 8, 9, 91, 92, 93, 98, 99, 100, 101, 102, 103, 104, 105, 106, 107, 108] (by decide +kernel) (by decide +kernel)
set_option maxRecDepth 20000 in
theorem gX2_readLaw_X2_readAmount : GoodIn wsX2_readLaw (wsV RX2 78 RX2 yX2_readAmount wsX2_readAmount) := goodIn_app (goodIn_of _ (by decide +kernel)) ggX2_readLaw_X2_readAmount
set_option maxRecDepth 20000 in
theorem ggX2_readLaw_X2_readWay : GoodIn wsX2_readLaw wsX2_readWay := goodIn_r _ [97, 1, 2, 3, 90, 5, 6, 7, 8, 9, 98, 99, 100, 101, 102, 103, 104, 105, 106, 107, 108] (by decide +kernel) (by decide +kernel)
set_option maxRecDepth 20000 in
theorem gX2_readLaw_X2_readWay : GoodIn wsX2_readLaw (wsV RX2 81 RX2 yX2_readWay wsX2_readWay) := goodIn_app (goodIn_of _ (by decide +kernel)) ggX2_readLaw_X2_readWay
set_option maxRecDepth 20000 in
theorem ggX2_readAmount_X2_misfit : GoodIn wsX2_readAmount wsX2_misfit := goodIn_r _ [9, 1, 2, 13, 14, 15, 16, 17, 18, 19, 20, 21, 22, 23] (by decide +kernel) (by decide +kernel)
set_option maxRecDepth 20000 in
theorem gX2_readAmount_X2_misfit : GoodIn wsX2_readAmount (wsV RX2 75 RX2 yX2_misfit wsX2_misfit) := goodIn_app (goodIn_of _ (by decide +kernel)) ggX2_readAmount_X2_misfit
set_option maxRecDepth 20000 in
theorem ggX2_readAmount_X8_isWithin : GoodIn wsX2_readAmount wsX8_isWithin := goodIn_r _ [12] (by decide +kernel) (by decide +kernel)
set_option maxRecDepth 20000 in
theorem gX2_readAmount_X8_isWithin_n90 : GoodIn wsX2_readAmount (wsX8_isWithin) := ggX2_readAmount_X8_isWithin
set_option maxRecDepth 20000 in
theorem ggX2_readWay_X2_misfit : GoodIn wsX2_readWay wsX2_misfit := goodIn_r _ [9, 1, 2, 10, 11, 12, 13, 14, 15, 16, 17, 18, 19, 20] (by decide +kernel) (by decide +kernel)
set_option maxRecDepth 20000 in
theorem gX2_readWay_X2_misfit : GoodIn wsX2_readWay (wsV RX2 75 RX2 yX2_misfit wsX2_misfit) := goodIn_app (goodIn_of _ (by decide +kernel)) ggX2_readWay_X2_misfit
