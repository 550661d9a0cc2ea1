set_option maxRecDepth 20000 in
theorem ggX6_advance_X6_placeBehind : GoodIn wsX6_advance wsX6_placeBehind := goodIn_r _ [10, 3, 4, 11, 12, 13, 14, 15, 16, 17, 73, 74, 75, 76, 77, 78, 79] (by decide +kernel) (by decide +kernel)
set_option maxRecDepth 20000 in
theorem gX6_advance_X6_placeBehind : GoodIn wsX6_advance (wsV RX6 19 RX6 yX6_placeBehind wsX6_placeBehind) := goodIn_app (goodIn_of _ (by decide +kernel)) ggX6_advance_X6_placeBehind
set_option maxRecDepth 20000 in
theorem ggX6_advance_X5_hasBetween : GoodIn wsX6_advance wsX5_hasBetween := goodIn_r _ [15, 16, 17, 78, 79] (by decide +kernel) (by decide +kernel)
set_option maxRecDepth 20000 in
theorem gX6_advance_X5_hasBetween : GoodIn wsX6_advance (wsV RX6 34 RX5 yX5_hasBetween wsX5_hasBetween) := goodIn_app (goodIn_of _ (by decide +kernel)) ggX6_advance_X5_hasBetween
set_option maxRecDepth 20000 in
theorem ggX6_advance_X6_readName : GoodIn wsX6_advance wsX6_readName := goodIn_r _ [21, 2, 1, 5, 22, 6, 7, 8, 9, 10, 3, 4, 11, 12, 13, 14, 15, 16, 17, 23, 24, 25, 26, 27, 28, 29, 30, 31, 32, 33, 34, 35, 36, 37, 38, 39, 40, 41, 42, 43, 44, 45, 46, 47, 48, 49, 50, 51, 52, 53, 54, 55, 56, 57, 58, 59, 60, 61, 62, 63, 64, 65, 66, 67, 68, 73, 74, 75, 76, 77, 78, 79] (by decide +kernel) (by decide +kernel)
set_option maxRecDepth 20000 in
theorem gX6_advance_X6_readName : GoodIn wsX6_advance (wsV RX6 38 RX6 yX6_readName wsX6_readName) := goodIn_app (goodIn_of _ (by decide +kernel)) ggX6_advance_X6_readName
set_option maxRecDepth 20000 in
theorem ggX6_advance_X6_readNumber : GoodIn wsX6_advance wsX6_readNumber := goodIn_r _ [72, 2, 1, 5, 22, 3, 27, 6, 7, 8, 9, 10, 4, 11, 12, 13, 14, 15, 16, 17, 73, 74, 75, 76, 77, 78, 79] (by decide +kernel) (by decide +kernel)
set_option maxRecDepth 20000 in
theorem gX6_advance_X6_readNumber : GoodIn wsX6_advance (wsV RX6 41 RX6 yX6_readNumber wsX6_readNumber) := goodIn_app (goodIn_of _ (by decide +kernel)) ggX6_advance_X6_readNumber
set_option maxRecDepth 20000 in
theorem ggX6_placeBehind_X5_hasBetween : GoodIn wsX6_placeBehind wsX5_hasBetween := goodIn_r _ [7, 8, 9, 15, 16] (by decide +kernel) (by decide +kernel)
set_option maxRecDepth 20000 in
theorem gX6_placeBehind_X5_hasBetween : GoodIn wsX6_placeBehind (wsV RX6 34 RX5 yX5_hasBetween wsX5_hasBetween) := goodIn_app (goodIn_of _ (by decide +kernel)) ggX6_placeBehind_X5_hasBetween
set_option maxRecDepth 20000 in
theorem ggX6_readName_X6_placeBehind : GoodIn wsX6_readName wsX6_placeBehind := goodIn_r _ [9, 10, 11, 12, 13, 14, 15, 16, 17, 18, 65, 66, 67, 68, 69, 70, 71] (by decide +kernel) (by decide +kernel)
set_option maxRecDepth 20000 in
theorem gX6_readName_X6_placeBehind : GoodIn wsX6_readName (wsV RX6 19 RX6 yX6_placeBehind wsX6_placeBehind) := goodIn_app (goodIn_of _ (by decide +kernel)) ggX6_readName_X6_placeBehind
set_option maxRecDepth 20000 in
theorem ggX6_readName_X6_isName : GoodIn wsX6_readName wsX6_isName := goodIn_r _ [22, 2, 1, 10, 23, 24, 25, 26, 27, 28, 29, 30, 31, 32, 33, 34, 35, 36, 37, 38, 39, 40, 41, 42, 43, 44, 45, 46, 47, 48, 49, 50, 51, 52, 53, 54, 55, 56, 57, 58, 59, 60, 61, 62, 63, 64, 65, 66, 67, 68, 69, 70, 71] (by decide +kernel) (by decide +kernel)
set_option maxRecDepth 20000 in
theorem gX6_readName_X6_isName : GoodIn wsX6_readName (wsV RX6 44 RX6 yX6_isName wsX6_isName) := goodIn_app (goodIn_of _ (by decide +kernel)) ggX6_readName_X6_isName
set_option maxRecDepth 20000 in
theorem ggX6_isName_J0_charAt_5068e : GoodIn wsX6_isName wsJ0_charAt_5068e := goodIn_r _ [9, 10, 11, 12, 13, 8, 14, 15, 16, 17, 18, 19, 20, 21, 22, 23, 24, 25, 26, 27, 28, 29, 30, 31, 32, 33, 34, 35, 36, 37, 38, 39, 40, 41, 42, 43, 44, 45] (by decide +kernel) (by decide +kernel)
set_option maxRecDepth 20000 in
theorem gX6_isName_J0_charAt_5068e : GoodIn wsX6_isName (wsV RX6 53 RJ0 yJ0_charAt_5068e wsJ0_charAt_5068e) := goodIn_app (goodIn_of _ (by decide +kernel)) ggX6_isName_J0_charAt_5068e
set_option maxRecDepth 20000 in
theorem ggX6_readNumber_X6_placeBehind : GoodIn wsX6_readNumber wsX6_placeBehind := goodIn_r _ [11, 5, 12, 13, 14, 15, 16, 17, 18, 19, 20, 21, 22, 23, 24, 25, 26] (by decide +kernel) (by decide +kernel)
set_option maxRecDepth 20000 in
theorem gX6_readNumber_X6_placeBehind : GoodIn wsX6_readNumber (wsV RX6 19 RX6 yX6_placeBehind wsX6_placeBehind) := goodIn_app (goodIn_of _ (by decide +kernel)) ggX6_readNumber_X6_placeBehind
