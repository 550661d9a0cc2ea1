set_option maxRecDepth 20000 in
theorem ggX1_wayOf_X1_hasMark : GoodIn wsX1_wayOf wsX1_hasMark := goodIn_r _ [8, 9, 21, 22, 23, 24, 25, 26, 27, 28, 29] (by decide +kernel) (by decide +kernel)
set_option maxRecDepth 20000 in
theorem gX1_wayOf_X1_hasMark : GoodIn wsX1_wayOf (wsV RX1 43 RX1 yX1_hasMark wsX1_hasMark) := goodIn_app (goodIn_of _ (by decide +kernel)) ggX1_wayOf_X1_hasMark
set_option maxRecDepth 20000 in
theorem ggX1_wayOf_X1_isKeptPaper : GoodIn wsX1_wayOf wsX1_isKeptPaper := goodIn_r _ [13, 14, 1, 2, 4, 5, 6, 7, 8, 9, 21, 22, 23, 24, 25, 26, 27, 28, 29, 30, 31, 32, 33, 34, 35] (by decide +kernel) (by decide +kernel)
set_option maxRecDepth 20000 in
theorem gX1_wayOf_X1_isKeptPaper : GoodIn wsX1_wayOf (wsV RX1 52 RX1 yX1_isKeptPaper wsX1_isKeptPaper) := goodIn_app (goodIn_of _ (by decide +kernel)) ggX1_wayOf_X1_isKeptPaper
set_option maxRecDepth 20000 in
theorem ggX1_wayOf_X1_isWanted : GoodIn wsX1_wayOf wsX1_isWanted := goodIn_r _ [18, 19, 20, 21, 22, 23, 24, 25, 26, 27, 28, 29] (by decide +kernel) (by decide +kernel)
set_option maxRecDepth 20000 in
theorem gX1_wayOf_X1_isWanted : GoodIn wsX1_wayOf (wsV RX1 56 RX1 yX1_isWanted wsX1_isWanted) := goodIn_app (goodIn_of _ (by decide +kernel)) ggX1_wayOf_X1_isWanted
set_option maxRecDepth 20000 in
theorem ggX1_isKeptPaper_X1_hasMark : GoodIn wsX1_isKeptPaper wsX1_hasMark := goodIn_r _ [8, 9, 10, 11, 12, 13, 14, 15, 16, 17, 18] (by decide +kernel) (by decide +kernel)
set_option maxRecDepth 20000 in
theorem gX1_isKeptPaper_X1_hasMark : GoodIn wsX1_isKeptPaper (wsV RX1 43 RX1 yX1_hasMark wsX1_hasMark) := goodIn_app (goodIn_of _ (by decide +kernel)) ggX1_isKeptPaper_X1_hasMark
set_option maxRecDepth 20000 in
theorem ggX1_countOnWay_X1_wayOf : GoodIn wsX1_countOnWay wsX1_wayOf := goodIn_r _ [6, 7, 8, 9, 10, 11, 12, 5, 13, 14, 15, 16, 17, 18, 19, 20, 21, 22, 23, 24, 25, 26, 27, 28, 29, 30, 31, 32, 33, 34, 35, 36, 37, 38, 39, 40] (by decide +kernel) (by decide +kernel)
set_option maxRecDepth 20000 in
theorem gX1_countOnWay_X1_wayOf : GoodIn wsX1_countOnWay (wsV RX1 59 RX1 yX1_wayOf wsX1_wayOf) := goodIn_app (goodIn_of _ (by decide +kernel)) ggX1_countOnWay_X1_wayOf
set_option maxRecDepth 20000 in
theorem ggX1_sumOnWay_X1_wayOf : GoodIn wsX1_sumOnWay wsX1_wayOf := goodIn_r _ [6, 7, 8, 9, 10, 11, 12, 5, 13, 14, 15, 16, 17, 18, 19, 20, 21, 22, 23, 24, 25, 26, 27, 28, 29, 30, 31, 32, 33, 34, 35, 36, 37, 38, 39, 40] (by decide +kernel) (by decide +kernel)
set_option maxRecDepth 20000 in
theorem gX1_sumOnWay_X1_wayOf : GoodIn wsX1_sumOnWay (wsV RX1 59 RX1 yX1_wayOf wsX1_wayOf) := goodIn_app (goodIn_of _ (by decide +kernel)) ggX1_sumOnWay_X1_wayOf
set_option maxRecDepth 20000 in
theorem ggX1_secondLook_X1_hasMark : GoodIn wsX1_secondLook wsX1_hasMark := goodIn_r _ [13, 14, 20, 21, 22, 23, 24, 25, 26, 27, 28] (by decide +kernel) (by decide +kernel)
set_option maxRecDepth 20000 in
theorem gX1_secondLook_X1_hasMark : GoodIn wsX1_secondLook (wsV RX1 43 RX1 yX1_hasMark wsX1_hasMark) := goodIn_app (goodIn_of _ (by decide +kernel)) ggX1_secondLook_X1_hasMark
set_option maxRecDepth 20000 in
theorem ggX1_secondLook_X1_isKeptPaper : GoodIn wsX1_secondLook wsX1_isKeptPaper := goodIn_r _ [18, 19, 1, 2, 9, 10, 11, 12, 13, 14, 20, 21, 22, 23, 24, 25, 26, 27, 28, 29, 30, 31, 32, 33, 34] (by decide +kernel) (by decide +kernel)
set_option maxRecDepth 20000 in
theorem gX1_secondLook_X1_isKeptPaper : GoodIn wsX1_secondLook (wsV RX1 52 RX1 yX1_isKeptPaper wsX1_isKeptPaper) := goodIn_app (goodIn_of _ (by decide +kernel)) ggX1_secondLook_X1_isKeptPaper
