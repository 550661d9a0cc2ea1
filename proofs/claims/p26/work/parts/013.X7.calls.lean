set_option maxRecDepth 20000 in
theorem ggX7_fewest_X7_gatherCargo : GoodIn wsX7_fewest wsX7_gatherCargo := goodIn_r _ [11, 3, 4, 12, 6, 13, 14, 15, 16, 17, 18, 19, 20, 21, 22, 23, 24, 25, 26, 27, 28, 29, 30, 31, 32, 33, 34, 35, 36, 37, 50, 51, 52, 53, 54, 55, 62, 63, 64, 65, 66, 67, 68, 69, 70, 56, 57, 58, 59, 60, 61] (by decide +kernel) (by decide +kernel)
set_option maxRecDepth 20000 in
theorem gX7_fewest_X7_gatherCargo : GoodIn wsX7_fewest (wsV RX7 29 RX7 yX7_gatherCargo wsX7_gatherCargo) := goodIn_app (goodIn_of _ (by decide +kernel)) ggX7_fewest_X7_gatherCargo
set_option maxRecDepth 20000 in
theorem ggX7_fewest_X7_packs : GoodIn wsX7_fewest wsX7_packs := goodIn_r _ [40, 3, 4, 5, 6, 13, 1, 2, 41, 42, 43, 44, 45, 46, 47, 48, 10, 49, 38, 39, 50, 51, 52, 53, 54, 55, 62, 63, 64, 65, 66, 67, 68, 69, 70, 56, 57, 58, 59, 60, 61] (by decide +kernel) (by decide +kernel)
set_option maxRecDepth 20000 in
theorem gX7_fewest_X7_packs : GoodIn wsX7_fewest (va_wsS RX7 47 yX7_packs wsX7_packs) := goodIn_app (goodIn_of _ (by decide +kernel)) ggX7_fewest_X7_packs
set_option maxRecDepth 20000 in
theorem ggX7_gatherCargo_X1_wayOf : GoodIn wsX7_gatherCargo wsX1_wayOf := goodIn_r _ [10, 11, 12, 13, 14, 15, 16, 9, 17, 18, 19, 20, 21, 22, 23, 24, 25, 26, 27, 28, 29, 36, 37, 38, 39, 40, 41, 42, 43, 44, 45, 46, 47, 48, 49, 50] (by decide +kernel) (by decide +kernel)
set_option maxRecDepth 20000 in
theorem gX7_gatherCargo_X1_wayOf : GoodIn wsX7_gatherCargo (wsV RX7 54 RX1 yX1_wayOf wsX1_wayOf) := goodIn_app (goodIn_of _ (by decide +kernel)) ggX7_gatherCargo_X1_wayOf
set_option maxRecDepth 20000 in
theorem ggX7_packs_X7_hasTwin : GoodIn wsX7_packs wsX7_hasTwin := goodIn_r _ [17, 5, 20, 21, 22, 23, 24, 25] (by decide +kernel) (by decide +kernel)
set_option maxRecDepth 20000 in
theorem gX7_packs_X7_hasTwin : GoodIn wsX7_packs (wsV RX7 58 RX7 yX7_hasTwin wsX7_hasTwin) := goodIn_app (goodIn_of _ (by decide +kernel)) ggX7_packs_X7_hasTwin
set_option maxRecDepth 20000 in
theorem ggX7_packs_X7_packs : GoodIn wsX7_packs wsX7_packs := goodIn_r _ [0, 1, 2, 3, 4, 5, 6, 7, 8, 9, 10, 11, 12, 13, 14, 15, 16, 17, 18, 19, 20, 21, 22, 23, 24, 25, 26, 27, 28, 29, 30, 31, 32, 33, 34, 35, 36, 37, 38, 39, 40] (by decide +kernel) (by decide +kernel)
set_option maxRecDepth 20000 in
theorem gX7_packs_X7_packs : GoodIn wsX7_packs (va_wsS RX7 47 yX7_packs wsX7_packs) := goodIn_app (goodIn_of _ (by decide +kernel)) ggX7_packs_X7_packs
