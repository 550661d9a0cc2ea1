set_option maxRecDepth 20000 in
theorem ggX3_gather_X1_wayOf : GoodIn wsX3_gather wsX1_wayOf := goodIn_r _ [9, 10, 11, 12, 13, 14, 15, 8, 16, 17, 18, 19, 20, 21, 22, 23, 24, 25, 26, 27, 28, 33, 34, 35, 36, 37, 38, 39, 40, 41, 42, 43, 44, 45, 46, 47] (by decide +kernel) (by decide +kernel)
set_option maxRecDepth 20000 in
theorem gX3_gather_X1_wayOf : GoodIn wsX3_gather (wsV RX3 31 RX1 yX1_wayOf wsX1_wayOf) := goodIn_app (goodIn_of _ (by decide +kernel)) ggX3_gather_X1_wayOf
set_option maxRecDepth 20000 in
theorem ggX3_readNumber_X3_gather : GoodIn wsX3_readNumber wsX3_gather := goodIn_r _ [9, 1, 2, 10, 11, 12, 13, 14, 15, 16, 17, 18, 19, 20, 21, 22, 23, 24, 25, 26, 27, 28, 29, 30, 31, 32, 33, 34, 35, 36, 37, 38, 39, 40, 41, 42, 43, 44, 45, 46, 47, 48, 49, 50, 51, 52, 53, 54] (by decide +kernel) (by decide +kernel)
set_option maxRecDepth 20000 in
theorem gX3_readNumber_X3_gather : GoodIn wsX3_readNumber (wsV RX3 38 RX3 yX3_gather wsX3_gather) := goodIn_app (goodIn_of _ (by decide +kernel)) ggX3_readNumber_X3_gather
set_option maxRecDepth 20000 in
theorem ggX3_takeTurns_X3_takeTurnsWithLie : GoodIn wsX3_takeTurns wsX3_takeTurnsWithLie := goodIn_r _ [5, 6, 7, 8, 9, 10, 11, 12, 13, 4, 14, 15, 16, 17, 18, 19, 20, 21, 22, 23, 24, 25, 26, 27, 28, 29, 30, 31, 32] (by decide +kernel) (by decide +kernel)
set_option maxRecDepth 20000 in
theorem gX3_takeTurns_X3_takeTurnsWithLie : GoodIn wsX3_takeTurns (wsV RX3 41 RX3 yX3_takeTurnsWithLie wsX3_takeTurnsWithLie) := goodIn_app (goodIn_of _ (by decide +kernel)) ggX3_takeTurns_X3_takeTurnsWithLie
set_option maxRecDepth 20000 in
theorem ggX3_takeTurnsWithLie_X3_heirAtTurn : GoodIn wsX3_takeTurnsWithLie wsX3_heirAtTurn := goodIn_r _ [10, 4, 11, 12, 13, 14, 15, 16, 17, 18, 19, 20, 21, 22, 23, 24, 25, 26, 27, 28] (by decide +kernel) (by decide +kernel)
set_option maxRecDepth 20000 in
theorem gX3_takeTurnsWithLie_X3_heirAtTurn : GoodIn wsX3_takeTurnsWithLie (wsV RX3 45 RX3 yX3_heirAtTurn wsX3_heirAtTurn) := goodIn_app (goodIn_of _ (by decide +kernel)) ggX3_takeTurnsWithLie_X3_heirAtTurn
set_option maxRecDepth 20000 in
theorem ggX3_mostByLying_X3_takeTurns : GoodIn wsX3_mostByLying wsX3_takeTurns := goodIn_r _ [11, 12, 13, 14, 10, 15, 1, 16, 2, 17, 18, 19, 20, 21, 22, 23, 3, 4, 5, 6, 32, 33, 34, 35, 36, 37, 38, 39, 40, 41, 42, 43, 44] (by decide +kernel) (by decide +kernel)
set_option maxRecDepth 20000 in
theorem gX3_mostByLying_X3_takeTurns : GoodIn wsX3_mostByLying (wsV RX3 58 RX3 yX3_takeTurns wsX3_takeTurns) := goodIn_app (goodIn_of _ (by decide +kernel)) ggX3_mostByLying_X3_takeTurns
set_option maxRecDepth 20000 in
theorem ggX3_mostByLying_X3_sumOf : GoodIn wsX3_mostByLying wsX3_sumOf := goodIn_r _ [27, 1, 16, 17, 18, 2, 32, 33, 34, 35, 36, 37, 38, 39, 40, 41, 42, 43, 44] (by decide +kernel) (by decide +kernel)
set_option maxRecDepth 20000 in
theorem gX3_mostByLying_X3_sumOf : GoodIn wsX3_mostByLying (wsV RX3 62 RX3 yX3_sumOf wsX3_sumOf) := goodIn_app (goodIn_of _ (by decide +kernel)) ggX3_mostByLying_X3_sumOf
set_option maxRecDepth 20000 in
theorem ggX3_mostByLying_X3_changesOrder : GoodIn wsX3_mostByLying wsX3_changesOrder := goodIn_r _ [31, 1, 17, 18, 2, 32, 33, 34, 35, 36, 37, 38, 39, 40, 41, 42, 43, 44] (by decide +kernel) (by decide +kernel)
set_option maxRecDepth 20000 in
theorem gX3_mostByLying_X3_changesOrder : GoodIn wsX3_mostByLying (wsV RX3 65 RX3 yX3_changesOrder wsX3_changesOrder) := goodIn_app (goodIn_of _ (by decide +kernel)) ggX3_mostByLying_X3_changesOrder
set_option maxRecDepth 20000 in
theorem ggX3_mostByLying_X3_takeTurnsWithLie : GoodIn wsX3_mostByLying wsX3_takeTurnsWithLie := goodIn_r _ [15, 1, 16, 2, 17, 18, 19, 20, 21, 10, 22, 23, 3, 4, 5, 6, 32, 33, 34, 35, 36, 37, 38, 39, 40, 41, 42, 43, 44] (by decide +kernel) (by decide +kernel)
set_option maxRecDepth 20000 in
theorem gX3_mostByLying_X3_takeTurnsWithLie : GoodIn wsX3_mostByLying (wsV RX3 41 RX3 yX3_takeTurnsWithLie wsX3_takeTurnsWithLie) := goodIn_app (goodIn_of _ (by decide +kernel)) ggX3_mostByLying_X3_takeTurnsWithLie
set_option maxRecDepth 20000 in
theorem ggX3_envyOf_X3_sumOf : GoodIn wsX3_envyOf wsX3_sumOf := goodIn_r _ [5, 6, 7, 8, 9, 10, 19, 20, 21, 22, 23, 24, 25, 26, 27, 28, 29, 30, 31] (by decide +kernel) (by decide +kernel)
set_option maxRecDepth 20000 in
theorem gX3_envyOf_X3_sumOf : GoodIn wsX3_envyOf (wsV RX3 62 RX3 yX3_sumOf wsX3_sumOf) := goodIn_app (goodIn_of _ (by decide +kernel)) ggX3_envyOf_X3_sumOf
set_option maxRecDepth 20000 in
theorem ggX3_envyOf_X3_greatestOf : GoodIn wsX3_envyOf wsX3_greatestOf := goodIn_r _ [14, 6, 7, 8, 9, 10, 15, 16, 17, 18, 19, 20, 21, 22, 23, 24, 25, 26, 27, 28, 29, 30, 31] (by decide +kernel) (by decide +kernel)
set_option maxRecDepth 20000 in
theorem gX3_envyOf_X3_greatestOf : GoodIn wsX3_envyOf (wsV RX3 69 RX3 yX3_greatestOf wsX3_greatestOf) := goodIn_app (goodIn_of _ (by decide +kernel)) ggX3_envyOf_X3_greatestOf
set_option maxRecDepth 20000 in
theorem ggX3_envyPairs_X3_envyOf : GoodIn wsX3_envyPairs wsX3_envyOf := goodIn_r _ [7, 8, 9, 10, 6, 11, 12, 13, 1, 14, 15, 16, 17, 18, 19, 20, 21, 22, 23, 24, 25, 26, 27, 28, 29, 30, 31, 32, 33, 34, 35, 36] (by decide +kernel) (by decide +kernel)
set_option maxRecDepth 20000 in
theorem gX3_envyPairs_X3_envyOf : GoodIn wsX3_envyPairs (wsV RX3 72 RX3 yX3_envyOf wsX3_envyOf) := goodIn_app (goodIn_of _ (by decide +kernel)) ggX3_envyPairs_X3_envyOf
set_option maxRecDepth 20000 in
theorem ggX3_giveToKeenest_X1_keenest : GoodIn wsX3_giveToKeenest wsX1_keenest := goodIn_r _ [9, 10, 11, 16, 17, 18, 19, 20, 21, 22, 23, 24] (by decide +kernel) (by decide +kernel)
set_option maxRecDepth 20000 in
theorem gX3_giveToKeenest_X1_keenest : GoodIn wsX3_giveToKeenest (wsV RX3 75 RX1 yX1_keenest wsX1_keenest) := goodIn_app (goodIn_of _ (by decide +kernel)) ggX3_giveToKeenest_X1_keenest
set_option maxRecDepth 20000 in
theorem ggX3_paymentOf_X3_sumOf : GoodIn wsX3_paymentOf wsX3_sumOf := goodIn_r _ [5, 6, 7, 8, 9, 10, 20, 21, 22, 23, 24, 25, 26, 27, 28, 29, 30, 31, 32] (by decide +kernel) (by decide +kernel)
set_option maxRecDepth 20000 in
theorem gX3_paymentOf_X3_sumOf : GoodIn wsX3_paymentOf (wsV RX3 62 RX3 yX3_sumOf wsX3_sumOf) := goodIn_app (goodIn_of _ (by decide +kernel)) ggX3_paymentOf_X3_sumOf
set_option maxRecDepth 20000 in
theorem ggX3_paymentOf_X3_claimOf : GoodIn wsX3_paymentOf wsX3_claimOf := goodIn_r _ [14, 6, 8, 9, 10, 15, 16, 17, 18, 19, 20, 21, 22, 23, 24, 25, 26, 27, 28, 29, 30, 31, 32] (by decide +kernel) (by decide +kernel)
set_option maxRecDepth 20000 in
theorem gX3_paymentOf_X3_claimOf : GoodIn wsX3_paymentOf (wsV RX3 78 RX3 yX3_claimOf wsX3_claimOf) := goodIn_app (goodIn_of _ (by decide +kernel)) ggX3_paymentOf_X3_claimOf
set_option maxRecDepth 20000 in
theorem ggX3_partOfRest_X3_paymentOf : GoodIn wsX3_partOfRest wsX3_paymentOf := goodIn_r _ [11, 12, 13, 14, 10, 15, 16, 17, 1, 18, 19, 20, 21, 22, 23, 2, 3, 4, 5, 6, 24, 25, 26, 27, 28, 29, 30, 31, 32, 33, 34, 35, 36] (by decide +kernel) (by decide +kernel)
set_option maxRecDepth 20000 in
theorem gX3_partOfRest_X3_paymentOf : GoodIn wsX3_partOfRest (wsV RX3 81 RX3 yX3_paymentOf wsX3_paymentOf) := goodIn_app (goodIn_of _ (by decide +kernel)) ggX3_partOfRest_X3_paymentOf
