set_option maxRecDepth 20000 in
theorem ggX4_refusal_X4_hasCell : GoodIn wsX4_refusal wsX4_hasCell := goodIn_r _ [7, 8, 12, 13, 14] (by decide +kernel) (by decide +kernel)
set_option maxRecDepth 20000 in
theorem gX4_refusal_X4_hasCell : GoodIn wsX4_refusal (wsV RX4 22 RX4 yX4_hasCell wsX4_hasCell) := goodIn_app (goodIn_of _ (by decide +kernel)) ggX4_refusal_X4_hasCell
set_option maxRecDepth 20000 in
theorem ggX4_refusal_X8_isWithin : GoodIn wsX4_refusal wsX8_isWithin := goodIn_r _ [11] (by decide +kernel) (by decide +kernel)
set_option maxRecDepth 20000 in
theorem gX4_refusal_X8_isWithin_n26 : GoodIn wsX4_refusal (wsX8_isWithin) := ggX4_refusal_X8_isWithin
