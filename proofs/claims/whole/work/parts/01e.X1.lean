set_option maxRecDepth 20000 in
theorem ggX1_firstFault_X1_matches : GoodIn wsX1_firstFault wsX1_matches := goodIn_r _ [5, 6, 7, 8, 9, 4, 10, 11, 12, 13, 14, 15, 16, 17, 18, 19, 20] (by decide +kernel) (by decide +kernel)
set_option maxRecDepth 20000 in
theorem gX1_firstFault_X1_matches : GoodIn wsX1_firstFault (wsV RX1 31 RX1 yX1_matches wsX1_matches) := goodIn_app (goodIn_of _ (by decide +kernel)) ggX1_firstFault_X1_matches
set_option maxRecDepth 20000 in
theorem ggX1_matches_X1_isMatch : GoodIn wsX1_matches wsX1_isMatch := goodIn_r _ [6, 7, 8, 9, 10, 11, 12, 13, 14, 15, 16] (by decide +kernel) (by decide +kernel)
set_option maxRecDepth 20000 in
theorem gX1_matches_X1_isMatch : GoodIn wsX1_matches (wsV RX1 35 RX1 yX1_isMatch wsX1_isMatch) := goodIn_app (goodIn_of _ (by decide +kernel)) ggX1_matches_X1_isMatch
set_option maxRecDepth 20000 in
theorem ggX1_rateOf_X1_isMatch : GoodIn wsX1_rateOf wsX1_isMatch := goodIn_r _ [7, 8, 9, 10, 11, 12, 13, 14, 15, 16, 17] (by decide +kernel) (by decide +kernel)
set_option maxRecDepth 20000 in
theorem gX1_rateOf_X1_isMatch : GoodIn wsX1_rateOf (wsV RX1 35 RX1 yX1_isMatch wsX1_isMatch) := goodIn_app (goodIn_of _ (by decide +kernel)) ggX1_rateOf_X1_isMatch
