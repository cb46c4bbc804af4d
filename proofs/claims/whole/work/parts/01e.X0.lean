set_option maxRecDepth 20000 in
theorem ggX0_hasRoomFor_X0_needed : GoodIn wsX0_hasRoomFor wsX0_needed := goodIn_r _ [5] (by decide +kernel) (by decide +kernel)
set_option maxRecDepth 20000 in
theorem gX0_hasRoomFor_X0_needed : GoodIn wsX0_hasRoomFor (va_wsS RX0 22 yX0_needed wsX0_needed) := goodIn_app (goodIn_of _ (by decide +kernel)) ggX0_hasRoomFor_X0_needed
set_option maxRecDepth 20000 in
theorem ggX0_post_X0_enter : GoodIn wsX0_post wsX0_enter := goodIn_r _ [5, 6, 7, 8, 9, 10, 11] (by decide +kernel) (by decide +kernel)
set_option maxRecDepth 20000 in
theorem gX0_post_X0_enter : GoodIn wsX0_post (wsV RX0 26 RX0 yX0_enter wsX0_enter) := goodIn_app (goodIn_of _ (by decide +kernel)) ggX0_post_X0_enter
