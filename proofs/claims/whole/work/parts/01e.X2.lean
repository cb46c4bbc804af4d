set_option maxRecDepth 20000 in
theorem ggX2_pencilBind_X2_pencil : GoodIn wsX2_pencilBind wsX2_pencil := goodIn_r _ [15, 16, 9, 17, 18, 19, 20, 21, 22, 23, 24, 25, 26, 27, 28, 29] (by decide +kernel) (by decide +kernel)
set_option maxRecDepth 20000 in
theorem gX2_pencilBind_X2_pencil : GoodIn wsX2_pencilBind (wsV RX2 49 RX2 yX2_pencil wsX2_pencil) := goodIn_app (goodIn_of _ (by decide +kernel)) ggX2_pencilBind_X2_pencil
set_option maxRecDepth 20000 in
theorem ggX2_isInForce_X2_isInTerm : GoodIn wsX2_isInForce wsX2_isInTerm := goodIn_r _ [6, 7, 8, 22, 23, 24, 25, 26, 27, 28, 29, 30, 31] (by decide +kernel) (by decide +kernel)
set_option maxRecDepth 20000 in
theorem gX2_isInForce_X2_isInTerm : GoodIn wsX2_isInForce (wsV RX2 56 RX2 yX2_isInTerm wsX2_isInTerm) := goodIn_app (goodIn_of _ (by decide +kernel)) ggX2_isInForce_X2_isInTerm
set_option maxRecDepth 20000 in
theorem ggX2_isInForce_X2_valueOn : GoodIn wsX2_isInForce wsX2_valueOn := goodIn_r _ [12, 7, 13, 14, 15, 16, 17, 18, 19, 20, 21, 22, 23, 24, 25, 26, 27, 28, 29, 30, 31] (by decide +kernel) (by decide +kernel)
set_option maxRecDepth 20000 in
theorem gX2_isInForce_X2_valueOn : GoodIn wsX2_isInForce (wsV RX2 60 RX2 yX2_valueOn wsX2_valueOn) := goodIn_app (goodIn_of _ (by decide +kernel)) ggX2_isInForce_X2_valueOn
set_option maxRecDepth 20000 in
theorem ggX2_valueOn_X4_isWithin : GoodIn wsX2_valueOn wsX4_isWithin := goodIn_r _ [10] (by decide +kernel) (by decide +kernel)
set_option maxRecDepth 20000 in
theorem gX2_valueOn_X4_isWithin_n64 : GoodIn wsX2_valueOn (wsX4_isWithin) := ggX2_valueOn_X4_isWithin
set_option maxRecDepth 20000 in
theorem ggX2_chargeOn_X2_valueOn : GoodIn wsX2_chargeOn wsX2_valueOn := goodIn_r _ [5, 6, 7, 8, 9, 10, 11, 12, 13, 14, 15, 30, 31, 32, 33, 34, 35, 36, 37, 38, 39] (by decide +kernel) (by decide +kernel)
set_option maxRecDepth 20000 in
theorem gX2_chargeOn_X2_valueOn : GoodIn wsX2_chargeOn (wsV RX2 60 RX2 yX2_valueOn wsX2_valueOn) := goodIn_app (goodIn_of _ (by decide +kernel)) ggX2_chargeOn_X2_valueOn
set_option maxRecDepth 20000 in
theorem ggX2_chargeOn_X1_rateOf : GoodIn wsX2_chargeOn wsX1_rateOf := goodIn_r _ [19, 20, 21, 22, 23, 24, 17, 25, 26, 27, 28, 29, 40, 41, 42, 43, 44, 45] (by decide +kernel) (by decide +kernel)
set_option maxRecDepth 20000 in
theorem gX2_chargeOn_X1_rateOf_n68 : GoodIn wsX2_chargeOn (wsX1_rateOf) := ggX2_chargeOn_X1_rateOf
set_option maxRecDepth 20000 in
theorem ggX2_premiumBefore_X2_isBound : GoodIn wsX2_premiumBefore wsX2_isBound := goodIn_r _ [11, 12, 47, 48, 49, 50, 51, 52, 53, 54, 55, 56] (by decide +kernel) (by decide +kernel)
set_option maxRecDepth 20000 in
theorem gX2_premiumBefore_X2_isBound : GoodIn wsX2_premiumBefore (wsV RX2 73 RX2 yX2_isBound wsX2_isBound) := goodIn_app (goodIn_of _ (by decide +kernel)) ggX2_premiumBefore_X2_isBound
set_option maxRecDepth 20000 in
theorem ggX2_premiumBefore_X2_nextToldDay : GoodIn wsX2_premiumBefore wsX2_nextToldDay := goodIn_r _ [16, 1, 12, 17, 18, 2, 3, 4, 5, 47, 48, 49, 50, 51, 52, 53, 54, 55, 56] (by decide +kernel) (by decide +kernel)
set_option maxRecDepth 20000 in
theorem gX2_premiumBefore_X2_nextToldDay : GoodIn wsX2_premiumBefore (wsV RX2 76 RX2 yX2_nextToldDay wsX2_nextToldDay) := goodIn_app (goodIn_of _ (by decide +kernel)) ggX2_premiumBefore_X2_nextToldDay
set_option maxRecDepth 20000 in
theorem ggX2_premiumBefore_X2_chargeOn : GoodIn wsX2_premiumBefore wsX2_chargeOn := goodIn_r _ [22, 23, 24, 25, 10, 26, 6, 27, 12, 17, 28, 18, 29, 30, 31, 32, 33, 34, 35, 36, 37, 38, 39, 40, 41, 42, 43, 44, 45, 46, 47, 48, 49, 50, 51, 52, 53, 54, 55, 56, 57, 58, 59, 60, 61, 62] (by decide +kernel) (by decide +kernel)
set_option maxRecDepth 20000 in
theorem gX2_premiumBefore_X2_chargeOn : GoodIn wsX2_premiumBefore (wsV RX2 80 RX2 yX2_chargeOn wsX2_chargeOn) := goodIn_app (goodIn_of _ (by decide +kernel)) ggX2_premiumBefore_X2_chargeOn
