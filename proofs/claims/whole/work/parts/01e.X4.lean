set_option maxRecDepth 20000 in
theorem ggX4_init_X1_init : GoodIn wsX4_init wsX1_init := goodIn_r _ [21, 22, 2, 3, 23, 24, 25, 26, 27, 28, 57, 58, 59, 60, 61, 62] (by decide +kernel) (by decide +kernel)
set_option maxRecDepth 20000 in
theorem gX4_init_X1_init_n9 : GoodIn wsX4_init (wsX1_init) := ggX4_init_X1_init
set_option maxRecDepth 20000 in
theorem ggX4_init_X2_init : GoodIn wsX4_init wsX2_init := goodIn_r _ [30, 31, 2, 3, 23, 32, 33, 34, 35, 36, 37, 38, 39, 68, 69, 70, 71, 72, 73, 74, 75, 76, 77] (by decide +kernel) (by decide +kernel)
set_option maxRecDepth 20000 in
theorem gX4_init_X2_init_n18 : GoodIn wsX4_init (wsX2_init) := ggX4_init_X2_init
set_option maxRecDepth 20000 in
theorem ggX4_init_X3_init : GoodIn wsX4_init wsX3_init := goodIn_r _ [41, 42, 2, 3, 43, 44, 45, 46, 47, 48, 49, 23, 50, 51, 78, 79, 80, 81, 82, 83, 84, 85, 86, 87, 88, 89] (by decide +kernel) (by decide +kernel)
set_option maxRecDepth 20000 in
theorem gX4_init_X3_init_n25 : GoodIn wsX4_init (wsX3_init) := ggX4_init_X3_init
set_option maxRecDepth 20000 in
theorem ggX4_init_X0_init : GoodIn wsX4_init wsX0_init := goodIn_r _ [53, 54, 2, 3, 23, 55, 56, 90, 91, 92] (by decide +kernel) (by decide +kernel)
set_option maxRecDepth 20000 in
theorem gX4_init_X0_init_n32 : GoodIn wsX4_init (wsX0_init) := ggX4_init_X0_init
set_option maxRecDepth 20000 in
theorem ggX4_row_X4_isPlanClosed : GoodIn wsX4_row wsX4_isPlanClosed := goodIn_r _ [10, 11, 28, 29, 30, 31, 32, 39, 40, 41, 42, 43, 44, 45, 46, 47, 48] (by decide +kernel) (by decide +kernel)
set_option maxRecDepth 20000 in
theorem gX4_row_X4_isPlanClosed : GoodIn wsX4_row (wsV RX4 37 RX4 yX4_isPlanClosed wsX4_isPlanClosed) := goodIn_app (goodIn_of _ (by decide +kernel)) ggX4_row_X4_isPlanClosed
set_option maxRecDepth 20000 in
theorem ggX4_row_X4_isSpan : GoodIn wsX4_row wsX4_isSpan := goodIn_r _ [14] (by decide +kernel) (by decide +kernel)
set_option maxRecDepth 20000 in
theorem gX4_row_X4_isSpan : GoodIn wsX4_row (va_wsS RX4 48 yX4_isSpan wsX4_isSpan) := goodIn_app (goodIn_of _ (by decide +kernel)) ggX4_row_X4_isSpan
set_option maxRecDepth 20000 in
theorem ggX4_row_X4_isWithin : GoodIn wsX4_row wsX4_isWithin := goodIn_r _ [17] (by decide +kernel) (by decide +kernel)
set_option maxRecDepth 20000 in
theorem gX4_row_X4_isWithin : GoodIn wsX4_row (va_wsS RX4 52 yX4_isWithin wsX4_isWithin) := goodIn_app (goodIn_of _ (by decide +kernel)) ggX4_row_X4_isWithin
set_option maxRecDepth 20000 in
theorem ggX4_row_X1_add : GoodIn wsX4_row wsX1_add := goodIn_r _ [21, 22, 23, 24, 25, 26, 27, 33, 34, 35, 36, 37, 38] (by decide +kernel) (by decide +kernel)
set_option maxRecDepth 20000 in
theorem gX4_row_X1_add_n58 : GoodIn wsX4_row (wsX1_add) := ggX4_row_X1_add
set_option maxRecDepth 20000 in
theorem ggX4_undo_X4_isPlanClosed : GoodIn wsX4_undo wsX4_isPlanClosed := goodIn_r _ [8, 9, 15, 16, 17, 18, 19, 26, 27, 28, 29, 30, 31, 32, 33, 34, 35] (by decide +kernel) (by decide +kernel)
set_option maxRecDepth 20000 in
theorem gX4_undo_X4_isPlanClosed : GoodIn wsX4_undo (wsV RX4 37 RX4 yX4_isPlanClosed wsX4_isPlanClosed) := goodIn_app (goodIn_of _ (by decide +kernel)) ggX4_undo_X4_isPlanClosed
set_option maxRecDepth 20000 in
theorem ggX4_undo_X1_dropLatest : GoodIn wsX4_undo wsX1_dropLatest := goodIn_r _ [13, 14, 20, 21, 22, 23, 24, 25] (by decide +kernel) (by decide +kernel)
set_option maxRecDepth 20000 in
theorem gX4_undo_X1_dropLatest_n62 : GoodIn wsX4_undo (wsX1_dropLatest) := ggX4_undo_X1_dropLatest
set_option maxRecDepth 20000 in
theorem ggX4_witness_X1_firstFault : GoodIn wsX4_witness wsX1_firstFault := goodIn_r _ [5, 6, 7, 8, 3, 9, 10, 11, 12, 13, 14, 15, 16, 17, 18, 24, 25, 26, 27, 28, 29] (by decide +kernel) (by decide +kernel)
set_option maxRecDepth 20000 in
theorem gX4_witness_X1_firstFault_n65 : GoodIn wsX4_witness (wsX1_firstFault) := ggX4_witness_X1_firstFault
set_option maxRecDepth 20000 in
theorem ggX4_quota_X4_isWithin : GoodIn wsX4_quota wsX4_isWithin := goodIn_r _ [10] (by decide +kernel) (by decide +kernel)
set_option maxRecDepth 20000 in
theorem gX4_quota_X4_isWithin : GoodIn wsX4_quota (va_wsS RX4 52 yX4_isWithin wsX4_isWithin) := goodIn_app (goodIn_of _ (by decide +kernel)) ggX4_quota_X4_isWithin
set_option maxRecDepth 20000 in
theorem ggX4_terms_X4_isWithin : GoodIn wsX4_terms wsX4_isWithin := goodIn_r _ [9] (by decide +kernel) (by decide +kernel)
set_option maxRecDepth 20000 in
theorem gX4_terms_X4_isWithin : GoodIn wsX4_terms (va_wsS RX4 52 yX4_isWithin wsX4_isWithin) := goodIn_app (goodIn_of _ (by decide +kernel)) ggX4_terms_X4_isWithin
set_option maxRecDepth 20000 in
theorem ggX4_terms_X3_setTerms : GoodIn wsX4_terms wsX3_setTerms := goodIn_r _ [13, 14, 15, 16, 22, 23, 24, 25, 26, 27, 28, 29, 30, 31, 32, 33] (by decide +kernel) (by decide +kernel)
set_option maxRecDepth 20000 in
theorem gX4_terms_X3_setTerms_n76 : GoodIn wsX4_terms (wsX3_setTerms) := ggX4_terms_X3_setTerms
set_option maxRecDepth 20000 in
theorem ggX4_layer_X4_isWithin : GoodIn wsX4_layer wsX4_isWithin := goodIn_r _ [9] (by decide +kernel) (by decide +kernel)
set_option maxRecDepth 20000 in
theorem gX4_layer_X4_isWithin : GoodIn wsX4_layer (va_wsS RX4 52 yX4_isWithin wsX4_isWithin) := goodIn_app (goodIn_of _ (by decide +kernel)) ggX4_layer_X4_isWithin
set_option maxRecDepth 20000 in
theorem ggX4_layer_X3_setLayer : GoodIn wsX4_layer wsX3_setLayer := goodIn_r _ [13, 14, 15, 16, 17, 23, 24, 25, 26, 27, 28, 29, 30, 31, 32, 33, 34] (by decide +kernel) (by decide +kernel)
set_option maxRecDepth 20000 in
theorem gX4_layer_X3_setLayer_n80 : GoodIn wsX4_layer (wsX3_setLayer) := ggX4_layer_X3_setLayer
set_option maxRecDepth 20000 in
theorem ggX4_bind_X4_isPlanGood : GoodIn wsX4_bind wsX4_isPlanGood := goodIn_r _ [10, 11, 12, 13, 14, 9, 15, 5, 16, 17, 18, 19, 20, 21, 22, 23, 24, 25, 26, 27, 28, 29, 30, 31, 32, 128, 129, 130, 131, 132, 133, 134, 135, 136, 137, 138, 139, 140, 141, 142, 143, 144, 145, 146, 147, 148] (by decide +kernel) (by decide +kernel)
set_option maxRecDepth 20000 in
theorem gX4_bind_X4_isPlanGood : GoodIn wsX4_bind (wsV RX4 84 RX4 yX4_isPlanGood wsX4_isPlanGood) := goodIn_app (goodIn_of _ (by decide +kernel)) ggX4_bind_X4_isPlanGood
set_option maxRecDepth 20000 in
theorem ggX4_bind_X2_isFull : GoodIn wsX4_bind wsX2_isFull := goodIn_r _ [36, 37, 133, 134, 135, 136, 137, 138, 139, 140, 141, 142] (by decide +kernel) (by decide +kernel)
set_option maxRecDepth 20000 in
theorem gX4_bind_X2_isFull_n87 : GoodIn wsX4_bind (wsX2_isFull) := ggX4_bind_X2_isFull
set_option maxRecDepth 20000 in
theorem ggX4_bind_X4_isDay : GoodIn wsX4_bind wsX4_isDay := goodIn_r _ [40, 41, 42, 9, 43] (by decide +kernel) (by decide +kernel)
set_option maxRecDepth 20000 in
theorem gX4_bind_X4_isDay : GoodIn wsX4_bind (va_wsS RX4 90 yX4_isDay wsX4_isDay) := goodIn_app (goodIn_of _ (by decide +kernel)) ggX4_bind_X4_isDay
set_option maxRecDepth 20000 in
theorem ggX4_bind_X4_isWithin : GoodIn wsX4_bind wsX4_isWithin := goodIn_r _ [46] (by decide +kernel) (by decide +kernel)
set_option maxRecDepth 20000 in
theorem gX4_bind_X4_isWithin : GoodIn wsX4_bind (va_wsS RX4 52 yX4_isWithin wsX4_isWithin) := goodIn_app (goodIn_of _ (by decide +kernel)) ggX4_bind_X4_isWithin
set_option maxRecDepth 20000 in
theorem ggX4_bind_X4_isValueOf : GoodIn wsX4_bind wsX4_isValueOf := goodIn_r _ [49, 44, 45, 9, 46] (by decide +kernel) (by decide +kernel)
set_option maxRecDepth 20000 in
theorem gX4_bind_X4_isValueOf : GoodIn wsX4_bind (va_wsS RX4 94 yX4_isValueOf wsX4_isValueOf) := goodIn_app (goodIn_of _ (by decide +kernel)) ggX4_bind_X4_isValueOf
set_option maxRecDepth 20000 in
theorem ggX4_bind_X2_pencilBind : GoodIn wsX4_bind wsX2_pencilBind := goodIn_r _ [52, 53, 54, 55, 56, 57, 58, 59, 60, 37, 61, 62, 63, 64, 34, 65, 66, 67, 68, 69, 133, 134, 135, 136, 137, 138, 139, 140, 141, 142] (by decide +kernel) (by decide +kernel)
set_option maxRecDepth 20000 in
theorem gX4_bind_X2_pencilBind_n98 : GoodIn wsX4_bind (wsX2_pencilBind) := ggX4_bind_X2_pencilBind
set_option maxRecDepth 20000 in
theorem ggX4_bind_X4_postPremium : GoodIn wsX4_bind wsX4_postPremium := goodIn_ca (goodIn_r _ [73, 74, 75, 5, 11, 76, 77, 78, 34, 79, 80, 55, 56, 57, 58, 59, 53, 81, 82, 83, 84, 60, 85, 86, 87, 88, 66, 67, 89, 90, 91, 92, 93, 94, 95, 96, 61, 68, 69, 45, 9, 46, 97, 17, 98, 99, 24, 100, 25, 26, 27, 28, 29, 30, 31, 32, 101, 102, 103, 104, 105, 106, 107, 108, 109, 110, 111, 112, 113, 114, 115, 116, 117, 118, 119, 120, 121, 122, 123, 124, 128, 129, 130, 131, 132, 133, 134, 135, 136, 137, 138, 139, 140, 141, 142, 143, 144, 145, 146, 147, 148, 149, 150, 151] (by decide +kernel) (by decide +kernel)) (goodIn_sub (fun _ h => List.mem_cons_of_mem _ (List.mem_append_right _ h)) (by decide +kernel))
set_option maxRecDepth 20000 in
theorem gX4_bind_X4_postPremium : GoodIn wsX4_bind (wsV RX4 102 RX4 yX4_postPremium wsX4_postPremium) := goodIn_app (goodIn_of _ (by decide +kernel)) ggX4_bind_X4_postPremium
set_option maxRecDepth 20000 in
theorem ggX4_bind_X2_confirmBind : GoodIn wsX4_bind wsX2_confirmBind := goodIn_r _ [127, 54, 37, 133, 134, 135, 136, 137, 138, 139, 140, 141, 142] (by decide +kernel) (by decide +kernel)
set_option maxRecDepth 20000 in
theorem gX4_bind_X2_confirmBind_n106 : GoodIn wsX4_bind (wsX2_confirmBind) := ggX4_bind_X2_confirmBind
set_option maxRecDepth 20000 in
theorem ggX4_change_X4_isPolicy : GoodIn wsX4_change wsX4_isPolicy := goodIn_r _ [12, 7, 13, 14, 11, 15, 122, 123, 124, 125, 126, 127, 128, 129, 130, 131, 132, 133, 134, 135, 136] (by decide +kernel) (by decide +kernel)
set_option maxRecDepth 20000 in
theorem gX4_change_X4_isPolicy : GoodIn wsX4_change (wsV RX4 109 RX4 yX4_isPolicy wsX4_isPolicy) := goodIn_app (goodIn_of _ (by decide +kernel)) ggX4_change_X4_isPolicy
set_option maxRecDepth 20000 in
theorem ggX4_change_X4_isWithin : GoodIn wsX4_change wsX4_isWithin := goodIn_r _ [18] (by decide +kernel) (by decide +kernel)
set_option maxRecDepth 20000 in
theorem gX4_change_X4_isWithin : GoodIn wsX4_change (va_wsS RX4 52 yX4_isWithin wsX4_isWithin) := goodIn_app (goodIn_of _ (by decide +kernel)) ggX4_change_X4_isWithin
set_option maxRecDepth 20000 in
theorem ggX4_change_X2_isInTerm : GoodIn wsX4_change wsX2_isInTerm := goodIn_r _ [22, 23, 24, 127, 128, 129, 130, 131, 132, 133, 134, 135, 136] (by decide +kernel) (by decide +kernel)
set_option maxRecDepth 20000 in
theorem gX4_change_X2_isInTerm_n115 : GoodIn wsX4_change (wsX2_isInTerm) := ggX4_change_X2_isInTerm
set_option maxRecDepth 20000 in
theorem ggX4_change_X4_isValueOf : GoodIn wsX4_change wsX4_isValueOf := goodIn_r _ [27, 16, 17, 11, 18] (by decide +kernel) (by decide +kernel)
set_option maxRecDepth 20000 in
theorem gX4_change_X4_isValueOf : GoodIn wsX4_change (va_wsS RX4 94 yX4_isValueOf wsX4_isValueOf) := goodIn_app (goodIn_of _ (by decide +kernel)) ggX4_change_X4_isValueOf
set_option maxRecDepth 20000 in
theorem ggX4_change_X2_isInForce : GoodIn wsX4_change wsX2_isInForce := goodIn_r _ [30, 31, 32, 19, 21, 20, 22, 23, 24, 33, 34, 35, 36, 37, 38, 39, 40, 41, 42, 17, 11, 18, 127, 128, 129, 130, 131, 132, 133, 134, 135, 136] (by decide +kernel) (by decide +kernel)
set_option maxRecDepth 20000 in
theorem gX4_change_X2_isInForce_n118 : GoodIn wsX4_change (wsX2_isInForce) := ggX4_change_X2_isInForce
set_option maxRecDepth 20000 in
theorem ggX4_change_X2_isFull : GoodIn wsX4_change wsX2_isFull := goodIn_r _ [45, 31, 127, 128, 129, 130, 131, 132, 133, 134, 135, 136] (by decide +kernel) (by decide +kernel)
set_option maxRecDepth 20000 in
theorem gX4_change_X2_isFull_n87 : GoodIn wsX4_change (wsX2_isFull) := ggX4_change_X2_isFull
set_option maxRecDepth 20000 in
theorem ggX4_change_X4_book : GoodIn wsX4_change wsX4_book := goodIn_ca (goodIn_r _ [49, 7, 50, 20, 51, 52, 39, 31, 41, 40, 42, 53, 54, 55, 11, 56, 57, 58, 59, 60, 61, 62, 63, 64, 24, 65, 66, 67, 68, 23, 69, 70, 71, 72, 38, 73, 74, 75, 76, 77, 78, 79, 80, 33, 34, 35, 36, 37, 17, 18, 81, 82, 83, 84, 85, 86, 87, 88, 89, 90, 91, 92, 93, 94, 95, 96, 97, 98, 99, 100, 101, 102, 103, 104, 105, 106, 107, 108, 109, 110, 111, 112, 113, 114, 115, 116, 117, 118, 119, 120, 121, 122, 123, 124, 125, 126, 127, 128, 129, 130, 131, 132, 133, 134, 135, 136, 137, 138, 139, 140, 141, 142, 143, 144, 145] (by decide +kernel) (by decide +kernel)) (goodIn_sub (fun _ h => List.mem_cons_of_mem _ (List.mem_append_right _ h)) (by decide +kernel))
set_option maxRecDepth 20000 in
theorem gX4_change_X4_book : GoodIn wsX4_change (wsV RX4 121 RX4 yX4_book wsX4_book) := goodIn_app (goodIn_of _ (by decide +kernel)) ggX4_change_X4_book
set_option maxRecDepth 20000 in
theorem ggX4_cancel_X4_isPolicy : GoodIn wsX4_cancel wsX4_isPolicy := goodIn_r _ [12, 7, 13, 14, 11, 15, 118, 119, 120, 121, 122, 123, 124, 125, 126, 127, 128, 129, 130, 131, 132] (by decide +kernel) (by decide +kernel)
set_option maxRecDepth 20000 in
theorem gX4_cancel_X4_isPolicy : GoodIn wsX4_cancel (wsV RX4 109 RX4 yX4_isPolicy wsX4_isPolicy) := goodIn_app (goodIn_of _ (by decide +kernel)) ggX4_cancel_X4_isPolicy
set_option maxRecDepth 20000 in
theorem ggX4_cancel_X2_isInTerm : GoodIn wsX4_cancel wsX2_isInTerm := goodIn_r _ [19, 20, 21, 123, 124, 125, 126, 127, 128, 129, 130, 131, 132] (by decide +kernel) (by decide +kernel)
set_option maxRecDepth 20000 in
theorem gX4_cancel_X2_isInTerm_n115 : GoodIn wsX4_cancel (wsX2_isInTerm) := ggX4_cancel_X2_isInTerm
set_option maxRecDepth 20000 in
theorem ggX4_cancel_X2_isInForce : GoodIn wsX4_cancel wsX2_isInForce := goodIn_r _ [24, 25, 26, 16, 18, 17, 19, 20, 21, 27, 28, 29, 30, 31, 32, 33, 34, 35, 36, 37, 11, 38, 123, 124, 125, 126, 127, 128, 129, 130, 131, 132] (by decide +kernel) (by decide +kernel)
set_option maxRecDepth 20000 in
theorem gX4_cancel_X2_isInForce_n118 : GoodIn wsX4_cancel (wsX2_isInForce) := ggX4_cancel_X2_isInForce
set_option maxRecDepth 20000 in
theorem ggX4_cancel_X2_isFull : GoodIn wsX4_cancel wsX2_isFull := goodIn_r _ [41, 25, 123, 124, 125, 126, 127, 128, 129, 130, 131, 132] (by decide +kernel) (by decide +kernel)
set_option maxRecDepth 20000 in
theorem gX4_cancel_X2_isFull_n87 : GoodIn wsX4_cancel (wsX2_isFull) := ggX4_cancel_X2_isFull
set_option maxRecDepth 20000 in
theorem ggX4_cancel_X4_book : GoodIn wsX4_cancel wsX4_book := goodIn_ca (goodIn_r _ [45, 7, 46, 17, 47, 48, 33, 25, 35, 34, 36, 49, 50, 51, 11, 52, 53, 54, 55, 56, 57, 58, 59, 60, 21, 61, 62, 63, 64, 20, 65, 66, 67, 68, 32, 69, 70, 71, 72, 73, 74, 75, 76, 27, 28, 29, 30, 31, 37, 38, 77, 78, 79, 80, 81, 82, 83, 84, 85, 86, 87, 88, 89, 90, 91, 92, 93, 94, 95, 96, 97, 98, 99, 100, 101, 102, 103, 104, 105, 106, 107, 108, 109, 110, 111, 112, 113, 114, 115, 116, 117, 118, 119, 120, 121, 122, 123, 124, 125, 126, 127, 128, 129, 130, 131, 132, 133, 134, 135, 136, 137, 138, 139, 140, 141] (by decide +kernel) (by decide +kernel)) (goodIn_sub (fun _ h => List.mem_cons_of_mem _ (List.mem_append_right _ h)) (by decide +kernel))
set_option maxRecDepth 20000 in
theorem gX4_cancel_X4_book : GoodIn wsX4_cancel (wsV RX4 121 RX4 yX4_book wsX4_book) := goodIn_app (goodIn_of _ (by decide +kernel)) ggX4_cancel_X4_book
set_option maxRecDepth 20000 in
theorem ggX4_reinstate_X4_isPolicy : GoodIn wsX4_reinstate wsX4_isPolicy := goodIn_r _ [12, 7, 13, 14, 11, 15, 118, 119, 120, 121, 122, 123, 124, 125, 126, 127, 128, 129, 130, 131, 132] (by decide +kernel) (by decide +kernel)
set_option maxRecDepth 20000 in
theorem gX4_reinstate_X4_isPolicy : GoodIn wsX4_reinstate (wsV RX4 109 RX4 yX4_isPolicy wsX4_isPolicy) := goodIn_app (goodIn_of _ (by decide +kernel)) ggX4_reinstate_X4_isPolicy
set_option maxRecDepth 20000 in
theorem ggX4_reinstate_X2_isInTerm : GoodIn wsX4_reinstate wsX2_isInTerm := goodIn_r _ [19, 20, 21, 123, 124, 125, 126, 127, 128, 129, 130, 131, 132] (by decide +kernel) (by decide +kernel)
set_option maxRecDepth 20000 in
theorem gX4_reinstate_X2_isInTerm_n115 : GoodIn wsX4_reinstate (wsX2_isInTerm) := ggX4_reinstate_X2_isInTerm
set_option maxRecDepth 20000 in
theorem ggX4_reinstate_X2_isInForce : GoodIn wsX4_reinstate wsX2_isInForce := goodIn_r _ [24, 25, 26, 16, 18, 17, 19, 20, 21, 27, 28, 29, 30, 31, 32, 33, 34, 35, 36, 37, 11, 38, 123, 124, 125, 126, 127, 128, 129, 130, 131, 132] (by decide +kernel) (by decide +kernel)
set_option maxRecDepth 20000 in
theorem gX4_reinstate_X2_isInForce_n118 : GoodIn wsX4_reinstate (wsX2_isInForce) := ggX4_reinstate_X2_isInForce
set_option maxRecDepth 20000 in
theorem ggX4_reinstate_X2_isFull : GoodIn wsX4_reinstate wsX2_isFull := goodIn_r _ [41, 25, 123, 124, 125, 126, 127, 128, 129, 130, 131, 132] (by decide +kernel) (by decide +kernel)
set_option maxRecDepth 20000 in
theorem gX4_reinstate_X2_isFull_n87 : GoodIn wsX4_reinstate (wsX2_isFull) := ggX4_reinstate_X2_isFull
set_option maxRecDepth 20000 in
theorem ggX4_reinstate_X4_book : GoodIn wsX4_reinstate wsX4_book := goodIn_ca (goodIn_r _ [45, 7, 46, 17, 47, 48, 33, 25, 35, 34, 36, 49, 50, 51, 11, 52, 53, 54, 55, 56, 57, 58, 59, 60, 21, 61, 62, 63, 64, 20, 65, 66, 67, 68, 32, 69, 70, 71, 72, 73, 74, 75, 76, 27, 28, 29, 30, 31, 37, 38, 77, 78, 79, 80, 81, 82, 83, 84, 85, 86, 87, 88, 89, 90, 91, 92, 93, 94, 95, 96, 97, 98, 99, 100, 101, 102, 103, 104, 105, 106, 107, 108, 109, 110, 111, 112, 113, 114, 115, 116, 117, 118, 119, 120, 121, 122, 123, 124, 125, 126, 127, 128, 129, 130, 131, 132, 133, 134, 135, 136, 137, 138, 139, 140, 141] (by decide +kernel) (by decide +kernel)) (goodIn_sub (fun _ h => List.mem_cons_of_mem _ (List.mem_append_right _ h)) (by decide +kernel))
set_option maxRecDepth 20000 in
theorem gX4_reinstate_X4_book : GoodIn wsX4_reinstate (wsV RX4 121 RX4 yX4_book wsX4_book) := goodIn_app (goodIn_of _ (by decide +kernel)) ggX4_reinstate_X4_book
set_option maxRecDepth 20000 in
theorem ggX4_claim_X4_isPolicy : GoodIn wsX4_claim wsX4_isPolicy := goodIn_r _ [14, 7, 15, 16, 13, 17, 107, 108, 109, 110, 111, 124, 125, 126, 127, 128, 129, 130, 131, 132, 133] (by decide +kernel) (by decide +kernel)
set_option maxRecDepth 20000 in
theorem gX4_claim_X4_isPolicy : GoodIn wsX4_claim (wsV RX4 109 RX4 yX4_isPolicy wsX4_isPolicy) := goodIn_app (goodIn_of _ (by decide +kernel)) ggX4_claim_X4_isPolicy
set_option maxRecDepth 20000 in
theorem ggX4_claim_X4_isDay : GoodIn wsX4_claim wsX4_isDay := goodIn_r _ [20, 15, 16, 13, 17] (by decide +kernel) (by decide +kernel)
set_option maxRecDepth 20000 in
theorem gX4_claim_X4_isDay : GoodIn wsX4_claim (va_wsS RX4 90 yX4_isDay wsX4_isDay) := goodIn_app (goodIn_of _ (by decide +kernel)) ggX4_claim_X4_isDay
set_option maxRecDepth 20000 in
theorem ggX4_claim_X4_isWithin : GoodIn wsX4_claim wsX4_isWithin := goodIn_r _ [23] (by decide +kernel) (by decide +kernel)
set_option maxRecDepth 20000 in
theorem gX4_claim_X4_isWithin : GoodIn wsX4_claim (va_wsS RX4 52 yX4_isWithin wsX4_isWithin) := goodIn_app (goodIn_of _ (by decide +kernel)) ggX4_claim_X4_isWithin
set_option maxRecDepth 20000 in
theorem ggX4_claim_X2_isInForce : GoodIn wsX4_claim wsX2_isInForce := goodIn_r _ [27, 28, 29, 30, 31, 25, 32, 33, 34, 35, 36, 37, 38, 39, 40, 41, 42, 43, 44, 22, 13, 23, 124, 125, 126, 127, 128, 129, 130, 131, 132, 133] (by decide +kernel) (by decide +kernel)
set_option maxRecDepth 20000 in
theorem gX4_claim_X2_isInForce_n118 : GoodIn wsX4_claim (wsX2_isInForce) := ggX4_claim_X2_isInForce
set_option maxRecDepth 20000 in
theorem ggX4_claim_X3_payable : GoodIn wsX4_claim wsX3_payable := goodIn_r _ [48, 49, 50, 51, 52, 53, 54, 55, 56, 57, 58, 59, 112, 113, 114, 115, 116, 117, 118, 119, 120, 121, 122, 123] (by decide +kernel) (by decide +kernel)
set_option maxRecDepth 20000 in
theorem gX4_claim_X3_payable_n125 : GoodIn wsX4_claim (wsX3_payable) := ggX4_claim_X3_payable
set_option maxRecDepth 20000 in
theorem ggX4_claim_X4_percentOf : GoodIn wsX4_claim wsX4_percentOf := goodIn_r _ [62, 63, 64, 65, 66] (by decide +kernel) (by decide +kernel)
set_option maxRecDepth 20000 in
theorem gX4_claim_X4_percentOf : GoodIn wsX4_claim (va_wsS RX4 129 yX4_percentOf wsX4_percentOf) := goodIn_app (goodIn_of _ (by decide +kernel)) ggX4_claim_X4_percentOf
set_option maxRecDepth 20000 in
theorem ggX4_claim_X3_layerPartOf : GoodIn wsX4_claim wsX3_layerPartOf := goodIn_r _ [69, 70, 71, 72, 73, 52, 53, 54, 55, 57, 58, 59, 112, 113, 114, 115, 116, 117, 118, 119, 120, 121, 122, 123] (by decide +kernel) (by decide +kernel)
set_option maxRecDepth 20000 in
theorem gX4_claim_X3_layerPartOf_n132 : GoodIn wsX4_claim (wsX3_layerPartOf) := ggX4_claim_X3_layerPartOf
set_option maxRecDepth 20000 in
theorem ggX4_claim_X3_renewedOf : GoodIn wsX4_claim wsX3_renewedOf := goodIn_r _ [76, 70, 71, 77, 57, 58, 54, 59, 112, 113, 114, 115, 116, 117, 118, 119, 120, 121, 122, 123] (by decide +kernel) (by decide +kernel)
set_option maxRecDepth 20000 in
theorem gX4_claim_X3_renewedOf_n136 : GoodIn wsX4_claim (wsX3_renewedOf) := ggX4_claim_X3_renewedOf
set_option maxRecDepth 20000 in
theorem ggX4_claim_X4_postClaim : GoodIn wsX4_claim wsX4_postClaim := goodIn_ca (goodIn_r _ [81, 82, 83, 84, 85, 86, 87, 88, 89, 90, 91, 92, 93, 94, 95, 96, 97, 98, 99, 100, 101, 107, 108, 109, 110, 111, 134, 135, 136] (by decide +kernel) (by decide +kernel)) (goodIn_sub (fun _ h => List.mem_cons_of_mem _ (List.mem_append_right _ h)) (by decide +kernel))
set_option maxRecDepth 20000 in
theorem gX4_claim_X4_postClaim : GoodIn wsX4_claim (wsV RX4 142 RX4 yX4_postClaim wsX4_postClaim) := goodIn_app (goodIn_of _ (by decide +kernel)) ggX4_claim_X4_postClaim
set_option maxRecDepth 20000 in
theorem ggX4_claim_X3_keep : GoodIn wsX4_claim wsX3_keep := goodIn_r _ [104, 105, 106, 50, 72, 77, 112, 113, 114, 115, 116, 117, 118, 119, 120, 121, 122, 123] (by decide +kernel) (by decide +kernel)
set_option maxRecDepth 20000 in
theorem gX4_claim_X3_keep_n145 : GoodIn wsX4_claim (wsX3_keep) := ggX4_claim_X3_keep
set_option maxRecDepth 20000 in
theorem ggX4_fact_X4_isPolicy : GoodIn wsX4_fact wsX4_isPolicy := goodIn_r _ [9, 3, 10, 11, 8, 12, 63, 64, 65, 66, 67, 68, 69, 70, 71, 72, 73, 74, 75, 76, 77] (by decide +kernel) (by decide +kernel)
set_option maxRecDepth 20000 in
theorem gX4_fact_X4_isPolicy : GoodIn wsX4_fact (wsV RX4 109 RX4 yX4_isPolicy wsX4_isPolicy) := goodIn_app (goodIn_of _ (by decide +kernel)) ggX4_fact_X4_isPolicy
set_option maxRecDepth 20000 in
theorem ggX4_fact_X4_isWithin : GoodIn wsX4_fact wsX4_isWithin := goodIn_r _ [15] (by decide +kernel) (by decide +kernel)
set_option maxRecDepth 20000 in
theorem gX4_fact_X4_isWithin : GoodIn wsX4_fact (va_wsS RX4 52 yX4_isWithin wsX4_isWithin) := goodIn_app (goodIn_of _ (by decide +kernel)) ggX4_fact_X4_isWithin
set_option maxRecDepth 20000 in
theorem ggX4_fact_X2_countedAsOf : GoodIn wsX4_fact wsX2_countedAsOf := goodIn_r _ [19, 20, 21, 22, 23, 24, 25, 26, 27, 68, 69, 70, 71, 72, 73, 74, 75, 76, 77] (by decide +kernel) (by decide +kernel)
set_option maxRecDepth 20000 in
theorem gX4_fact_X2_countedAsOf_n153 : GoodIn wsX4_fact (wsX2_countedAsOf) := ggX4_fact_X2_countedAsOf
set_option maxRecDepth 20000 in
theorem ggX4_fact_X2_isInTerm : GoodIn wsX4_fact wsX2_isInTerm := goodIn_r _ [30, 31, 32, 68, 69, 70, 71, 72, 73, 74, 75, 76, 77] (by decide +kernel) (by decide +kernel)
set_option maxRecDepth 20000 in
theorem gX4_fact_X2_isInTerm_n115 : GoodIn wsX4_fact (wsX2_isInTerm) := ggX4_fact_X2_isInTerm
set_option maxRecDepth 20000 in
theorem ggX4_fact_X2_isBound : GoodIn wsX4_fact wsX2_isBound := goodIn_r _ [35, 36, 68, 69, 70, 71, 72, 73, 74, 75, 76, 77] (by decide +kernel) (by decide +kernel)
set_option maxRecDepth 20000 in
theorem gX4_fact_X2_isBound_n156 : GoodIn wsX4_fact (wsX2_isBound) := ggX4_fact_X2_isBound
set_option maxRecDepth 20000 in
theorem ggX4_fact_X2_chargeOn : GoodIn wsX4_fact wsX2_chargeOn := goodIn_r _ [39, 40, 41, 42, 17, 43, 31, 44, 36, 45, 46, 47, 48, 14, 8, 15, 49, 50, 51, 52, 53, 54, 55, 56, 57, 58, 59, 60, 61, 62, 68, 69, 70, 71, 72, 73, 74, 75, 76, 77, 78, 79, 80, 81, 82, 83] (by decide +kernel) (by decide +kernel)
set_option maxRecDepth 20000 in
theorem gX4_fact_X2_chargeOn_n159 : GoodIn wsX4_fact (wsX2_chargeOn) := ggX4_fact_X2_chargeOn
set_option maxRecDepth 20000 in
theorem ggX4_fact_X2_valueOn : GoodIn wsX4_fact wsX2_valueOn := goodIn_r _ [43, 31, 44, 36, 45, 46, 47, 48, 14, 8, 15, 68, 69, 70, 71, 72, 73, 74, 75, 76, 77] (by decide +kernel) (by decide +kernel)
set_option maxRecDepth 20000 in
theorem gX4_fact_X2_valueOn_n163 : GoodIn wsX4_fact (wsX2_valueOn) := ggX4_fact_X2_valueOn
set_option maxRecDepth 20000 in
theorem ggX4_written_X4_isPolicy : GoodIn wsX4_written wsX4_isPolicy := goodIn_r _ [9, 3, 10, 11, 8, 12, 68, 69, 70, 71, 72, 73, 74, 75, 76, 77, 78, 79, 80, 81, 82] (by decide +kernel) (by decide +kernel)
set_option maxRecDepth 20000 in
theorem gX4_written_X4_isPolicy : GoodIn wsX4_written (wsV RX4 109 RX4 yX4_isPolicy wsX4_isPolicy) := goodIn_app (goodIn_of _ (by decide +kernel)) ggX4_written_X4_isPolicy
set_option maxRecDepth 20000 in
theorem ggX4_written_X2_countedAsOf : GoodIn wsX4_written wsX2_countedAsOf := goodIn_r _ [16, 17, 18, 19, 20, 21, 22, 23, 24, 73, 74, 75, 76, 77, 78, 79, 80, 81, 82] (by decide +kernel) (by decide +kernel)
set_option maxRecDepth 20000 in
theorem gX4_written_X2_countedAsOf_n153 : GoodIn wsX4_written (wsX2_countedAsOf) := ggX4_written_X2_countedAsOf
set_option maxRecDepth 20000 in
theorem ggX4_written_X2_premiumBefore : GoodIn wsX4_written wsX2_premiumBefore := goodIn_r _ [27, 28, 18, 19, 20, 21, 29, 30, 31, 32, 14, 33, 34, 35, 36, 37, 38, 39, 40, 41, 42, 43, 44, 45, 46, 47, 48, 49, 50, 51, 52, 8, 53, 54, 55, 56, 57, 58, 59, 60, 61, 62, 63, 64, 65, 66, 67, 73, 74, 75, 76, 77, 78, 79, 80, 81, 82, 83, 84, 85, 86, 87, 88] (by decide +kernel) (by decide +kernel)
set_option maxRecDepth 20000 in
theorem gX4_written_X2_premiumBefore_n167 : GoodIn wsX4_written (wsX2_premiumBefore) := ggX4_written_X2_premiumBefore
set_option maxRecDepth 20000 in
theorem ggX4_earned_X4_isPolicy : GoodIn wsX4_earned wsX4_isPolicy := goodIn_r _ [9, 3, 10, 11, 8, 12, 68, 69, 70, 71, 72, 73, 74, 75, 76, 77, 78, 79, 80, 81, 82] (by decide +kernel) (by decide +kernel)
set_option maxRecDepth 20000 in
theorem gX4_earned_X4_isPolicy : GoodIn wsX4_earned (wsV RX4 109 RX4 yX4_isPolicy wsX4_isPolicy) := goodIn_app (goodIn_of _ (by decide +kernel)) ggX4_earned_X4_isPolicy
set_option maxRecDepth 20000 in
theorem ggX4_earned_X2_countedAsOf : GoodIn wsX4_earned wsX2_countedAsOf := goodIn_r _ [16, 17, 18, 19, 20, 21, 22, 23, 24, 73, 74, 75, 76, 77, 78, 79, 80, 81, 82] (by decide +kernel) (by decide +kernel)
set_option maxRecDepth 20000 in
theorem gX4_earned_X2_countedAsOf_n153 : GoodIn wsX4_earned (wsX2_countedAsOf) := ggX4_earned_X2_countedAsOf
set_option maxRecDepth 20000 in
theorem ggX4_earned_X2_premiumBefore : GoodIn wsX4_earned wsX2_premiumBefore := goodIn_r _ [27, 28, 18, 19, 20, 21, 29, 30, 31, 32, 14, 33, 34, 35, 36, 37, 38, 39, 40, 41, 42, 43, 44, 45, 46, 47, 48, 49, 50, 51, 52, 8, 53, 54, 55, 56, 57, 58, 59, 60, 61, 62, 63, 64, 65, 66, 67, 73, 74, 75, 76, 77, 78, 79, 80, 81, 82, 83, 84, 85, 86, 87, 88] (by decide +kernel) (by decide +kernel)
set_option maxRecDepth 20000 in
theorem gX4_earned_X2_premiumBefore_n167 : GoodIn wsX4_earned (wsX2_premiumBefore) := ggX4_earned_X2_premiumBefore
set_option maxRecDepth 20000 in
theorem ggX4_settled_X4_isIndex : GoodIn wsX4_settled wsX4_isIndex := goodIn_r _ [7] (by decide +kernel) (by decide +kernel)
set_option maxRecDepth 20000 in
theorem gX4_settled_X4_isIndex : GoodIn wsX4_settled (va_wsS RX4 170 yX4_isIndex wsX4_isIndex) := goodIn_app (goodIn_of _ (by decide +kernel)) ggX4_settled_X4_isIndex
set_option maxRecDepth 20000 in
theorem ggX4_posting_X4_isIndex : GoodIn wsX4_posting wsX4_isIndex := goodIn_r _ [7] (by decide +kernel) (by decide +kernel)
set_option maxRecDepth 20000 in
theorem gX4_posting_X4_isIndex : GoodIn wsX4_posting (va_wsS RX4 170 yX4_isIndex wsX4_isIndex) := goodIn_app (goodIn_of _ (by decide +kernel)) ggX4_posting_X4_isIndex
set_option maxRecDepth 20000 in
theorem ggX4_balance_X4_isIndex : GoodIn wsX4_balance wsX4_isIndex := goodIn_r _ [7] (by decide +kernel) (by decide +kernel)
set_option maxRecDepth 20000 in
theorem gX4_balance_X4_isIndex : GoodIn wsX4_balance (va_wsS RX4 170 yX4_isIndex wsX4_isIndex) := goodIn_app (goodIn_of _ (by decide +kernel)) ggX4_balance_X4_isIndex
set_option maxRecDepth 20000 in
theorem ggX4_isPlanGood_X4_isPlanClosed : GoodIn wsX4_isPlanGood wsX4_isPlanClosed := goodIn_r _ [6, 7, 25, 26, 27, 28, 29, 30, 31, 32, 33, 34, 35, 36, 37, 38, 39] (by decide +kernel) (by decide +kernel)
set_option maxRecDepth 20000 in
theorem gX4_isPlanGood_X4_isPlanClosed : GoodIn wsX4_isPlanGood (wsV RX4 37 RX4 yX4_isPlanClosed wsX4_isPlanClosed) := goodIn_app (goodIn_of _ (by decide +kernel)) ggX4_isPlanGood_X4_isPlanClosed
set_option maxRecDepth 20000 in
theorem ggX4_isPlanGood_X1_firstFault : GoodIn wsX4_isPlanGood wsX1_firstFault := goodIn_r _ [11, 12, 13, 14, 9, 15, 16, 17, 18, 19, 20, 21, 22, 23, 24, 40, 41, 42, 43, 44, 45] (by decide +kernel) (by decide +kernel)
set_option maxRecDepth 20000 in
theorem gX4_isPlanGood_X1_firstFault_n65 : GoodIn wsX4_isPlanGood (wsX1_firstFault) := ggX4_isPlanGood_X1_firstFault
set_option maxRecDepth 20000 in
theorem ggX4_isPolicy_X4_isIndex : GoodIn wsX4_isPolicy wsX4_isIndex := goodIn_r _ [5] (by decide +kernel) (by decide +kernel)
set_option maxRecDepth 20000 in
theorem gX4_isPolicy_X4_isIndex : GoodIn wsX4_isPolicy (va_wsS RX4 170 yX4_isIndex wsX4_isIndex) := goodIn_app (goodIn_of _ (by decide +kernel)) ggX4_isPolicy_X4_isIndex
set_option maxRecDepth 20000 in
theorem ggX4_book_X2_pencil : GoodIn wsX4_book wsX2_pencil := goodIn_r _ [5, 6, 7, 8, 9, 10, 96, 97, 98, 99, 100, 101, 102, 103, 104, 105] (by decide +kernel) (by decide +kernel)
set_option maxRecDepth 20000 in
theorem gX4_book_X2_pencil_n181 : GoodIn wsX4_book (wsX2_pencil) := ggX4_book_X2_pencil
set_option maxRecDepth 20000 in
theorem ggX4_book_X4_postPremium : GoodIn wsX4_book wsX4_postPremium := goodIn_ca (goodIn_r _ [15, 16, 17, 1, 18, 19, 20, 21, 3, 22, 23, 24, 25, 26, 27, 28, 29, 30, 31, 32, 33, 34, 35, 36, 37, 38, 6, 8, 39, 40, 41, 42, 43, 44, 45, 46, 47, 9, 10, 48, 14, 49, 50, 51, 52, 53, 54, 55, 56, 57, 58, 59, 60, 61, 62, 63, 64, 65, 66, 67, 68, 69, 70, 71, 72, 73, 74, 75, 76, 77, 78, 79, 80, 81, 82, 83, 84, 85, 86, 87, 91, 92, 93, 94, 95, 96, 97, 98, 99, 100, 101, 102, 103, 104, 105, 106, 107, 108, 109, 110, 111, 112, 113, 114] (by decide +kernel) (by decide +kernel)) (goodIn_sub (fun _ h => List.mem_cons_of_mem _ (List.mem_append_right _ h)) (by decide +kernel))
set_option maxRecDepth 20000 in
theorem gX4_book_X4_postPremium : GoodIn wsX4_book (wsV RX4 102 RX4 yX4_postPremium wsX4_postPremium) := goodIn_app (goodIn_of _ (by decide +kernel)) ggX4_book_X4_postPremium
set_option maxRecDepth 20000 in
theorem ggX4_book_X2_confirm : GoodIn wsX4_book wsX2_confirm := goodIn_r _ [90, 7, 96, 97, 98, 99, 100, 101, 102, 103, 104, 105] (by decide +kernel) (by decide +kernel)
set_option maxRecDepth 20000 in
theorem gX4_book_X2_confirm_n184 : GoodIn wsX4_book (wsX2_confirm) := ggX4_book_X2_confirm
set_option maxRecDepth 20000 in
theorem ggX4_postPremium_X2_premiumBefore : GoodIn wsX4_postPremium wsX2_premiumBefore := goodIn_r _ [10, 11, 12, 13, 14, 15, 16, 17, 18, 19, 8, 20, 21, 22, 23, 24, 25, 26, 27, 28, 29, 30, 31, 32, 33, 34, 35, 36, 37, 38, 39, 40, 41, 42, 43, 44, 45, 46, 47, 48, 49, 50, 51, 52, 53, 54, 55, 85, 86, 87, 88, 89, 90, 91, 92, 93, 94, 95, 96, 97, 98, 99, 100] (by decide +kernel) (by decide +kernel)
set_option maxRecDepth 20000 in
theorem gX4_postPremium_X2_premiumBefore_n167 : GoodIn wsX4_postPremium (wsX2_premiumBefore) := ggX4_postPremium_X2_premiumBefore
set_option maxRecDepth 20000 in
theorem ggX4_postPremium_X4_percentOf : GoodIn wsX4_postPremium wsX4_percentOf := goodIn_r _ [58, 59, 60, 61, 62] (by decide +kernel) (by decide +kernel)
set_option maxRecDepth 20000 in
theorem gX4_postPremium_X4_percentOf : GoodIn wsX4_postPremium (va_wsS RX4 129 yX4_percentOf wsX4_percentOf) := goodIn_app (goodIn_of _ (by decide +kernel)) ggX4_postPremium_X4_percentOf
set_option maxRecDepth 20000 in
theorem ggX4_postPremium_X0_hasRoomFor : GoodIn wsX4_postPremium wsX0_hasRoomFor := goodIn_r _ [66, 67, 68, 69, 64, 70, 101, 102, 103] (by decide +kernel) (by decide +kernel)
set_option maxRecDepth 20000 in
theorem gX4_postPremium_X0_hasRoomFor_n187 : GoodIn wsX4_postPremium (wsX0_hasRoomFor) := ggX4_postPremium_X0_hasRoomFor
set_option maxRecDepth 20000 in
theorem ggX4_postPremium_X0_post : GoodIn wsX4_postPremium wsX0_post := goodIn_r _ [73, 74, 75, 76, 64, 77, 67, 78, 79, 101, 102, 103] (by decide +kernel) (by decide +kernel)
set_option maxRecDepth 20000 in
theorem gX4_postPremium_X0_post_n193 : GoodIn wsX4_postPremium (wsX0_post) := ggX4_postPremium_X0_post
set_option maxRecDepth 20000 in
theorem ggX4_postClaim_X0_hasRoomFor : GoodIn wsX4_postClaim wsX0_hasRoomFor := goodIn_r _ [7, 8, 9, 10, 5, 11, 26, 27, 28] (by decide +kernel) (by decide +kernel)
set_option maxRecDepth 20000 in
theorem gX4_postClaim_X0_hasRoomFor_n187 : GoodIn wsX4_postClaim (wsX0_hasRoomFor) := ggX4_postClaim_X0_hasRoomFor
set_option maxRecDepth 20000 in
theorem ggX4_postClaim_X0_post : GoodIn wsX4_postClaim wsX0_post := goodIn_r _ [14, 15, 16, 17, 5, 18, 8, 19, 20, 26, 27, 28] (by decide +kernel) (by decide +kernel)
set_option maxRecDepth 20000 in
theorem gX4_postClaim_X0_post_n193 : GoodIn wsX4_postClaim (wsX0_post) := ggX4_postClaim_X0_post
set_option maxRecDepth 20000 in
theorem ggX4_percentOf_J9_floorDiv_7cf53 : GoodIn wsX4_percentOf wsJ9_floorDiv_7cf53 := goodIn_r _ [4] (by decide +kernel) (by decide +kernel)
set_option maxRecDepth 20000 in
theorem gX4_percentOf_J9_floorDiv_7cf53 : GoodIn wsX4_percentOf (va_wsS RX4 196 yJ9_floorDiv_7cf53 wsJ9_floorDiv_7cf53) := goodIn_app (goodIn_of _ (by decide +kernel)) ggX4_percentOf_J9_floorDiv_7cf53
set_option maxRecDepth 20000 in
theorem ggX4_isDay_X4_isIndex : GoodIn wsX4_isDay wsX4_isIndex := goodIn_r _ [4] (by decide +kernel) (by decide +kernel)
set_option maxRecDepth 20000 in
theorem gX4_isDay_X4_isIndex : GoodIn wsX4_isDay (va_wsS RX4 170 yX4_isIndex wsX4_isIndex) := goodIn_app (goodIn_of _ (by decide +kernel)) ggX4_isDay_X4_isIndex
set_option maxRecDepth 20000 in
theorem ggX4_isValueOf_X4_isWithin : GoodIn wsX4_isValueOf wsX4_isWithin := goodIn_r _ [4] (by decide +kernel) (by decide +kernel)
set_option maxRecDepth 20000 in
theorem gX4_isValueOf_X4_isWithin : GoodIn wsX4_isValueOf (va_wsS RX4 52 yX4_isWithin wsX4_isWithin) := goodIn_app (goodIn_of _ (by decide +kernel)) ggX4_isValueOf_X4_isWithin
