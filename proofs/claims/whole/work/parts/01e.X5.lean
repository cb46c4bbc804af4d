set_option maxRecDepth 20000 in
theorem ggX5_row_X5_outside : GoodIn wsX5_row wsX5_outside := goodIn_r _ [7] (by decide +kernel) (by decide +kernel)
set_option maxRecDepth 20000 in
theorem gX5_row_X5_outside : GoodIn wsX5_row (va_wsS RX5 71 yX5_outside wsX5_outside) := goodIn_app (goodIn_of _ (by decide +kernel)) ggX5_row_X5_outside
set_option maxRecDepth 20000 in
theorem ggX5_row_X5_fails : GoodIn wsX5_row wsX5_fails := goodIn_r _ [11, 12, 13, 14, 15, 16, 17, 18, 19, 20, 21, 22, 23, 24, 25, 26, 27, 28, 29, 30, 31, 32, 33, 34, 35, 36, 37, 38, 39, 40, 41, 42, 43] (by decide +kernel) (by decide +kernel)
set_option maxRecDepth 20000 in
theorem gX5_row_X5_fails : GoodIn wsX5_row (wsV RX5 81 RX5 yX5_fails wsX5_fails) := goodIn_app (goodIn_of _ (by decide +kernel)) ggX5_row_X5_fails
set_option maxRecDepth 20000 in
theorem ggX5_undo_X5_fails : GoodIn wsX5_undo wsX5_fails := goodIn_r _ [7, 8, 9, 10, 11, 12, 13, 14, 15, 16, 17, 18, 19, 20, 21, 22, 23, 24, 25, 26, 27, 28, 29, 30, 31, 32, 33, 34, 35, 36, 37, 38, 39] (by decide +kernel) (by decide +kernel)
set_option maxRecDepth 20000 in
theorem gX5_undo_X5_fails : GoodIn wsX5_undo (wsV RX5 81 RX5 yX5_fails wsX5_fails) := goodIn_app (goodIn_of _ (by decide +kernel)) ggX5_undo_X5_fails
set_option maxRecDepth 20000 in
theorem ggX5_flaw_X5_matches : GoodIn wsX5_flaw wsX5_matches := goodIn_r _ [6, 7, 8, 9, 10, 11, 12, 13, 14, 15, 16, 17, 18, 19, 20, 21, 22, 23, 24, 25, 26, 27, 28, 29, 30, 31, 32, 33, 34, 35, 36, 37, 38] (by decide +kernel) (by decide +kernel)
set_option maxRecDepth 20000 in
theorem gX5_flaw_X5_matches : GoodIn wsX5_flaw (wsV RX5 85 RX5 yX5_matches wsX5_matches) := goodIn_app (goodIn_of _ (by decide +kernel)) ggX5_flaw_X5_matches
set_option maxRecDepth 20000 in
theorem ggX5_witness_X5_flaw : GoodIn wsX5_witness wsX5_flaw := goodIn_r _ [6, 7, 8, 9, 10, 5, 11, 12, 13, 14, 15, 16, 17, 18, 19, 20, 21, 22, 23, 24, 25, 26, 27, 28, 29, 30, 31, 32, 33, 34, 35, 36, 37, 38, 39, 40, 41, 42, 43] (by decide +kernel) (by decide +kernel)
set_option maxRecDepth 20000 in
theorem gX5_witness_X5_flaw : GoodIn wsX5_witness (wsV RX5 88 RX5 yX5_flaw wsX5_flaw) := goodIn_app (goodIn_of _ (by decide +kernel)) ggX5_witness_X5_flaw
set_option maxRecDepth 20000 in
theorem ggX5_rate_X5_matches : GoodIn wsX5_rate wsX5_matches := goodIn_r _ [7, 2, 8, 9, 10, 11, 12, 13, 14, 15, 16, 17, 18, 19, 20, 21, 22, 23, 24, 25, 26, 27, 28, 29, 30, 31, 32, 33, 34, 35, 36, 37, 38] (by decide +kernel) (by decide +kernel)
set_option maxRecDepth 20000 in
theorem gX5_rate_X5_matches : GoodIn wsX5_rate (wsV RX5 85 RX5 yX5_matches wsX5_matches) := goodIn_app (goodIn_of _ (by decide +kernel)) ggX5_rate_X5_matches
set_option maxRecDepth 20000 in
theorem ggX5_quota_X5_outside : GoodIn wsX5_quota wsX5_outside := goodIn_r _ [6] (by decide +kernel) (by decide +kernel)
set_option maxRecDepth 20000 in
theorem gX5_quota_X5_outside : GoodIn wsX5_quota (va_wsS RX5 71 yX5_outside wsX5_outside) := goodIn_app (goodIn_of _ (by decide +kernel)) ggX5_quota_X5_outside
set_option maxRecDepth 20000 in
theorem ggX5_quota_X5_fails : GoodIn wsX5_quota wsX5_fails := goodIn_r _ [10, 11, 12, 13, 14, 15, 16, 17, 18, 19, 20, 21, 22, 23, 24, 25, 26, 27, 28, 29, 30, 31, 32, 33, 34, 35, 36, 37, 38, 39, 40, 41, 42] (by decide +kernel) (by decide +kernel)
set_option maxRecDepth 20000 in
theorem gX5_quota_X5_fails : GoodIn wsX5_quota (wsV RX5 81 RX5 yX5_fails wsX5_fails) := goodIn_app (goodIn_of _ (by decide +kernel)) ggX5_quota_X5_fails
set_option maxRecDepth 20000 in
theorem ggX5_terms_X5_outside : GoodIn wsX5_terms wsX5_outside := goodIn_r _ [8] (by decide +kernel) (by decide +kernel)
set_option maxRecDepth 20000 in
theorem gX5_terms_X5_outside : GoodIn wsX5_terms (va_wsS RX5 71 yX5_outside wsX5_outside) := goodIn_app (goodIn_of _ (by decide +kernel)) ggX5_terms_X5_outside
set_option maxRecDepth 20000 in
theorem ggX5_terms_X5_fails : GoodIn wsX5_terms wsX5_fails := goodIn_r _ [12, 13, 14, 15, 16, 17, 18, 19, 20, 21, 22, 23, 24, 25, 26, 27, 28, 29, 30, 31, 32, 33, 34, 35, 36, 37, 38, 39, 40, 41, 42, 43, 44] (by decide +kernel) (by decide +kernel)
set_option maxRecDepth 20000 in
theorem gX5_terms_X5_fails : GoodIn wsX5_terms (wsV RX5 81 RX5 yX5_fails wsX5_fails) := goodIn_app (goodIn_of _ (by decide +kernel)) ggX5_terms_X5_fails
set_option maxRecDepth 20000 in
theorem ggX5_layer_X5_outside : GoodIn wsX5_layer wsX5_outside := goodIn_r _ [9] (by decide +kernel) (by decide +kernel)
set_option maxRecDepth 20000 in
theorem gX5_layer_X5_outside : GoodIn wsX5_layer (va_wsS RX5 71 yX5_outside wsX5_outside) := goodIn_app (goodIn_of _ (by decide +kernel)) ggX5_layer_X5_outside
set_option maxRecDepth 20000 in
theorem ggX5_layer_X5_fails : GoodIn wsX5_layer wsX5_fails := goodIn_r _ [13, 14, 15, 16, 17, 18, 19, 20, 21, 22, 23, 24, 25, 26, 27, 28, 29, 30, 31, 32, 33, 34, 35, 36, 37, 38, 39, 40, 41, 42, 43, 44, 45] (by decide +kernel) (by decide +kernel)
set_option maxRecDepth 20000 in
theorem gX5_layer_X5_fails : GoodIn wsX5_layer (wsV RX5 81 RX5 yX5_fails wsX5_fails) := goodIn_app (goodIn_of _ (by decide +kernel)) ggX5_layer_X5_fails
set_option maxRecDepth 20000 in
theorem ggX5_bound_X5_look : GoodIn wsX5_bound wsX5_look := goodIn_r _ [6, 1, 7, 8, 9, 10, 11, 12, 13, 14, 15, 16, 17, 18, 19, 20, 21, 22, 23, 24, 25, 26, 27, 28, 29, 30, 31, 32, 33, 34, 35, 36, 37, 38, 39, 40, 41, 42] (by decide +kernel) (by decide +kernel)
set_option maxRecDepth 20000 in
theorem gX5_bound_X5_look : GoodIn wsX5_bound (wsV RX5 114 RX5 yX5_look wsX5_look) := goodIn_app (goodIn_of _ (by decide +kernel)) ggX5_bound_X5_look
set_option maxRecDepth 20000 in
theorem ggX5_inForce_X5_inTerm : GoodIn wsX5_inForce wsX5_inTerm := goodIn_r _ [5, 6, 7, 22, 23, 24, 25, 26, 27, 28, 29, 30, 31, 32, 33, 34, 35, 36, 37, 38, 39, 40, 41, 42, 43, 44, 45, 46, 47, 48, 49, 50, 51, 52] (by decide +kernel) (by decide +kernel)
set_option maxRecDepth 20000 in
theorem gX5_inForce_X5_inTerm : GoodIn wsX5_inForce (wsV RX5 118 RX5 yX5_inTerm wsX5_inTerm) := goodIn_app (goodIn_of _ (by decide +kernel)) ggX5_inForce_X5_inTerm
set_option maxRecDepth 20000 in
theorem ggX5_inForce_X5_look : GoodIn wsX5_inForce wsX5_look := goodIn_r _ [11, 12, 13, 14, 15, 16, 17, 22, 23, 24, 25, 26, 27, 28, 29, 30, 31, 32, 33, 34, 35, 36, 37, 38, 39, 40, 41, 42, 43, 44, 45, 46, 47, 48, 49, 50, 51, 52] (by decide +kernel) (by decide +kernel)
set_option maxRecDepth 20000 in
theorem gX5_inForce_X5_look : GoodIn wsX5_inForce (wsV RX5 114 RX5 yX5_look wsX5_look) := goodIn_app (goodIn_of _ (by decide +kernel)) ggX5_inForce_X5_look
set_option maxRecDepth 20000 in
theorem ggX5_inForce_X5_runs : GoodIn wsX5_inForce wsX5_runs := goodIn_r _ [21, 12, 16, 22, 23, 24, 25, 26, 27, 28, 29, 30, 31, 32, 33, 34, 35, 36, 37, 38, 39, 40, 41, 42, 43, 44, 45, 46, 47, 48, 49, 50, 51, 52] (by decide +kernel) (by decide +kernel)
set_option maxRecDepth 20000 in
theorem gX5_inForce_X5_runs : GoodIn wsX5_inForce (wsV RX5 122 RX5 yX5_runs wsX5_runs) := goodIn_app (goodIn_of _ (by decide +kernel)) ggX5_inForce_X5_runs
set_option maxRecDepth 20000 in
theorem ggX5_charge_X5_look : GoodIn wsX5_charge wsX5_look := goodIn_r _ [5, 6, 7, 8, 9, 10, 11, 32, 33, 34, 35, 36, 37, 38, 39, 40, 41, 42, 43, 44, 45, 46, 47, 48, 49, 50, 51, 52, 53, 54, 55, 56, 57, 58, 59, 60, 61, 62] (by decide +kernel) (by decide +kernel)
set_option maxRecDepth 20000 in
theorem gX5_charge_X5_look : GoodIn wsX5_charge (wsV RX5 114 RX5 yX5_look wsX5_look) := goodIn_app (goodIn_of _ (by decide +kernel)) ggX5_charge_X5_look
set_option maxRecDepth 20000 in
theorem ggX5_charge_X5_runs : GoodIn wsX5_charge wsX5_runs := goodIn_r _ [15, 6, 10, 32, 33, 34, 35, 36, 37, 38, 39, 40, 41, 42, 43, 44, 45, 46, 47, 48, 49, 50, 51, 52, 53, 54, 55, 56, 57, 58, 59, 60, 61, 62] (by decide +kernel) (by decide +kernel)
set_option maxRecDepth 20000 in
theorem gX5_charge_X5_runs : GoodIn wsX5_charge (wsV RX5 122 RX5 yX5_runs wsX5_runs) := goodIn_app (goodIn_of _ (by decide +kernel)) ggX5_charge_X5_runs
set_option maxRecDepth 20000 in
theorem ggX5_charge_X5_known : GoodIn wsX5_charge wsX5_known := goodIn_r _ [19, 6, 10, 20, 21, 32, 33, 34, 35, 36, 37, 38, 39, 40, 41, 42, 43, 44, 45, 46, 47, 48, 49, 50, 51, 52, 53, 54, 55, 56, 57, 58, 59, 60, 61, 62] (by decide +kernel) (by decide +kernel)
set_option maxRecDepth 20000 in
theorem gX5_charge_X5_known : GoodIn wsX5_charge (wsV RX5 126 RX5 yX5_known wsX5_known) := goodIn_app (goodIn_of _ (by decide +kernel)) ggX5_charge_X5_known
set_option maxRecDepth 20000 in
theorem ggX5_charge_X5_rate : GoodIn wsX5_charge wsX5_rate := goodIn_r _ [25, 26, 27, 28, 29, 30, 4, 31, 32, 33, 34, 35, 36, 37, 38, 39, 40, 41, 42, 43, 44, 45, 46, 47, 48, 49, 50, 51, 52, 53, 54, 55, 56, 57, 58, 59, 60, 61, 62] (by decide +kernel) (by decide +kernel)
set_option maxRecDepth 20000 in
theorem gX5_charge_X5_rate : GoodIn wsX5_charge (wsV RX5 130 RX5 yX5_rate wsX5_rate) := goodIn_app (goodIn_of _ (by decide +kernel)) ggX5_charge_X5_rate
set_option maxRecDepth 20000 in
theorem ggX5_charges_X5_charge : GoodIn wsX5_charges wsX5_charge := goodIn_r _ [7, 8, 9, 10, 6, 11, 12, 13, 14, 15, 16, 17, 18, 19, 20, 21, 22, 23, 24, 25, 26, 27, 28, 29, 30, 31, 32, 33, 34, 35, 36, 37, 38, 39, 40, 41, 42, 43, 44, 45, 46, 47, 48, 49, 50, 51, 52, 53, 54, 55, 56, 57, 58, 59, 60, 61, 62, 63, 64, 65, 66, 67, 68] (by decide +kernel) (by decide +kernel)
set_option maxRecDepth 20000 in
theorem gX5_charges_X5_charge : GoodIn wsX5_charges (wsV RX5 134 RX5 yX5_charge wsX5_charge) := goodIn_app (goodIn_of _ (by decide +kernel)) ggX5_charges_X5_charge
set_option maxRecDepth 20000 in
theorem ggX5_books_X5_charges : GoodIn wsX5_books wsX5_charges := goodIn_r _ [9, 10, 11, 12, 13, 14, 8, 15, 16, 17, 18, 19, 20, 2, 1, 21, 22, 23, 24, 25, 26, 27, 28, 29, 30, 31, 32, 33, 34, 35, 36, 37, 38, 39, 40, 41, 42, 43, 62, 63, 64, 65, 66, 67, 68, 69, 70, 71, 72, 73, 74, 75, 76, 77, 78, 79, 80, 81, 82, 83, 84, 85, 86, 87, 88, 89, 90, 91, 92] (by decide +kernel) (by decide +kernel)
set_option maxRecDepth 20000 in
theorem gX5_books_X5_charges : GoodIn wsX5_books (wsV RX5 144 RX5 yX5_charges wsX5_charges) := goodIn_app (goodIn_of _ (by decide +kernel)) ggX5_books_X5_charges
set_option maxRecDepth 20000 in
theorem ggX5_books_X5_drafted : GoodIn wsX5_books wsX5_drafted := goodIn_r _ [47, 48, 3, 49, 50, 62, 63, 64, 65, 66, 67, 68, 69, 70, 71, 72, 73, 74, 75, 76, 77, 78, 79, 80, 81, 82, 83, 84, 85, 86, 87, 88, 89, 90, 91, 92] (by decide +kernel) (by decide +kernel)
set_option maxRecDepth 20000 in
theorem gX5_books_X5_drafted : GoodIn wsX5_books (wsV RX5 147 RX5 yX5_drafted wsX5_drafted) := goodIn_app (goodIn_of _ (by decide +kernel)) ggX5_books_X5_drafted
set_option maxRecDepth 20000 in
theorem ggX5_books_X5_down : GoodIn wsX5_books wsX5_down := goodIn_r _ [53] (by decide +kernel) (by decide +kernel)
set_option maxRecDepth 20000 in
theorem gX5_books_X5_down : GoodIn wsX5_books (va_wsS RX5 150 yX5_down wsX5_down) := goodIn_app (goodIn_of _ (by decide +kernel)) ggX5_books_X5_down
set_option maxRecDepth 20000 in
theorem ggX5_books_X5_posts : GoodIn wsX5_books wsX5_posts := goodIn_r _ [57, 58, 3, 59, 48, 60, 49, 61, 50, 62, 63, 64, 65, 66, 67, 68, 69, 70, 71, 72, 73, 74, 75, 76, 77, 78, 79, 80, 81, 82, 83, 84, 85, 86, 87, 88, 89, 90, 91, 92] (by decide +kernel) (by decide +kernel)
set_option maxRecDepth 20000 in
theorem gX5_books_X5_posts : GoodIn wsX5_books (wsV RX5 153 RX5 yX5_posts wsX5_posts) := goodIn_app (goodIn_of _ (by decide +kernel)) ggX5_books_X5_posts
set_option maxRecDepth 20000 in
theorem ggX5_isValue_X5_outside : GoodIn wsX5_isValue wsX5_outside := goodIn_r _ [4] (by decide +kernel) (by decide +kernel)
set_option maxRecDepth 20000 in
theorem gX5_isValue_X5_outside : GoodIn wsX5_isValue (va_wsS RX5 71 yX5_outside wsX5_outside) := goodIn_app (goodIn_of _ (by decide +kernel)) ggX5_isValue_X5_outside
set_option maxRecDepth 20000 in
theorem ggX5_bind_X5_outside : GoodIn wsX5_bind wsX5_outside := goodIn_r _ [10] (by decide +kernel) (by decide +kernel)
set_option maxRecDepth 20000 in
theorem gX5_bind_X5_outside : GoodIn wsX5_bind (va_wsS RX5 71 yX5_outside wsX5_outside) := goodIn_app (goodIn_of _ (by decide +kernel)) ggX5_bind_X5_outside
set_option maxRecDepth 20000 in
theorem ggX5_bind_X5_isValue : GoodIn wsX5_bind wsX5_isValue := goodIn_r _ [13, 7, 8, 9, 10] (by decide +kernel) (by decide +kernel)
set_option maxRecDepth 20000 in
theorem gX5_bind_X5_isValue : GoodIn wsX5_bind (va_wsS RX5 156 yX5_isValue wsX5_isValue) := goodIn_app (goodIn_of _ (by decide +kernel)) ggX5_bind_X5_isValue
set_option maxRecDepth 20000 in
theorem ggX5_bind_X5_flaw : GoodIn wsX5_bind wsX5_flaw := goodIn_r _ [17, 18, 19, 20, 21, 9, 22, 23, 89, 90, 91, 92, 93, 94, 95, 96, 97, 98, 99, 100, 101, 102, 103, 104, 105, 106, 107, 108, 109, 110, 111, 112, 113, 114, 115, 116, 117, 118, 119] (by decide +kernel) (by decide +kernel)
set_option maxRecDepth 20000 in
theorem gX5_bind_X5_flaw : GoodIn wsX5_bind (wsV RX5 88 RX5 yX5_flaw wsX5_flaw) := goodIn_app (goodIn_of _ (by decide +kernel)) ggX5_bind_X5_flaw
set_option maxRecDepth 20000 in
theorem ggX5_bind_X5_fails : GoodIn wsX5_bind wsX5_fails := goodIn_r _ [27, 6, 89, 90, 91, 92, 93, 94, 95, 96, 97, 98, 99, 100, 101, 102, 103, 104, 105, 106, 107, 108, 109, 110, 111, 112, 113, 114, 115, 116, 117, 118, 119] (by decide +kernel) (by decide +kernel)
set_option maxRecDepth 20000 in
theorem gX5_bind_X5_fails : GoodIn wsX5_bind (wsV RX5 81 RX5 yX5_fails wsX5_fails) := goodIn_app (goodIn_of _ (by decide +kernel)) ggX5_bind_X5_fails
set_option maxRecDepth 20000 in
theorem ggX5_bind_X5_least : GoodIn wsX5_bind wsX5_least := goodIn_r _ [30] (by decide +kernel) (by decide +kernel)
set_option maxRecDepth 20000 in
theorem gX5_bind_X5_least : GoodIn wsX5_bind (va_wsS RX5 159 yX5_least wsX5_least) := goodIn_app (goodIn_of _ (by decide +kernel)) ggX5_bind_X5_least
set_option maxRecDepth 20000 in
theorem ggX5_bind_X5_lay : GoodIn wsX5_bind wsX5_lay := goodIn_r _ [34, 35, 2, 36, 37, 38, 39, 89, 90, 91, 92, 93, 94, 95, 96, 97, 98, 99, 100, 101, 102, 103, 104, 105, 106, 107, 108, 109, 110, 111, 112, 113, 114, 115, 116, 117, 118, 119] (by decide +kernel) (by decide +kernel)
set_option maxRecDepth 20000 in
theorem gX5_bind_X5_lay : GoodIn wsX5_bind (wsV RX5 162 RX5 yX5_lay wsX5_lay) := goodIn_app (goodIn_of _ (by decide +kernel)) ggX5_bind_X5_lay
set_option maxRecDepth 20000 in
theorem ggX5_bind_X5_books : GoodIn wsX5_bind wsX5_books := goodIn_r _ [43, 36, 2, 44, 45, 46, 47, 48, 9, 49, 3, 4, 50, 51, 52, 53, 54, 55, 56, 57, 58, 37, 35, 38, 59, 60, 61, 62, 63, 64, 65, 66, 39, 5, 67, 68, 69, 70, 18, 23, 19, 20, 21, 22, 71, 72, 73, 74, 75, 76, 77, 78, 79, 80, 81, 82, 83, 84, 85, 86, 87, 88, 89, 90, 91, 92, 93, 94, 95, 96, 97, 98, 99, 100, 101, 102, 103, 104, 105, 106, 107, 108, 109, 110, 111, 112, 113, 114, 115, 116, 117, 118, 119] (by decide +kernel) (by decide +kernel)
set_option maxRecDepth 20000 in
theorem gX5_bind_X5_books : GoodIn wsX5_bind (wsV RX5 166 RX5 yX5_books wsX5_books) := goodIn_app (goodIn_of _ (by decide +kernel)) ggX5_bind_X5_books
set_option maxRecDepth 20000 in
theorem ggX5_bookedOr_X5_books : GoodIn wsX5_bookedOr wsX5_books := goodIn_r _ [6, 7, 8, 9, 10, 11, 12, 13, 5, 14, 15, 16, 17, 18, 19, 20, 21, 22, 23, 24, 25, 26, 27, 28, 29, 30, 31, 32, 33, 34, 35, 36, 37, 38, 39, 40, 41, 42, 43, 44, 45, 46, 47, 48, 49, 50, 51, 52, 53, 54, 55, 56, 57, 58, 59, 60, 61, 62, 63, 64, 65, 66, 67, 68, 69, 70, 71, 72, 73, 74, 75, 76, 77, 78, 79, 80, 81, 82, 83, 84, 85, 86, 87, 88, 89, 90, 91, 92, 93, 94, 95, 96, 97] (by decide +kernel) (by decide +kernel)
set_option maxRecDepth 20000 in
theorem gX5_bookedOr_X5_books : GoodIn wsX5_bookedOr (wsV RX5 166 RX5 yX5_books wsX5_books) := goodIn_app (goodIn_of _ (by decide +kernel)) ggX5_bookedOr_X5_books
set_option maxRecDepth 20000 in
theorem ggX5_change_X5_isPolicy : GoodIn wsX5_change wsX5_isPolicy := goodIn_r _ [6, 7, 98, 99, 100, 101, 102, 103, 104, 105, 106, 107, 108, 109, 110, 111, 112, 113, 114, 115, 116, 117, 118, 119, 120, 121, 122, 123, 124, 125, 126, 127, 128] (by decide +kernel) (by decide +kernel)
set_option maxRecDepth 20000 in
theorem gX5_change_X5_isPolicy : GoodIn wsX5_change (wsV RX5 170 RX5 yX5_isPolicy wsX5_isPolicy) := goodIn_app (goodIn_of _ (by decide +kernel)) ggX5_change_X5_isPolicy
set_option maxRecDepth 20000 in
theorem ggX5_change_X5_outside : GoodIn wsX5_change wsX5_outside := goodIn_r _ [10] (by decide +kernel) (by decide +kernel)
set_option maxRecDepth 20000 in
theorem gX5_change_X5_outside : GoodIn wsX5_change (va_wsS RX5 71 yX5_outside wsX5_outside) := goodIn_app (goodIn_of _ (by decide +kernel)) ggX5_change_X5_outside
set_option maxRecDepth 20000 in
theorem ggX5_change_X5_inTerm : GoodIn wsX5_change wsX5_inTerm := goodIn_r _ [14, 15, 16, 98, 99, 100, 101, 102, 103, 104, 105, 106, 107, 108, 109, 110, 111, 112, 113, 114, 115, 116, 117, 118, 119, 120, 121, 122, 123, 124, 125, 126, 127, 128] (by decide +kernel) (by decide +kernel)
set_option maxRecDepth 20000 in
theorem gX5_change_X5_inTerm : GoodIn wsX5_change (wsV RX5 118 RX5 yX5_inTerm wsX5_inTerm) := goodIn_app (goodIn_of _ (by decide +kernel)) ggX5_change_X5_inTerm
set_option maxRecDepth 20000 in
theorem ggX5_change_X5_isValue : GoodIn wsX5_change wsX5_isValue := goodIn_r _ [19, 8, 9, 5, 10] (by decide +kernel) (by decide +kernel)
set_option maxRecDepth 20000 in
theorem gX5_change_X5_isValue : GoodIn wsX5_change (va_wsS RX5 156 yX5_isValue wsX5_isValue) := goodIn_app (goodIn_of _ (by decide +kernel)) ggX5_change_X5_isValue
set_option maxRecDepth 20000 in
theorem ggX5_change_X5_inForce : GoodIn wsX5_change wsX5_inForce := goodIn_r _ [23, 11, 12, 13, 5, 14, 15, 16, 24, 25, 26, 27, 28, 1, 29, 30, 31, 32, 33, 34, 35, 36, 98, 99, 100, 101, 102, 103, 104, 105, 106, 107, 108, 109, 110, 111, 112, 113, 114, 115, 116, 117, 118, 119, 120, 121, 122, 123, 124, 125, 126, 127, 128] (by decide +kernel) (by decide +kernel)
set_option maxRecDepth 20000 in
theorem gX5_change_X5_inForce : GoodIn wsX5_change (wsV RX5 174 RX5 yX5_inForce wsX5_inForce) := goodIn_app (goodIn_of _ (by decide +kernel)) ggX5_change_X5_inForce
set_option maxRecDepth 20000 in
theorem ggX5_change_X5_fails : GoodIn wsX5_change wsX5_fails := goodIn_r _ [40, 41, 98, 99, 100, 101, 102, 103, 104, 105, 106, 107, 108, 109, 110, 111, 112, 113, 114, 115, 116, 117, 118, 119, 120, 121, 122, 123, 124, 125, 126, 127, 128] (by decide +kernel) (by decide +kernel)
set_option maxRecDepth 20000 in
theorem gX5_change_X5_fails : GoodIn wsX5_change (wsV RX5 81 RX5 yX5_fails wsX5_fails) := goodIn_app (goodIn_of _ (by decide +kernel)) ggX5_change_X5_fails
set_option maxRecDepth 20000 in
theorem ggX5_change_X5_lay : GoodIn wsX5_change wsX5_lay := goodIn_r _ [45, 31, 1, 29, 30, 32, 46, 98, 99, 100, 101, 102, 103, 104, 105, 106, 107, 108, 109, 110, 111, 112, 113, 114, 115, 116, 117, 118, 119, 120, 121, 122, 123, 124, 125, 126, 127, 128] (by decide +kernel) (by decide +kernel)
set_option maxRecDepth 20000 in
theorem gX5_change_X5_lay : GoodIn wsX5_change (wsV RX5 162 RX5 yX5_lay wsX5_lay) := goodIn_app (goodIn_of _ (by decide +kernel)) ggX5_change_X5_lay
set_option maxRecDepth 20000 in
theorem ggX5_change_X5_bookedOr : GoodIn wsX5_change wsX5_bookedOr := goodIn_r _ [50, 41, 51, 52, 53, 5, 54, 29, 1, 55, 56, 57, 58, 59, 60, 15, 16, 61, 62, 63, 64, 24, 25, 26, 27, 28, 30, 31, 32, 33, 34, 35, 36, 65, 66, 67, 68, 46, 69, 70, 71, 72, 73, 74, 75, 76, 77, 78, 79, 80, 81, 82, 83, 84, 85, 86, 87, 88, 89, 90, 91, 92, 93, 94, 95, 96, 97, 98, 99, 100, 101, 102, 103, 104, 105, 106, 107, 108, 109, 110, 111, 112, 113, 114, 115, 116, 117, 118, 119, 120, 121, 122, 123, 124, 125, 126, 127, 128] (by decide +kernel) (by decide +kernel)
set_option maxRecDepth 20000 in
theorem gX5_change_X5_bookedOr : GoodIn wsX5_change (wsV RX5 177 RX5 yX5_bookedOr wsX5_bookedOr) := goodIn_app (goodIn_of _ (by decide +kernel)) ggX5_change_X5_bookedOr
set_option maxRecDepth 20000 in
theorem ggX5_turns_X5_isPolicy : GoodIn wsX5_turns wsX5_isPolicy := goodIn_r _ [6, 7, 92, 93, 94, 95, 96, 97, 98, 99, 100, 101, 102, 103, 104, 105, 106, 107, 108, 109, 110, 111, 112, 113, 114, 115, 116, 117, 118, 119, 120, 121, 122] (by decide +kernel) (by decide +kernel)
set_option maxRecDepth 20000 in
theorem gX5_turns_X5_isPolicy : GoodIn wsX5_turns (wsV RX5 170 RX5 yX5_isPolicy wsX5_isPolicy) := goodIn_app (goodIn_of _ (by decide +kernel)) ggX5_turns_X5_isPolicy
set_option maxRecDepth 20000 in
theorem ggX5_turns_X5_inTerm : GoodIn wsX5_turns wsX5_inTerm := goodIn_r _ [11, 12, 13, 92, 93, 94, 95, 96, 97, 98, 99, 100, 101, 102, 103, 104, 105, 106, 107, 108, 109, 110, 111, 112, 113, 114, 115, 116, 117, 118, 119, 120, 121, 122] (by decide +kernel) (by decide +kernel)
set_option maxRecDepth 20000 in
theorem gX5_turns_X5_inTerm : GoodIn wsX5_turns (wsV RX5 118 RX5 yX5_inTerm wsX5_inTerm) := goodIn_app (goodIn_of _ (by decide +kernel)) ggX5_turns_X5_inTerm
set_option maxRecDepth 20000 in
theorem ggX5_turns_X5_inForce : GoodIn wsX5_turns wsX5_inForce := goodIn_r _ [17, 8, 9, 10, 5, 11, 12, 13, 18, 19, 20, 21, 22, 1, 23, 24, 25, 26, 27, 28, 29, 30, 92, 93, 94, 95, 96, 97, 98, 99, 100, 101, 102, 103, 104, 105, 106, 107, 108, 109, 110, 111, 112, 113, 114, 115, 116, 117, 118, 119, 120, 121, 122] (by decide +kernel) (by decide +kernel)
set_option maxRecDepth 20000 in
theorem gX5_turns_X5_inForce : GoodIn wsX5_turns (wsV RX5 174 RX5 yX5_inForce wsX5_inForce) := goodIn_app (goodIn_of _ (by decide +kernel)) ggX5_turns_X5_inForce
set_option maxRecDepth 20000 in
theorem ggX5_turns_X5_fails : GoodIn wsX5_turns wsX5_fails := goodIn_r _ [34, 35, 92, 93, 94, 95, 96, 97, 98, 99, 100, 101, 102, 103, 104, 105, 106, 107, 108, 109, 110, 111, 112, 113, 114, 115, 116, 117, 118, 119, 120, 121, 122] (by decide +kernel) (by decide +kernel)
set_option maxRecDepth 20000 in
theorem gX5_turns_X5_fails : GoodIn wsX5_turns (wsV RX5 81 RX5 yX5_fails wsX5_fails) := goodIn_app (goodIn_of _ (by decide +kernel)) ggX5_turns_X5_fails
set_option maxRecDepth 20000 in
theorem ggX5_turns_X5_lay : GoodIn wsX5_turns wsX5_lay := goodIn_r _ [39, 25, 1, 23, 24, 26, 40, 92, 93, 94, 95, 96, 97, 98, 99, 100, 101, 102, 103, 104, 105, 106, 107, 108, 109, 110, 111, 112, 113, 114, 115, 116, 117, 118, 119, 120, 121, 122] (by decide +kernel) (by decide +kernel)
set_option maxRecDepth 20000 in
theorem gX5_turns_X5_lay : GoodIn wsX5_turns (wsV RX5 162 RX5 yX5_lay wsX5_lay) := goodIn_app (goodIn_of _ (by decide +kernel)) ggX5_turns_X5_lay
set_option maxRecDepth 20000 in
theorem ggX5_turns_X5_bookedOr : GoodIn wsX5_turns wsX5_bookedOr := goodIn_r _ [44, 35, 45, 46, 47, 5, 48, 23, 1, 49, 50, 51, 52, 53, 54, 12, 13, 55, 56, 57, 58, 18, 19, 20, 21, 22, 24, 25, 26, 27, 28, 29, 30, 59, 60, 61, 62, 40, 63, 64, 65, 66, 67, 68, 69, 70, 71, 72, 73, 74, 75, 76, 77, 78, 79, 80, 81, 82, 83, 84, 85, 86, 87, 88, 89, 90, 91, 92, 93, 94, 95, 96, 97, 98, 99, 100, 101, 102, 103, 104, 105, 106, 107, 108, 109, 110, 111, 112, 113, 114, 115, 116, 117, 118, 119, 120, 121, 122] (by decide +kernel) (by decide +kernel)
set_option maxRecDepth 20000 in
theorem gX5_turns_X5_bookedOr : GoodIn wsX5_turns (wsV RX5 177 RX5 yX5_bookedOr wsX5_bookedOr) := goodIn_app (goodIn_of _ (by decide +kernel)) ggX5_turns_X5_bookedOr
set_option maxRecDepth 20000 in
theorem ggX5_cancel_X5_turns : GoodIn wsX5_cancel wsX5_turns := goodIn_r _ [5, 6, 7, 8, 9, 4, 10, 11, 12, 13, 14, 15, 16, 17, 18, 19, 20, 21, 22, 23, 24, 25, 26, 27, 28, 29, 30, 31, 32, 33, 34, 35, 36, 37, 38, 39, 40, 41, 42, 43, 44, 45, 46, 47, 48, 49, 50, 51, 52, 53, 54, 55, 56, 57, 58, 59, 60, 61, 62, 63, 64, 65, 66, 67, 68, 69, 70, 71, 72, 73, 74, 75, 76, 77, 78, 79, 80, 81, 82, 83, 84, 85, 86, 87, 88, 89, 90, 91, 92, 93, 94, 95, 96, 97, 98, 99, 100, 101, 102, 103, 104, 105, 106, 107, 108, 109, 110, 111, 112, 113, 114, 115, 116, 117, 118, 119, 120, 121, 122, 123, 124, 125, 126] (by decide +kernel) (by decide +kernel)
set_option maxRecDepth 20000 in
theorem gX5_cancel_X5_turns : GoodIn wsX5_cancel (wsV RX5 180 RX5 yX5_turns wsX5_turns) := goodIn_app (goodIn_of _ (by decide +kernel)) ggX5_cancel_X5_turns
set_option maxRecDepth 20000 in
theorem ggX5_reinstate_X5_turns : GoodIn wsX5_reinstate wsX5_turns := goodIn_r _ [5, 6, 7, 8, 9, 4, 10, 11, 12, 13, 14, 15, 16, 17, 18, 19, 20, 21, 22, 23, 24, 25, 26, 27, 28, 29, 30, 31, 32, 33, 34, 35, 36, 37, 38, 39, 40, 41, 42, 43, 44, 45, 46, 47, 48, 49, 50, 51, 52, 53, 54, 55, 56, 57, 58, 59, 60, 61, 62, 63, 64, 65, 66, 67, 68, 69, 70, 71, 72, 73, 74, 75, 76, 77, 78, 79, 80, 81, 82, 83, 84, 85, 86, 87, 88, 89, 90, 91, 92, 93, 94, 95, 96, 97, 98, 99, 100, 101, 102, 103, 104, 105, 106, 107, 108, 109, 110, 111, 112, 113, 114, 115, 116, 117, 118, 119, 120, 121, 122, 123, 124, 125, 126] (by decide +kernel) (by decide +kernel)
set_option maxRecDepth 20000 in
theorem gX5_reinstate_X5_turns : GoodIn wsX5_reinstate (wsV RX5 180 RX5 yX5_turns wsX5_turns) := goodIn_app (goodIn_of _ (by decide +kernel)) ggX5_reinstate_X5_turns
set_option maxRecDepth 20000 in
theorem ggX5_claim_X5_isPolicy : GoodIn wsX5_claim wsX5_isPolicy := goodIn_r _ [17, 18, 72, 73, 74, 75, 76, 77, 78, 79, 80, 81, 82, 83, 84, 85, 86, 87, 88, 89, 90, 91, 92, 93, 94, 95, 96, 97, 98, 99, 100, 101, 102] (by decide +kernel) (by decide +kernel)
set_option maxRecDepth 20000 in
theorem gX5_claim_X5_isPolicy : GoodIn wsX5_claim (wsV RX5 170 RX5 yX5_isPolicy wsX5_isPolicy) := goodIn_app (goodIn_of _ (by decide +kernel)) ggX5_claim_X5_isPolicy
set_option maxRecDepth 20000 in
theorem ggX5_claim_X5_outside : GoodIn wsX5_claim wsX5_outside := goodIn_r _ [21] (by decide +kernel) (by decide +kernel)
set_option maxRecDepth 20000 in
theorem gX5_claim_X5_outside : GoodIn wsX5_claim (va_wsS RX5 71 yX5_outside wsX5_outside) := goodIn_app (goodIn_of _ (by decide +kernel)) ggX5_claim_X5_outside
set_option maxRecDepth 20000 in
theorem ggX5_claim_X5_inForce : GoodIn wsX5_claim wsX5_inForce := goodIn_r _ [25, 26, 27, 28, 16, 29, 30, 31, 32, 33, 34, 35, 36, 37, 38, 39, 40, 41, 42, 43, 44, 45, 72, 73, 74, 75, 76, 77, 78, 79, 80, 81, 82, 83, 84, 85, 86, 87, 88, 89, 90, 91, 92, 93, 94, 95, 96, 97, 98, 99, 100, 101, 102] (by decide +kernel) (by decide +kernel)
set_option maxRecDepth 20000 in
theorem gX5_claim_X5_inForce : GoodIn wsX5_claim (wsV RX5 174 RX5 yX5_inForce wsX5_inForce) := goodIn_app (goodIn_of _ (by decide +kernel)) ggX5_claim_X5_inForce
set_option maxRecDepth 20000 in
theorem ggX5_claim_X5_fails : GoodIn wsX5_claim wsX5_fails := goodIn_r _ [49, 11, 72, 73, 74, 75, 76, 77, 78, 79, 80, 81, 82, 83, 84, 85, 86, 87, 88, 89, 90, 91, 92, 93, 94, 95, 96, 97, 98, 99, 100, 101, 102] (by decide +kernel) (by decide +kernel)
set_option maxRecDepth 20000 in
theorem gX5_claim_X5_fails : GoodIn wsX5_claim (wsV RX5 81 RX5 yX5_fails wsX5_fails) := goodIn_app (goodIn_of _ (by decide +kernel)) ggX5_claim_X5_fails
set_option maxRecDepth 20000 in
theorem ggX5_claim_X5_least : GoodIn wsX5_claim wsX5_least := goodIn_r _ [52] (by decide +kernel) (by decide +kernel)
set_option maxRecDepth 20000 in
theorem gX5_claim_X5_least : GoodIn wsX5_claim (va_wsS RX5 159 yX5_least wsX5_least) := goodIn_app (goodIn_of _ (by decide +kernel)) ggX5_claim_X5_least
set_option maxRecDepth 20000 in
theorem ggX5_claim_X5_before : GoodIn wsX5_claim wsX5_before := goodIn_r _ [56, 1, 12, 72, 73, 74, 75, 76, 77, 78, 79, 80, 81, 82, 83, 84, 85, 86, 87, 88, 89, 90, 91, 92, 93, 94, 95, 96, 97, 98, 99, 100, 101, 102] (by decide +kernel) (by decide +kernel)
set_option maxRecDepth 20000 in
theorem gX5_claim_X5_before : GoodIn wsX5_claim (wsV RX5 184 RX5 yX5_before wsX5_before) := goodIn_app (goodIn_of _ (by decide +kernel)) ggX5_claim_X5_before
set_option maxRecDepth 20000 in
theorem ggX5_claim_X5_drafted : GoodIn wsX5_claim wsX5_drafted := goodIn_r _ [60, 61, 9, 62, 63, 72, 73, 74, 75, 76, 77, 78, 79, 80, 81, 82, 83, 84, 85, 86, 87, 88, 89, 90, 91, 92, 93, 94, 95, 96, 97, 98, 99, 100, 101, 102] (by decide +kernel) (by decide +kernel)
set_option maxRecDepth 20000 in
theorem gX5_claim_X5_drafted : GoodIn wsX5_claim (wsV RX5 147 RX5 yX5_drafted wsX5_drafted) := goodIn_app (goodIn_of _ (by decide +kernel)) ggX5_claim_X5_drafted
set_option maxRecDepth 20000 in
theorem ggX5_claim_X5_posts : GoodIn wsX5_claim wsX5_posts := goodIn_r _ [67, 68, 9, 69, 61, 70, 62, 71, 63, 72, 73, 74, 75, 76, 77, 78, 79, 80, 81, 82, 83, 84, 85, 86, 87, 88, 89, 90, 91, 92, 93, 94, 95, 96, 97, 98, 99, 100, 101, 102] (by decide +kernel) (by decide +kernel)
set_option maxRecDepth 20000 in
theorem gX5_claim_X5_posts : GoodIn wsX5_claim (wsV RX5 153 RX5 yX5_posts wsX5_posts) := goodIn_app (goodIn_of _ (by decide +kernel)) ggX5_claim_X5_posts
set_option maxRecDepth 20000 in
theorem ggX5_fact_X5_isPolicy : GoodIn wsX5_fact wsX5_isPolicy := goodIn_r _ [5, 6, 59, 60, 61, 62, 63, 64, 65, 66, 67, 68, 69, 70, 71, 72, 73, 74, 75, 76, 77, 78, 79, 80, 81, 82, 83, 84, 85, 86, 87, 88, 89] (by decide +kernel) (by decide +kernel)
set_option maxRecDepth 20000 in
theorem gX5_fact_X5_isPolicy : GoodIn wsX5_fact (wsV RX5 170 RX5 yX5_isPolicy wsX5_isPolicy) := goodIn_app (goodIn_of _ (by decide +kernel)) ggX5_fact_X5_isPolicy
set_option maxRecDepth 20000 in
theorem ggX5_fact_X5_outside : GoodIn wsX5_fact wsX5_outside := goodIn_r _ [9] (by decide +kernel) (by decide +kernel)
set_option maxRecDepth 20000 in
theorem gX5_fact_X5_outside : GoodIn wsX5_fact (va_wsS RX5 71 yX5_outside wsX5_outside) := goodIn_app (goodIn_of _ (by decide +kernel)) ggX5_fact_X5_outside
set_option maxRecDepth 20000 in
theorem ggX5_fact_X5_fails : GoodIn wsX5_fact wsX5_fails := goodIn_r _ [13, 14, 59, 60, 61, 62, 63, 64, 65, 66, 67, 68, 69, 70, 71, 72, 73, 74, 75, 76, 77, 78, 79, 80, 81, 82, 83, 84, 85, 86, 87, 88, 89] (by decide +kernel) (by decide +kernel)
set_option maxRecDepth 20000 in
theorem gX5_fact_X5_fails : GoodIn wsX5_fact (wsV RX5 81 RX5 yX5_fails wsX5_fails) := goodIn_app (goodIn_of _ (by decide +kernel)) ggX5_fact_X5_fails
set_option maxRecDepth 20000 in
theorem ggX5_fact_X5_inTerm : GoodIn wsX5_fact wsX5_inTerm := goodIn_r _ [18, 19, 20, 59, 60, 61, 62, 63, 64, 65, 66, 67, 68, 69, 70, 71, 72, 73, 74, 75, 76, 77, 78, 79, 80, 81, 82, 83, 84, 85, 86, 87, 88, 89] (by decide +kernel) (by decide +kernel)
set_option maxRecDepth 20000 in
theorem gX5_fact_X5_inTerm : GoodIn wsX5_fact (wsV RX5 118 RX5 yX5_inTerm wsX5_inTerm) := goodIn_app (goodIn_of _ (by decide +kernel)) ggX5_fact_X5_inTerm
set_option maxRecDepth 20000 in
theorem ggX5_fact_X5_bound : GoodIn wsX5_fact wsX5_bound := goodIn_r _ [24, 25, 26, 27, 28, 4, 29, 30, 31, 32, 33, 34, 59, 60, 61, 62, 63, 64, 65, 66, 67, 68, 69, 70, 71, 72, 73, 74, 75, 76, 77, 78, 79, 80, 81, 82, 83, 84, 85, 86, 87, 88, 89] (by decide +kernel) (by decide +kernel)
set_option maxRecDepth 20000 in
theorem gX5_fact_X5_bound : GoodIn wsX5_fact (wsV RX5 187 RX5 yX5_bound wsX5_bound) := goodIn_app (goodIn_of _ (by decide +kernel)) ggX5_fact_X5_bound
set_option maxRecDepth 20000 in
theorem ggX5_fact_X5_charge : GoodIn wsX5_fact wsX5_charge := goodIn_r _ [38, 26, 27, 28, 4, 29, 25, 30, 31, 32, 33, 34, 39, 40, 41, 42, 43, 44, 45, 46, 47, 48, 49, 50, 51, 52, 53, 54, 55, 56, 57, 58, 59, 60, 61, 62, 63, 64, 65, 66, 67, 68, 69, 70, 71, 72, 73, 74, 75, 76, 77, 78, 79, 80, 81, 82, 83, 84, 85, 86, 87, 88, 89] (by decide +kernel) (by decide +kernel)
set_option maxRecDepth 20000 in
theorem gX5_fact_X5_charge : GoodIn wsX5_fact (wsV RX5 134 RX5 yX5_charge wsX5_charge) := goodIn_app (goodIn_of _ (by decide +kernel)) ggX5_fact_X5_charge
set_option maxRecDepth 20000 in
theorem ggX5_fact_X5_runs : GoodIn wsX5_fact wsX5_runs := goodIn_r _ [42, 25, 33, 59, 60, 61, 62, 63, 64, 65, 66, 67, 68, 69, 70, 71, 72, 73, 74, 75, 76, 77, 78, 79, 80, 81, 82, 83, 84, 85, 86, 87, 88, 89] (by decide +kernel) (by decide +kernel)
set_option maxRecDepth 20000 in
theorem gX5_fact_X5_runs : GoodIn wsX5_fact (wsV RX5 122 RX5 yX5_runs wsX5_runs) := goodIn_app (goodIn_of _ (by decide +kernel)) ggX5_fact_X5_runs
set_option maxRecDepth 20000 in
theorem ggX5_fact_X5_known : GoodIn wsX5_fact wsX5_known := goodIn_r _ [46, 25, 33, 47, 48, 59, 60, 61, 62, 63, 64, 65, 66, 67, 68, 69, 70, 71, 72, 73, 74, 75, 76, 77, 78, 79, 80, 81, 82, 83, 84, 85, 86, 87, 88, 89] (by decide +kernel) (by decide +kernel)
set_option maxRecDepth 20000 in
theorem gX5_fact_X5_known : GoodIn wsX5_fact (wsV RX5 126 RX5 yX5_known wsX5_known) := goodIn_app (goodIn_of _ (by decide +kernel)) ggX5_fact_X5_known
set_option maxRecDepth 20000 in
theorem ggX5_written_X5_isPolicy : GoodIn wsX5_written wsX5_isPolicy := goodIn_r _ [5, 6, 52, 53, 54, 55, 56, 57, 58, 59, 60, 61, 62, 63, 64, 65, 66, 67, 68, 69, 70, 71, 72, 73, 74, 75, 76, 77, 78, 79, 80, 81, 82] (by decide +kernel) (by decide +kernel)
set_option maxRecDepth 20000 in
theorem gX5_written_X5_isPolicy : GoodIn wsX5_written (wsV RX5 170 RX5 yX5_isPolicy wsX5_isPolicy) := goodIn_app (goodIn_of _ (by decide +kernel)) ggX5_written_X5_isPolicy
set_option maxRecDepth 20000 in
theorem ggX5_written_X5_fails : GoodIn wsX5_written wsX5_fails := goodIn_r _ [10, 11, 52, 53, 54, 55, 56, 57, 58, 59, 60, 61, 62, 63, 64, 65, 66, 67, 68, 69, 70, 71, 72, 73, 74, 75, 76, 77, 78, 79, 80, 81, 82] (by decide +kernel) (by decide +kernel)
set_option maxRecDepth 20000 in
theorem gX5_written_X5_fails : GoodIn wsX5_written (wsV RX5 81 RX5 yX5_fails wsX5_fails) := goodIn_app (goodIn_of _ (by decide +kernel)) ggX5_written_X5_fails
set_option maxRecDepth 20000 in
theorem ggX5_written_X5_charges : GoodIn wsX5_written wsX5_charges := goodIn_r _ [15, 16, 17, 18, 19, 20, 4, 21, 22, 23, 24, 25, 26, 27, 28, 29, 30, 31, 32, 33, 34, 35, 36, 37, 38, 39, 40, 41, 42, 43, 44, 45, 46, 47, 48, 49, 50, 51, 52, 53, 54, 55, 56, 57, 58, 59, 60, 61, 62, 63, 64, 65, 66, 67, 68, 69, 70, 71, 72, 73, 74, 75, 76, 77, 78, 79, 80, 81, 82] (by decide +kernel) (by decide +kernel)
set_option maxRecDepth 20000 in
theorem gX5_written_X5_charges : GoodIn wsX5_written (wsV RX5 144 RX5 yX5_charges wsX5_charges) := goodIn_app (goodIn_of _ (by decide +kernel)) ggX5_written_X5_charges
set_option maxRecDepth 20000 in
theorem ggX5_earned_X5_isPolicy : GoodIn wsX5_earned wsX5_isPolicy := goodIn_r _ [5, 6, 52, 53, 54, 55, 56, 57, 58, 59, 60, 61, 62, 63, 64, 65, 66, 67, 68, 69, 70, 71, 72, 73, 74, 75, 76, 77, 78, 79, 80, 81, 82] (by decide +kernel) (by decide +kernel)
set_option maxRecDepth 20000 in
theorem gX5_earned_X5_isPolicy : GoodIn wsX5_earned (wsV RX5 170 RX5 yX5_isPolicy wsX5_isPolicy) := goodIn_app (goodIn_of _ (by decide +kernel)) ggX5_earned_X5_isPolicy
set_option maxRecDepth 20000 in
theorem ggX5_earned_X5_fails : GoodIn wsX5_earned wsX5_fails := goodIn_r _ [10, 11, 52, 53, 54, 55, 56, 57, 58, 59, 60, 61, 62, 63, 64, 65, 66, 67, 68, 69, 70, 71, 72, 73, 74, 75, 76, 77, 78, 79, 80, 81, 82] (by decide +kernel) (by decide +kernel)
set_option maxRecDepth 20000 in
theorem gX5_earned_X5_fails : GoodIn wsX5_earned (wsV RX5 81 RX5 yX5_fails wsX5_fails) := goodIn_app (goodIn_of _ (by decide +kernel)) ggX5_earned_X5_fails
set_option maxRecDepth 20000 in
theorem ggX5_earned_X5_charges : GoodIn wsX5_earned wsX5_charges := goodIn_r _ [15, 16, 17, 18, 19, 20, 4, 21, 22, 23, 24, 25, 26, 27, 28, 29, 30, 31, 32, 33, 34, 35, 36, 37, 38, 39, 40, 41, 42, 43, 44, 45, 46, 47, 48, 49, 50, 51, 52, 53, 54, 55, 56, 57, 58, 59, 60, 61, 62, 63, 64, 65, 66, 67, 68, 69, 70, 71, 72, 73, 74, 75, 76, 77, 78, 79, 80, 81, 82] (by decide +kernel) (by decide +kernel)
set_option maxRecDepth 20000 in
theorem gX5_earned_X5_charges : GoodIn wsX5_earned (wsV RX5 144 RX5 yX5_charges wsX5_charges) := goodIn_app (goodIn_of _ (by decide +kernel)) ggX5_earned_X5_charges
set_option maxRecDepth 20000 in
theorem ggX5_settled_X5_outside : GoodIn wsX5_settled wsX5_outside := goodIn_r _ [6] (by decide +kernel) (by decide +kernel)
set_option maxRecDepth 20000 in
theorem gX5_settled_X5_outside : GoodIn wsX5_settled (va_wsS RX5 71 yX5_outside wsX5_outside) := goodIn_app (goodIn_of _ (by decide +kernel)) ggX5_settled_X5_outside
set_option maxRecDepth 20000 in
theorem ggX5_settled_X5_fails : GoodIn wsX5_settled wsX5_fails := goodIn_r _ [10, 11, 12, 13, 14, 15, 16, 17, 18, 19, 20, 21, 22, 23, 24, 25, 26, 27, 28, 29, 30, 31, 32, 33, 34, 35, 36, 37, 38, 39, 40, 41, 42] (by decide +kernel) (by decide +kernel)
set_option maxRecDepth 20000 in
theorem gX5_settled_X5_fails : GoodIn wsX5_settled (wsV RX5 81 RX5 yX5_fails wsX5_fails) := goodIn_app (goodIn_of _ (by decide +kernel)) ggX5_settled_X5_fails
set_option maxRecDepth 20000 in
theorem ggX5_posting_X5_outside : GoodIn wsX5_posting wsX5_outside := goodIn_r _ [8] (by decide +kernel) (by decide +kernel)
set_option maxRecDepth 20000 in
theorem gX5_posting_X5_outside : GoodIn wsX5_posting (va_wsS RX5 71 yX5_outside wsX5_outside) := goodIn_app (goodIn_of _ (by decide +kernel)) ggX5_posting_X5_outside
set_option maxRecDepth 20000 in
theorem ggX5_posting_X5_fails : GoodIn wsX5_posting wsX5_fails := goodIn_r _ [12, 13, 14, 15, 16, 17, 18, 19, 20, 21, 22, 23, 24, 25, 26, 27, 28, 29, 30, 31, 32, 33, 34, 35, 36, 37, 38, 39, 40, 41, 42, 43, 44] (by decide +kernel) (by decide +kernel)
set_option maxRecDepth 20000 in
theorem gX5_posting_X5_fails : GoodIn wsX5_posting (wsV RX5 81 RX5 yX5_fails wsX5_fails) := goodIn_app (goodIn_of _ (by decide +kernel)) ggX5_posting_X5_fails
set_option maxRecDepth 20000 in
theorem ggX5_balance_X5_outside : GoodIn wsX5_balance wsX5_outside := goodIn_r _ [8] (by decide +kernel) (by decide +kernel)
set_option maxRecDepth 20000 in
theorem gX5_balance_X5_outside : GoodIn wsX5_balance (va_wsS RX5 71 yX5_outside wsX5_outside) := goodIn_app (goodIn_of _ (by decide +kernel)) ggX5_balance_X5_outside
set_option maxRecDepth 20000 in
theorem ggX5_balance_X5_fails : GoodIn wsX5_balance wsX5_fails := goodIn_r _ [12, 13, 14, 15, 16, 17, 18, 19, 20, 21, 22, 23, 24, 25, 26, 27, 28, 29, 30, 31, 32, 33, 34, 35, 36, 37, 38, 39, 40, 41, 42, 43, 44] (by decide +kernel) (by decide +kernel)
set_option maxRecDepth 20000 in
theorem gX5_balance_X5_fails : GoodIn wsX5_balance (wsV RX5 81 RX5 yX5_fails wsX5_fails) := goodIn_app (goodIn_of _ (by decide +kernel)) ggX5_balance_X5_fails
