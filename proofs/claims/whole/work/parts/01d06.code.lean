theorem dL_undo_4 : decode cL_undo 4 = .ok (.goto 6, 3) := by decide +kernel
theorem dL_undo_7 : decode cL_undo 7 = .ok (.astore_n 1, 1) := by decide +kernel
theorem dL_undo_8 : decode cL_undo 8 = .ok (.iconst 1, 1) := by decide +kernel
theorem dL_undo_9 : decode cL_undo 9 = .ok (.ireturn, 1) := by decide +kernel
theorem dL_undo_10 : decode cL_undo 10 = .ok (.iconst 0, 1) := by decide +kernel
theorem dL_undo_11 : decode cL_undo 11 = .ok (.ireturn, 1) := by decide +kernel
set_option maxRecDepth 20000 in
theorem ggL_quota_X4_quota : GoodIn wsL_quota wsX4_quota := goodIn_ca (goodIn_ca (goodIn_r _ [7, 8, 9, 10, 11, 12, 13, 14, 15, 6, 16, 17, 18, 19, 20, 21, 22, 23, 24, 25, 26, 27, 28, 29, 30, 31, 32] (by decide +kernel) (by decide +kernel)) (goodIn_sub (fun _ h => List.mem_cons_of_mem _ (List.mem_append_left _ (List.mem_append_right _ h))) (by decide +kernel))) (goodIn_sub (fun _ h => List.mem_cons_of_mem _ (List.mem_append_right _ h)) (by decide +kernel))
set_option maxRecDepth 20000 in
theorem gL_quota_X4_quota : GoodIn wsL_quota (wsV RL 20 RX4 yX4_quota wsX4_quota) := goodIn_app (goodIn_of _ (by decide +kernel)) ggL_quota_X4_quota
theorem dL_quota_0 : decode cL_quota 0 = .ok (.aload_n 0, 1) := by decide +kernel
theorem dL_quota_1 : decode cL_quota 1 = .ok (.iload_n 1, 1) := by decide +kernel
theorem dL_quota_2 : decode cL_quota 2 = .ok (.invokevirtual 20, 3) := by decide +kernel
theorem dL_quota_5 : decode cL_quota 5 = .ok (.goto 9, 3) := by decide +kernel
theorem dL_quota_8 : decode cL_quota 8 = .ok (.astore_n 2, 1) := by decide +kernel
theorem dL_quota_9 : decode cL_quota 9 = .ok (.iconst 1, 1) := by decide +kernel
theorem dL_quota_10 : decode cL_quota 10 = .ok (.ireturn, 1) := by decide +kernel
theorem dL_quota_11 : decode cL_quota 11 = .ok (.astore_n 2, 1) := by decide +kernel
theorem dL_quota_12 : decode cL_quota 12 = .ok (.iconst 2, 1) := by decide +kernel
theorem dL_quota_13 : decode cL_quota 13 = .ok (.ireturn, 1) := by decide +kernel
theorem dL_quota_14 : decode cL_quota 14 = .ok (.iconst 0, 1) := by decide +kernel
theorem dL_quota_15 : decode cL_quota 15 = .ok (.ireturn, 1) := by decide +kernel
set_option maxRecDepth 20000 in
theorem ggL_terms_X4_terms : GoodIn wsL_terms wsX4_terms := goodIn_ca (goodIn_ca (goodIn_r _ [7, 8, 9, 10, 11, 12, 13, 14, 6, 15, 16, 17, 18, 19, 20, 21, 22, 23, 24, 25, 26, 27, 28, 29, 30, 31, 32, 33, 34, 35, 36, 37, 38, 39] (by decide +kernel) (by decide +kernel)) (goodIn_sub (fun _ h => List.mem_cons_of_mem _ (List.mem_append_left _ (List.mem_append_right _ h))) (by decide +kernel))) (goodIn_sub (fun _ h => List.mem_cons_of_mem _ (List.mem_append_right _ h)) (by decide +kernel))
set_option maxRecDepth 20000 in
theorem gL_terms_X4_terms : GoodIn wsL_terms (wsV RL 24 RX4 yX4_terms wsX4_terms) := goodIn_app (goodIn_of _ (by decide +kernel)) ggL_terms_X4_terms
theorem dL_terms_0 : decode cL_terms 0 = .ok (.aload_n 0, 1) := by decide +kernel
theorem dL_terms_1 : decode cL_terms 1 = .ok (.iload_n 1, 1) := by decide +kernel
theorem dL_terms_2 : decode cL_terms 2 = .ok (.iload_n 2, 1) := by decide +kernel
theorem dL_terms_3 : decode cL_terms 3 = .ok (.iload_n 3, 1) := by decide +kernel
theorem dL_terms_4 : decode cL_terms 4 = .ok (.invokevirtual 24, 3) := by decide +kernel
theorem dL_terms_7 : decode cL_terms 7 = .ok (.goto 11, 3) := by decide +kernel
theorem dL_terms_10 : decode cL_terms 10 = .ok (.astore 4, 2) := by decide +kernel
theorem dL_terms_12 : decode cL_terms 12 = .ok (.iconst 1, 1) := by decide +kernel
theorem dL_terms_13 : decode cL_terms 13 = .ok (.ireturn, 1) := by decide +kernel
theorem dL_terms_14 : decode cL_terms 14 = .ok (.astore 4, 2) := by decide +kernel
theorem dL_terms_16 : decode cL_terms 16 = .ok (.iconst 2, 1) := by decide +kernel
theorem dL_terms_17 : decode cL_terms 17 = .ok (.ireturn, 1) := by decide +kernel
theorem dL_terms_18 : decode cL_terms 18 = .ok (.iconst 0, 1) := by decide +kernel
theorem dL_terms_19 : decode cL_terms 19 = .ok (.ireturn, 1) := by decide +kernel
set_option maxRecDepth 20000 in
theorem ggL_layer_X4_layer : GoodIn wsL_layer wsX4_layer := goodIn_ca (goodIn_ca (goodIn_r _ [7, 8, 9, 10, 11, 12, 13, 14, 6, 15, 16, 17, 18, 19, 20, 21, 22, 23, 24, 25, 26, 27, 28, 29, 30, 31, 32, 33, 34, 35, 36, 37, 38, 39, 40] (by decide +kernel) (by decide +kernel)) (goodIn_sub (fun _ h => List.mem_cons_of_mem _ (List.mem_append_left _ (List.mem_append_right _ h))) (by decide +kernel))) (goodIn_sub (fun _ h => List.mem_cons_of_mem _ (List.mem_append_right _ h)) (by decide +kernel))
set_option maxRecDepth 20000 in
theorem gL_layer_X4_layer : GoodIn wsL_layer (wsV RL 28 RX4 yX4_layer wsX4_layer) := goodIn_app (goodIn_of _ (by decide +kernel)) ggL_layer_X4_layer
theorem dL_layer_0 : decode cL_layer 0 = .ok (.aload_n 0, 1) := by decide +kernel
theorem dL_layer_1 : decode cL_layer 1 = .ok (.iload_n 1, 1) := by decide +kernel
theorem dL_layer_2 : decode cL_layer 2 = .ok (.iload_n 2, 1) := by decide +kernel
theorem dL_layer_3 : decode cL_layer 3 = .ok (.iload_n 3, 1) := by decide +kernel
theorem dL_layer_4 : decode cL_layer 4 = .ok (.iload 4, 2) := by decide +kernel
theorem dL_layer_6 : decode cL_layer 6 = .ok (.invokevirtual 28, 3) := by decide +kernel
theorem dL_layer_9 : decode cL_layer 9 = .ok (.goto 11, 3) := by decide +kernel
theorem dL_layer_12 : decode cL_layer 12 = .ok (.astore 5, 2) := by decide +kernel
theorem dL_layer_14 : decode cL_layer 14 = .ok (.iconst 1, 1) := by decide +kernel
theorem dL_layer_15 : decode cL_layer 15 = .ok (.ireturn, 1) := by decide +kernel
theorem dL_layer_16 : decode cL_layer 16 = .ok (.astore 5, 2) := by decide +kernel
theorem dL_layer_18 : decode cL_layer 18 = .ok (.iconst 2, 1) := by decide +kernel
theorem dL_layer_19 : decode cL_layer 19 = .ok (.ireturn, 1) := by decide +kernel
theorem dL_layer_20 : decode cL_layer 20 = .ok (.iconst 0, 1) := by decide +kernel
theorem dL_layer_21 : decode cL_layer 21 = .ok (.ireturn, 1) := by decide +kernel
set_option maxRecDepth 20000 in
theorem ggL_bind_X4_bind : GoodIn wsL_bind wsX4_bind := goodIn_ca (goodIn_ca (goodIn_ca (goodIn_r _ [8, 9, 10, 11, 12, 13, 14, 15, 16, 7, 17, 18, 19, 20, 21, 22, 23, 24, 25, 26, 27, 28, 29, 30, 31, 32, 33, 34, 35, 36, 37, 38, 39, 40, 41, 42, 43, 44, 45, 46, 47, 48, 49, 50, 51, 52, 53, 54, 55, 56, 57, 58, 59, 60, 61, 62, 63, 64, 65, 66, 67, 68, 69, 70, 71, 72, 73, 74, 75, 76, 77, 78, 79, 80, 81, 82, 83, 84, 85, 86, 87, 88, 89, 90, 91, 92, 93, 94, 95, 96, 97, 98, 99, 100, 101, 102, 103, 104, 105, 106, 107, 108, 109, 110, 111, 112, 113, 114, 115, 116, 117, 118, 119, 120, 121, 122, 123, 124, 125, 126, 127, 128, 129, 130, 131, 132, 133, 134, 135, 136, 137, 138, 139, 140, 141, 142, 143, 144, 145, 146, 147, 148, 149, 150, 151, 152, 153, 154, 155, 156, 157, 158, 159, 160] (by decide +kernel) (by decide +kernel)) (goodIn_sub (fun _ h => List.mem_cons_of_mem _ (List.mem_append_left _ (List.mem_append_left _ (List.mem_append_right _ h)))) (by decide +kernel))) (goodIn_sub (fun _ h => List.mem_cons_of_mem _ (List.mem_append_left _ (List.mem_append_right _ h))) (by decide +kernel))) (goodIn_sub (fun _ h => List.mem_cons_of_mem _ (List.mem_append_right _ h)) (by decide +kernel))
set_option maxRecDepth 20000 in
theorem gL_bind_X4_bind : GoodIn wsL_bind (wsV RL 32 RX4 yX4_bind wsX4_bind) := goodIn_app (goodIn_of _ (by decide +kernel)) ggL_bind_X4_bind
theorem dL_bind_0 : decode cL_bind 0 = .ok (.aload 6, 2) := by decide +kernel
theorem dL_bind_2 : decode cL_bind 2 = .ok (.iconst 0, 1) := by decide +kernel
theorem dL_bind_3 : decode cL_bind 3 = .ok (.aload_n 0, 1) := by decide +kernel
theorem dL_bind_4 : decode cL_bind 4 = .ok (.iload_n 1, 1) := by decide +kernel
theorem dL_bind_5 : decode cL_bind 5 = .ok (.iload_n 2, 1) := by decide +kernel
theorem dL_bind_6 : decode cL_bind 6 = .ok (.iload_n 3, 1) := by decide +kernel
theorem dL_bind_7 : decode cL_bind 7 = .ok (.iload 4, 2) := by decide +kernel
theorem dL_bind_9 : decode cL_bind 9 = .ok (.iload 5, 2) := by decide +kernel
theorem dL_bind_11 : decode cL_bind 11 = .ok (.invokevirtual 32, 3) := by decide +kernel
theorem dL_bind_14 : decode cL_bind 14 = .ok (.i2l, 1) := by decide +kernel
theorem dL_bind_15 : decode cL_bind 15 = .ok (.lastore, 1) := by decide +kernel
theorem dL_bind_16 : decode cL_bind 16 = .ok (.goto 15, 3) := by decide +kernel
theorem dL_bind_19 : decode cL_bind 19 = .ok (.astore 7, 2) := by decide +kernel
theorem dL_bind_21 : decode cL_bind 21 = .ok (.iconst 1, 1) := by decide +kernel
theorem dL_bind_22 : decode cL_bind 22 = .ok (.ireturn, 1) := by decide +kernel
theorem dL_bind_23 : decode cL_bind 23 = .ok (.astore 7, 2) := by decide +kernel
theorem dL_bind_25 : decode cL_bind 25 = .ok (.iconst 2, 1) := by decide +kernel
theorem dL_bind_26 : decode cL_bind 26 = .ok (.ireturn, 1) := by decide +kernel
theorem dL_bind_27 : decode cL_bind 27 = .ok (.astore 7, 2) := by decide +kernel
theorem dL_bind_29 : decode cL_bind 29 = .ok (.iconst 3, 1) := by decide +kernel
theorem dL_bind_30 : decode cL_bind 30 = .ok (.ireturn, 1) := by decide +kernel
theorem dL_bind_31 : decode cL_bind 31 = .ok (.iconst 0, 1) := by decide +kernel
theorem dL_bind_32 : decode cL_bind 32 = .ok (.ireturn, 1) := by decide +kernel
set_option maxRecDepth 20000 in
theorem ggL_change_X4_change : GoodIn wsL_change wsX4_change := goodIn_ca (goodIn_ca (goodIn_ca (goodIn_ca (goodIn_r _ [9, 10, 11, 12, 13, 14, 15, 16, 17, 18, 19, 8, 20, 21, 22, 23, 24, 25, 26, 27, 28, 29, 30, 31, 32, 33, 34, 35, 36, 37, 38, 39, 40, 41, 42, 43, 44, 45, 46, 47, 48, 49, 50, 51, 52, 53, 54, 55, 56, 57, 58, 59, 60, 61, 62, 63, 64, 65, 66, 67, 68, 69, 70, 71, 72, 73, 74, 75, 76, 77, 78, 79, 80, 81, 82, 83, 84, 85, 86, 87, 88, 89, 90, 91, 92, 93, 94, 95, 96, 97, 98, 99, 100, 101, 102, 103, 104, 105, 106, 107, 108, 109, 110, 111, 112, 113, 114, 115, 116, 117, 118, 119, 120, 121, 122, 123, 124, 125, 126, 127, 128, 129, 130, 131, 132, 133, 134, 135, 136, 137, 138, 139, 140, 141, 142, 143, 144, 145, 146, 147, 148, 149, 150, 151, 152, 153, 154] (by decide +kernel) (by decide +kernel)) (goodIn_sub (fun _ h => List.mem_cons_of_mem _ (List.mem_append_left _ (List.mem_append_left _ (List.mem_append_left _ (List.mem_append_right _ h))))) (by decide +kernel))) (goodIn_sub (fun _ h => List.mem_cons_of_mem _ (List.mem_append_left _ (List.mem_append_left _ (List.mem_append_right _ h)))) (by decide +kernel))) (goodIn_sub (fun _ h => List.mem_cons_of_mem _ (List.mem_append_left _ (List.mem_append_right _ h))) (by decide +kernel))) (goodIn_sub (fun _ h => List.mem_cons_of_mem _ (List.mem_append_right _ h)) (by decide +kernel))
set_option maxRecDepth 20000 in
theorem gL_change_X4_change : GoodIn wsL_change (wsV RL 37 RX4 yX4_change wsX4_change) := goodIn_app (goodIn_of _ (by decide +kernel)) ggL_change_X4_change
theorem dL_change_0 : decode cL_change 0 = .ok (.aload 5, 2) := by decide +kernel
theorem dL_change_2 : decode cL_change 2 = .ok (.iconst 0, 1) := by decide +kernel
theorem dL_change_3 : decode cL_change 3 = .ok (.aload_n 0, 1) := by decide +kernel
theorem dL_change_4 : decode cL_change 4 = .ok (.iload_n 1, 1) := by decide +kernel
theorem dL_change_5 : decode cL_change 5 = .ok (.iload_n 2, 1) := by decide +kernel
theorem dL_change_6 : decode cL_change 6 = .ok (.iload_n 3, 1) := by decide +kernel
theorem dL_change_7 : decode cL_change 7 = .ok (.iload 4, 2) := by decide +kernel
theorem dL_change_9 : decode cL_change 9 = .ok (.invokevirtual 37, 3) := by decide +kernel
theorem dL_change_12 : decode cL_change 12 = .ok (.i2l, 1) := by decide +kernel
theorem dL_change_13 : decode cL_change 13 = .ok (.lastore, 1) := by decide +kernel
theorem dL_change_14 : decode cL_change 14 = .ok (.goto 19, 3) := by decide +kernel
theorem dL_change_17 : decode cL_change 17 = .ok (.astore 6, 2) := by decide +kernel
theorem dL_change_19 : decode cL_change 19 = .ok (.iconst 1, 1) := by decide +kernel
theorem dL_change_20 : decode cL_change 20 = .ok (.ireturn, 1) := by decide +kernel
theorem dL_change_21 : decode cL_change 21 = .ok (.astore 6, 2) := by decide +kernel
theorem dL_change_23 : decode cL_change 23 = .ok (.iconst 2, 1) := by decide +kernel
theorem dL_change_24 : decode cL_change 24 = .ok (.ireturn, 1) := by decide +kernel
theorem dL_change_25 : decode cL_change 25 = .ok (.astore 6, 2) := by decide +kernel
theorem dL_change_27 : decode cL_change 27 = .ok (.iconst 3, 1) := by decide +kernel
theorem dL_change_28 : decode cL_change 28 = .ok (.ireturn, 1) := by decide +kernel
theorem dL_change_29 : decode cL_change 29 = .ok (.astore 6, 2) := by decide +kernel
theorem dL_change_31 : decode cL_change 31 = .ok (.iconst 4, 1) := by decide +kernel
theorem dL_change_32 : decode cL_change 32 = .ok (.ireturn, 1) := by decide +kernel
theorem dL_change_33 : decode cL_change 33 = .ok (.iconst 0, 1) := by decide +kernel
theorem dL_change_34 : decode cL_change 34 = .ok (.ireturn, 1) := by decide +kernel
set_option maxRecDepth 20000 in
theorem ggL_cancel_X4_cancel : GoodIn wsL_cancel wsX4_cancel := goodIn_ca (goodIn_ca (goodIn_ca (goodIn_ca (goodIn_r _ [9, 10, 11, 12, 13, 14, 15, 16, 17, 18, 19, 8, 20, 21, 22, 23, 24, 25, 26, 27, 28, 29, 30, 31, 32, 33, 34, 35, 36, 37, 38, 39, 40, 41, 42, 43, 44, 45, 46, 47, 48, 49, 50, 51, 52, 53, 54, 55, 56, 57, 58, 59, 60, 61, 62, 63, 64, 65, 66, 67, 68, 69, 70, 71, 72, 73, 74, 75, 76, 77, 78, 79, 80, 81, 82, 83, 84, 85, 86, 87, 88, 89, 90, 91, 92, 93, 94, 95, 96, 97, 98, 99, 100, 101, 102, 103, 104, 105, 106, 107, 108, 109, 110, 111, 112, 113, 114, 115, 116, 117, 118, 119, 120, 121, 122, 123, 124, 125, 126, 127, 128, 129, 130, 131, 132, 133, 134, 135, 136, 137, 138, 139, 140, 141, 142, 143, 144, 145, 146, 147, 148, 149, 150] (by decide +kernel) (by decide +kernel)) (goodIn_sub (fun _ h => List.mem_cons_of_mem _ (List.mem_append_left _ (List.mem_append_left _ (List.mem_append_left _ (List.mem_append_right _ h))))) (by decide +kernel))) (goodIn_sub (fun _ h => List.mem_cons_of_mem _ (List.mem_append_left _ (List.mem_append_left _ (List.mem_append_right _ h)))) (by decide +kernel))) (goodIn_sub (fun _ h => List.mem_cons_of_mem _ (List.mem_append_left _ (List.mem_append_right _ h))) (by decide +kernel))) (goodIn_sub (fun _ h => List.mem_cons_of_mem _ (List.mem_append_right _ h)) (by decide +kernel))
set_option maxRecDepth 20000 in
theorem gL_cancel_X4_cancel : GoodIn wsL_cancel (wsV RL 43 RX4 yX4_cancel wsX4_cancel) := goodIn_app (goodIn_of _ (by decide +kernel)) ggL_cancel_X4_cancel
theorem dL_cancel_0 : decode cL_cancel 0 = .ok (.aload 4, 2) := by decide +kernel
theorem dL_cancel_2 : decode cL_cancel 2 = .ok (.iconst 0, 1) := by decide +kernel
theorem dL_cancel_3 : decode cL_cancel 3 = .ok (.aload_n 0, 1) := by decide +kernel
theorem dL_cancel_4 : decode cL_cancel 4 = .ok (.iload_n 1, 1) := by decide +kernel
theorem dL_cancel_5 : decode cL_cancel 5 = .ok (.iload_n 2, 1) := by decide +kernel
theorem dL_cancel_6 : decode cL_cancel 6 = .ok (.iload_n 3, 1) := by decide +kernel
theorem dL_cancel_7 : decode cL_cancel 7 = .ok (.invokevirtual 43, 3) := by decide +kernel
theorem dL_cancel_10 : decode cL_cancel 10 = .ok (.i2l, 1) := by decide +kernel
theorem dL_cancel_11 : decode cL_cancel 11 = .ok (.lastore, 1) := by decide +kernel
theorem dL_cancel_12 : decode cL_cancel 12 = .ok (.goto 19, 3) := by decide +kernel
theorem dL_cancel_15 : decode cL_cancel 15 = .ok (.astore 5, 2) := by decide +kernel
theorem dL_cancel_17 : decode cL_cancel 17 = .ok (.iconst 1, 1) := by decide +kernel
theorem dL_cancel_18 : decode cL_cancel 18 = .ok (.ireturn, 1) := by decide +kernel
theorem dL_cancel_19 : decode cL_cancel 19 = .ok (.astore 5, 2) := by decide +kernel
theorem dL_cancel_21 : decode cL_cancel 21 = .ok (.iconst 2, 1) := by decide +kernel
theorem dL_cancel_22 : decode cL_cancel 22 = .ok (.ireturn, 1) := by decide +kernel
theorem dL_cancel_23 : decode cL_cancel 23 = .ok (.astore 5, 2) := by decide +kernel
theorem dL_cancel_25 : decode cL_cancel 25 = .ok (.iconst 3, 1) := by decide +kernel
theorem dL_cancel_26 : decode cL_cancel 26 = .ok (.ireturn, 1) := by decide +kernel
theorem dL_cancel_27 : decode cL_cancel 27 = .ok (.astore 5, 2) := by decide +kernel
theorem dL_cancel_29 : decode cL_cancel 29 = .ok (.iconst 4, 1) := by decide +kernel
theorem dL_cancel_30 : decode cL_cancel 30 = .ok (.ireturn, 1) := by decide +kernel
theorem dL_cancel_31 : decode cL_cancel 31 = .ok (.iconst 0, 1) := by decide +kernel
theorem dL_cancel_32 : decode cL_cancel 32 = .ok (.ireturn, 1) := by decide +kernel
set_option maxRecDepth 20000 in
theorem ggL_reinstate_X4_reinstate : GoodIn wsL_reinstate wsX4_reinstate := goodIn_ca (goodIn_ca (goodIn_ca (goodIn_ca (goodIn_r _ [9, 10, 11, 12, 13, 14, 15, 16, 17, 18, 19, 8, 20, 21, 22, 23, 24, 25, 26, 27, 28, 29, 30, 31, 32, 33, 34, 35, 36, 37, 38, 39, 40, 41, 42, 43, 44, 45, 46, 47, 48, 49, 50, 51, 52, 53, 54, 55, 56, 57, 58, 59, 60, 61, 62, 63, 64, 65, 66, 67, 68, 69, 70, 71, 72, 73, 74, 75, 76, 77, 78, 79, 80, 81, 82, 83, 84, 85, 86, 87, 88, 89, 90, 91, 92, 93, 94, 95, 96, 97, 98, 99, 100, 101, 102, 103, 104, 105, 106, 107, 108, 109, 110, 111, 112, 113, 114, 115, 116, 117, 118, 119, 120, 121, 122, 123, 124, 125, 126, 127, 128, 129, 130, 131, 132, 133, 134, 135, 136, 137, 138, 139, 140, 141, 142, 143, 144, 145, 146, 147, 148, 149, 150] (by decide +kernel) (by decide +kernel)) (goodIn_sub (fun _ h => List.mem_cons_of_mem _ (List.mem_append_left _ (List.mem_append_left _ (List.mem_append_left _ (List.mem_append_right _ h))))) (by decide +kernel))) (goodIn_sub (fun _ h => List.mem_cons_of_mem _ (List.mem_append_left _ (List.mem_append_left _ (List.mem_append_right _ h)))) (by decide +kernel))) (goodIn_sub (fun _ h => List.mem_cons_of_mem _ (List.mem_append_left _ (List.mem_append_right _ h))) (by decide +kernel))) (goodIn_sub (fun _ h => List.mem_cons_of_mem _ (List.mem_append_right _ h)) (by decide +kernel))
set_option maxRecDepth 20000 in
theorem gL_reinstate_X4_reinstate : GoodIn wsL_reinstate (wsV RL 47 RX4 yX4_reinstate wsX4_reinstate) := goodIn_app (goodIn_of _ (by decide +kernel)) ggL_reinstate_X4_reinstate
theorem dL_reinstate_0 : decode cL_reinstate 0 = .ok (.aload_n 3, 1) := by decide +kernel
theorem dL_reinstate_1 : decode cL_reinstate 1 = .ok (.iconst 0, 1) := by decide +kernel
theorem dL_reinstate_2 : decode cL_reinstate 2 = .ok (.aload_n 0, 1) := by decide +kernel
theorem dL_reinstate_3 : decode cL_reinstate 3 = .ok (.iload_n 1, 1) := by decide +kernel
theorem dL_reinstate_4 : decode cL_reinstate 4 = .ok (.iload_n 2, 1) := by decide +kernel
theorem dL_reinstate_5 : decode cL_reinstate 5 = .ok (.invokevirtual 47, 3) := by decide +kernel
theorem dL_reinstate_8 : decode cL_reinstate 8 = .ok (.i2l, 1) := by decide +kernel
theorem dL_reinstate_9 : decode cL_reinstate 9 = .ok (.lastore, 1) := by decide +kernel
theorem dL_reinstate_10 : decode cL_reinstate 10 = .ok (.goto 19, 3) := by decide +kernel
theorem dL_reinstate_13 : decode cL_reinstate 13 = .ok (.astore 4, 2) := by decide +kernel
theorem dL_reinstate_15 : decode cL_reinstate 15 = .ok (.iconst 1, 1) := by decide +kernel
theorem dL_reinstate_16 : decode cL_reinstate 16 = .ok (.ireturn, 1) := by decide +kernel
theorem dL_reinstate_17 : decode cL_reinstate 17 = .ok (.astore 4, 2) := by decide +kernel
theorem dL_reinstate_19 : decode cL_reinstate 19 = .ok (.iconst 2, 1) := by decide +kernel
theorem dL_reinstate_20 : decode cL_reinstate 20 = .ok (.ireturn, 1) := by decide +kernel
theorem dL_reinstate_21 : decode cL_reinstate 21 = .ok (.astore 4, 2) := by decide +kernel
theorem dL_reinstate_23 : decode cL_reinstate 23 = .ok (.iconst 3, 1) := by decide +kernel
theorem dL_reinstate_24 : decode cL_reinstate 24 = .ok (.ireturn, 1) := by decide +kernel
theorem dL_reinstate_25 : decode cL_reinstate 25 = .ok (.astore 4, 2) := by decide +kernel
theorem dL_reinstate_27 : decode cL_reinstate 27 = .ok (.iconst 4, 1) := by decide +kernel
theorem dL_reinstate_28 : decode cL_reinstate 28 = .ok (.ireturn, 1) := by decide +kernel
theorem dL_reinstate_29 : decode cL_reinstate 29 = .ok (.iconst 0, 1) := by decide +kernel
theorem dL_reinstate_30 : decode cL_reinstate 30 = .ok (.ireturn, 1) := by decide +kernel
set_option maxRecDepth 20000 in
theorem ggL_claim_X4_claim : GoodIn wsL_claim wsX4_claim := goodIn_ca (goodIn_ca (goodIn_ca (goodIn_ca (goodIn_r _ [9, 10, 11, 12, 13, 14, 15, 16, 17, 18, 19, 20, 21, 8, 22, 23, 24, 25, 26, 27, 28, 29, 30, 31, 32, 33, 34, 35, 36, 37, 38, 39, 40, 41, 42, 43, 44, 45, 46, 47, 48, 49, 50, 51, 52, 53, 54, 55, 56, 57, 58, 59, 60, 61, 62, 63, 64, 65, 66, 67, 68, 69, 70, 71, 72, 73, 74, 75, 76, 77, 78, 79, 80, 81, 82, 83, 84, 85, 86, 87, 88, 89, 90, 91, 92, 93, 94, 95, 96, 97, 98, 99, 100, 101, 102, 103, 104, 105, 106, 107, 108, 109, 110, 111, 112, 113, 114, 115, 116, 117, 118, 119, 120, 121, 122, 123, 124, 125, 126, 127, 128, 129, 130, 131, 132, 133, 134, 135, 136, 137, 138, 139, 140, 141, 142, 143, 144, 145] (by decide +kernel) (by decide +kernel)) (goodIn_sub (fun _ h => List.mem_cons_of_mem _ (List.mem_append_left _ (List.mem_append_left _ (List.mem_append_left _ (List.mem_append_right _ h))))) (by decide +kernel))) (goodIn_sub (fun _ h => List.mem_cons_of_mem _ (List.mem_append_left _ (List.mem_append_left _ (List.mem_append_right _ h)))) (by decide +kernel))) (goodIn_sub (fun _ h => List.mem_cons_of_mem _ (List.mem_append_left _ (List.mem_append_right _ h))) (by decide +kernel))) (goodIn_sub (fun _ h => List.mem_cons_of_mem _ (List.mem_append_right _ h)) (by decide +kernel))
set_option maxRecDepth 20000 in
theorem gL_claim_X4_claim : GoodIn wsL_claim (wsV RL 51 RX4 yX4_claim wsX4_claim) := goodIn_app (goodIn_of _ (by decide +kernel)) ggL_claim_X4_claim
theorem dL_claim_0 : decode cL_claim 0 = .ok (.aload 4, 2) := by decide +kernel
theorem dL_claim_2 : decode cL_claim 2 = .ok (.iconst 0, 1) := by decide +kernel
theorem dL_claim_3 : decode cL_claim 3 = .ok (.aload_n 0, 1) := by decide +kernel
theorem dL_claim_4 : decode cL_claim 4 = .ok (.iload_n 1, 1) := by decide +kernel
theorem dL_claim_5 : decode cL_claim 5 = .ok (.iload_n 2, 1) := by decide +kernel
theorem dL_claim_6 : decode cL_claim 6 = .ok (.iload_n 3, 1) := by decide +kernel
theorem dL_claim_7 : decode cL_claim 7 = .ok (.invokevirtual 51, 3) := by decide +kernel
theorem dL_claim_10 : decode cL_claim 10 = .ok (.i2l, 1) := by decide +kernel
theorem dL_claim_11 : decode cL_claim 11 = .ok (.lastore, 1) := by decide +kernel
theorem dL_claim_12 : decode cL_claim 12 = .ok (.goto 19, 3) := by decide +kernel
theorem dL_claim_15 : decode cL_claim 15 = .ok (.astore 5, 2) := by decide +kernel
theorem dL_claim_17 : decode cL_claim 17 = .ok (.iconst 1, 1) := by decide +kernel
theorem dL_claim_18 : decode cL_claim 18 = .ok (.ireturn, 1) := by decide +kernel
theorem dL_claim_19 : decode cL_claim 19 = .ok (.astore 5, 2) := by decide +kernel
theorem dL_claim_21 : decode cL_claim 21 = .ok (.iconst 2, 1) := by decide +kernel
theorem dL_claim_22 : decode cL_claim 22 = .ok (.ireturn, 1) := by decide +kernel
theorem dL_claim_23 : decode cL_claim 23 = .ok (.astore 5, 2) := by decide +kernel
theorem dL_claim_25 : decode cL_claim 25 = .ok (.iconst 3, 1) := by decide +kernel
theorem dL_claim_26 : decode cL_claim 26 = .ok (.ireturn, 1) := by decide +kernel
theorem dL_claim_27 : decode cL_claim 27 = .ok (.astore 5, 2) := by decide +kernel
theorem dL_claim_29 : decode cL_claim 29 = .ok (.iconst 4, 1) := by decide +kernel
theorem dL_claim_30 : decode cL_claim 30 = .ok (.ireturn, 1) := by decide +kernel
theorem dL_claim_31 : decode cL_claim 31 = .ok (.iconst 0, 1) := by decide +kernel
theorem dL_claim_32 : decode cL_claim 32 = .ok (.ireturn, 1) := by decide +kernel
set_option maxRecDepth 20000 in
theorem ggL_fact_X4_fact : GoodIn wsL_fact wsX4_fact := goodIn_ca (goodIn_r _ [6, 7, 8, 9, 10, 11, 12, 5, 13, 14, 15, 16, 17, 18, 19, 20, 21, 22, 23, 24, 25, 26, 27, 28, 29, 30, 31, 32, 33, 34, 35, 36, 37, 38, 39, 40, 41, 42, 43, 44, 45, 46, 47, 48, 49, 50, 51, 52, 53, 54, 55, 56, 57, 58, 59, 60, 61, 62, 63, 64, 65, 66, 67, 68, 69, 70, 71, 72, 73, 74, 75, 76, 77, 78, 79, 80, 81, 82, 83, 84, 85, 86, 87, 88, 89] (by decide +kernel) (by decide +kernel)) (goodIn_sub (fun _ h => List.mem_cons_of_mem _ (List.mem_append_right _ h)) (by decide +kernel))
set_option maxRecDepth 20000 in
theorem gL_fact_X4_fact : GoodIn wsL_fact (wsV RL 55 RX4 yX4_fact wsX4_fact) := goodIn_app (goodIn_of _ (by decide +kernel)) ggL_fact_X4_fact
theorem dL_fact_0 : decode cL_fact 0 = .ok (.aload 5, 2) := by decide +kernel
theorem dL_fact_2 : decode cL_fact 2 = .ok (.iconst 0, 1) := by decide +kernel
theorem dL_fact_3 : decode cL_fact 3 = .ok (.aload_n 0, 1) := by decide +kernel
theorem dL_fact_4 : decode cL_fact 4 = .ok (.iload_n 1, 1) := by decide +kernel
theorem dL_fact_5 : decode cL_fact 5 = .ok (.iload_n 2, 1) := by decide +kernel
theorem dL_fact_6 : decode cL_fact 6 = .ok (.iload_n 3, 1) := by decide +kernel
theorem dL_fact_7 : decode cL_fact 7 = .ok (.iload 4, 2) := by decide +kernel
theorem dL_fact_9 : decode cL_fact 9 = .ok (.invokevirtual 55, 3) := by decide +kernel
theorem dL_fact_12 : decode cL_fact 12 = .ok (.i2l, 1) := by decide +kernel
theorem dL_fact_13 : decode cL_fact 13 = .ok (.lastore, 1) := by decide +kernel
theorem dL_fact_14 : decode cL_fact 14 = .ok (.goto 7, 3) := by decide +kernel
theorem dL_fact_17 : decode cL_fact 17 = .ok (.astore 6, 2) := by decide +kernel
theorem dL_fact_19 : decode cL_fact 19 = .ok (.iconst 1, 1) := by decide +kernel
theorem dL_fact_20 : decode cL_fact 20 = .ok (.ireturn, 1) := by decide +kernel
theorem dL_fact_21 : decode cL_fact 21 = .ok (.iconst 0, 1) := by decide +kernel
theorem dL_fact_22 : decode cL_fact 22 = .ok (.ireturn, 1) := by decide +kernel
set_option maxRecDepth 20000 in
theorem ggL_written_X4_written : GoodIn wsL_written wsX4_written := goodIn_ca (goodIn_r _ [6, 7, 8, 9, 10, 11, 12, 5, 13, 14, 15, 16, 17, 18, 19, 20, 21, 22, 23, 24, 25, 26, 27, 28, 29, 30, 31, 32, 33, 34, 35, 36, 37, 38, 39, 40, 41, 42, 43, 44, 45, 46, 47, 48, 49, 50, 51, 52, 53, 54, 55, 56, 57, 58, 59, 60, 61, 62, 63, 64, 65, 66, 67, 68, 69, 70, 71, 72, 73, 74, 75, 76, 77, 78, 79, 80, 81, 82, 83, 84, 85, 86, 87, 88, 89, 90, 91, 92, 93, 94] (by decide +kernel) (by decide +kernel)) (goodIn_sub (fun _ h => List.mem_cons_of_mem _ (List.mem_append_right _ h)) (by decide +kernel))
set_option maxRecDepth 20000 in
theorem gL_written_X4_written : GoodIn wsL_written (wsV RL 58 RX4 yX4_written wsX4_written) := goodIn_app (goodIn_of _ (by decide +kernel)) ggL_written_X4_written
theorem dL_written_0 : decode cL_written 0 = .ok (.aload_n 3, 1) := by decide +kernel
theorem dL_written_1 : decode cL_written 1 = .ok (.iconst 0, 1) := by decide +kernel
theorem dL_written_2 : decode cL_written 2 = .ok (.aload_n 0, 1) := by decide +kernel
theorem dL_written_3 : decode cL_written 3 = .ok (.iload_n 1, 1) := by decide +kernel
theorem dL_written_4 : decode cL_written 4 = .ok (.iload_n 2, 1) := by decide +kernel
theorem dL_written_5 : decode cL_written 5 = .ok (.invokevirtual 58, 3) := by decide +kernel
theorem dL_written_8 : decode cL_written 8 = .ok (.i2l, 1) := by decide +kernel
theorem dL_written_9 : decode cL_written 9 = .ok (.lastore, 1) := by decide +kernel
theorem dL_written_10 : decode cL_written 10 = .ok (.goto 7, 3) := by decide +kernel
theorem dL_written_13 : decode cL_written 13 = .ok (.astore 4, 2) := by decide +kernel
theorem dL_written_15 : decode cL_written 15 = .ok (.iconst 1, 1) := by decide +kernel
theorem dL_written_16 : decode cL_written 16 = .ok (.ireturn, 1) := by decide +kernel
theorem dL_written_17 : decode cL_written 17 = .ok (.iconst 0, 1) := by decide +kernel
theorem dL_written_18 : decode cL_written 18 = .ok (.ireturn, 1) := by decide +kernel
set_option maxRecDepth 20000 in
theorem ggL_earned_X4_earned : GoodIn wsL_earned wsX4_earned := goodIn_ca (goodIn_r _ [6, 7, 8, 9, 10, 11, 12, 5, 13, 14, 15, 16, 17, 18, 19, 20, 21, 22, 23, 24, 25, 26, 27, 28, 29, 30, 31, 32, 33, 34, 35, 36, 37, 38, 39, 40, 41, 42, 43, 44, 45, 46, 47, 48, 49, 50, 51, 52, 53, 54, 55, 56, 57, 58, 59, 60, 61, 62, 63, 64, 65, 66, 67, 68, 69, 70, 71, 72, 73, 74, 75, 76, 77, 78, 79, 80, 81, 82, 83, 84, 85, 86, 87, 88, 89, 90, 91, 92, 93, 94] (by decide +kernel) (by decide +kernel)) (goodIn_sub (fun _ h => List.mem_cons_of_mem _ (List.mem_append_right _ h)) (by decide +kernel))
set_option maxRecDepth 20000 in
theorem gL_earned_X4_earned : GoodIn wsL_earned (wsV RL 61 RX4 yX4_earned wsX4_earned) := goodIn_app (goodIn_of _ (by decide +kernel)) ggL_earned_X4_earned
theorem dL_earned_0 : decode cL_earned 0 = .ok (.aload 4, 2) := by decide +kernel
theorem dL_earned_2 : decode cL_earned 2 = .ok (.iconst 0, 1) := by decide +kernel
theorem dL_earned_3 : decode cL_earned 3 = .ok (.aload_n 0, 1) := by decide +kernel
theorem dL_earned_4 : decode cL_earned 4 = .ok (.iload_n 1, 1) := by decide +kernel
theorem dL_earned_5 : decode cL_earned 5 = .ok (.iload_n 2, 1) := by decide +kernel
theorem dL_earned_6 : decode cL_earned 6 = .ok (.iload_n 3, 1) := by decide +kernel
theorem dL_earned_7 : decode cL_earned 7 = .ok (.invokevirtual 61, 3) := by decide +kernel
theorem dL_earned_10 : decode cL_earned 10 = .ok (.i2l, 1) := by decide +kernel
theorem dL_earned_11 : decode cL_earned 11 = .ok (.lastore, 1) := by decide +kernel
theorem dL_earned_12 : decode cL_earned 12 = .ok (.goto 7, 3) := by decide +kernel
theorem dL_earned_15 : decode cL_earned 15 = .ok (.astore 5, 2) := by decide +kernel
theorem dL_earned_17 : decode cL_earned 17 = .ok (.iconst 1, 1) := by decide +kernel
theorem dL_earned_18 : decode cL_earned 18 = .ok (.ireturn, 1) := by decide +kernel
theorem dL_earned_19 : decode cL_earned 19 = .ok (.iconst 0, 1) := by decide +kernel
theorem dL_earned_20 : decode cL_earned 20 = .ok (.ireturn, 1) := by decide +kernel
set_option maxRecDepth 20000 in
theorem ggL_settled_X4_settled : GoodIn wsL_settled wsX4_settled := goodIn_ca (goodIn_r _ [6, 7, 8, 9, 10, 11, 5, 12, 13, 14, 15, 16, 17, 18, 19, 20, 21, 22, 23, 24, 25, 26, 27, 28, 29] (by decide +kernel) (by decide +kernel)) (goodIn_sub (fun _ h => List.mem_cons_of_mem _ (List.mem_append_right _ h)) (by decide +kernel))
set_option maxRecDepth 20000 in
theorem gL_settled_X4_settled : GoodIn wsL_settled (wsV RL 64 RX4 yX4_settled wsX4_settled) := goodIn_app (goodIn_of _ (by decide +kernel)) ggL_settled_X4_settled
theorem dL_settled_0 : decode cL_settled 0 = .ok (.aload_n 3, 1) := by decide +kernel
theorem dL_settled_1 : decode cL_settled 1 = .ok (.iconst 0, 1) := by decide +kernel
theorem dL_settled_2 : decode cL_settled 2 = .ok (.aload_n 0, 1) := by decide +kernel
theorem dL_settled_3 : decode cL_settled 3 = .ok (.iload_n 1, 1) := by decide +kernel
theorem dL_settled_4 : decode cL_settled 4 = .ok (.iload_n 2, 1) := by decide +kernel
theorem dL_settled_5 : decode cL_settled 5 = .ok (.invokevirtual 64, 3) := by decide +kernel
theorem dL_settled_8 : decode cL_settled 8 = .ok (.i2l, 1) := by decide +kernel
theorem dL_settled_9 : decode cL_settled 9 = .ok (.lastore, 1) := by decide +kernel
theorem dL_settled_10 : decode cL_settled 10 = .ok (.goto 7, 3) := by decide +kernel
theorem dL_settled_13 : decode cL_settled 13 = .ok (.astore 4, 2) := by decide +kernel
theorem dL_settled_15 : decode cL_settled 15 = .ok (.iconst 1, 1) := by decide +kernel
theorem dL_settled_16 : decode cL_settled 16 = .ok (.ireturn, 1) := by decide +kernel
theorem dL_settled_17 : decode cL_settled 17 = .ok (.iconst 0, 1) := by decide +kernel
theorem dL_settled_18 : decode cL_settled 18 = .ok (.ireturn, 1) := by decide +kernel
set_option maxRecDepth 20000 in
theorem ggL_posting_X4_posting : GoodIn wsL_posting wsX4_posting := goodIn_ca (goodIn_r _ [6, 7, 8, 9, 10, 11, 5, 12, 13, 14, 15, 16, 17, 18, 19, 20] (by decide +kernel) (by decide +kernel)) (goodIn_sub (fun _ h => List.mem_cons_of_mem _ (List.mem_append_right _ h)) (by decide +kernel))
set_option maxRecDepth 20000 in
theorem gL_posting_X4_posting : GoodIn wsL_posting (wsV RL 67 RX4 yX4_posting wsX4_posting) := goodIn_app (goodIn_of _ (by decide +kernel)) ggL_posting_X4_posting
theorem dL_posting_0 : decode cL_posting 0 = .ok (.aload_n 3, 1) := by decide +kernel
theorem dL_posting_1 : decode cL_posting 1 = .ok (.iconst 0, 1) := by decide +kernel
theorem dL_posting_2 : decode cL_posting 2 = .ok (.aload_n 0, 1) := by decide +kernel
theorem dL_posting_3 : decode cL_posting 3 = .ok (.iload_n 1, 1) := by decide +kernel
theorem dL_posting_4 : decode cL_posting 4 = .ok (.iload_n 2, 1) := by decide +kernel
theorem dL_posting_5 : decode cL_posting 5 = .ok (.invokevirtual 67, 3) := by decide +kernel
theorem dL_posting_8 : decode cL_posting 8 = .ok (.i2l, 1) := by decide +kernel
theorem dL_posting_9 : decode cL_posting 9 = .ok (.lastore, 1) := by decide +kernel
theorem dL_posting_10 : decode cL_posting 10 = .ok (.goto 7, 3) := by decide +kernel
theorem dL_posting_13 : decode cL_posting 13 = .ok (.astore 4, 2) := by decide +kernel
theorem dL_posting_15 : decode cL_posting 15 = .ok (.iconst 1, 1) := by decide +kernel
theorem dL_posting_16 : decode cL_posting 16 = .ok (.ireturn, 1) := by decide +kernel
theorem dL_posting_17 : decode cL_posting 17 = .ok (.iconst 0, 1) := by decide +kernel
theorem dL_posting_18 : decode cL_posting 18 = .ok (.ireturn, 1) := by decide +kernel
set_option maxRecDepth 20000 in
theorem ggL_balance_X4_balance : GoodIn wsL_balance wsX4_balance := goodIn_ca (goodIn_r _ [6, 7, 8, 9, 10, 11, 5, 12, 13, 14, 15, 16, 17, 18, 19, 20] (by decide +kernel) (by decide +kernel)) (goodIn_sub (fun _ h => List.mem_cons_of_mem _ (List.mem_append_right _ h)) (by decide +kernel))
set_option maxRecDepth 20000 in
theorem gL_balance_X4_balance : GoodIn wsL_balance (wsV RL 70 RX4 yX4_balance wsX4_balance) := goodIn_app (goodIn_of _ (by decide +kernel)) ggL_balance_X4_balance
theorem dL_balance_0 : decode cL_balance 0 = .ok (.aload_n 2, 1) := by decide +kernel
theorem dL_balance_1 : decode cL_balance 1 = .ok (.iconst 0, 1) := by decide +kernel
theorem dL_balance_2 : decode cL_balance 2 = .ok (.aload_n 0, 1) := by decide +kernel
theorem dL_balance_3 : decode cL_balance 3 = .ok (.iload_n 1, 1) := by decide +kernel
theorem dL_balance_4 : decode cL_balance 4 = .ok (.invokevirtual 70, 3) := by decide +kernel
theorem dL_balance_7 : decode cL_balance 7 = .ok (.i2l, 1) := by decide +kernel
theorem dL_balance_8 : decode cL_balance 8 = .ok (.lastore, 1) := by decide +kernel
theorem dL_balance_9 : decode cL_balance 9 = .ok (.goto 6, 3) := by decide +kernel
theorem dL_balance_12 : decode cL_balance 12 = .ok (.astore_n 3, 1) := by decide +kernel
theorem dL_balance_13 : decode cL_balance 13 = .ok (.iconst 1, 1) := by decide +kernel
theorem dL_balance_14 : decode cL_balance 14 = .ok (.ireturn, 1) := by decide +kernel
theorem dL_balance_15 : decode cL_balance 15 = .ok (.iconst 0, 1) := by decide +kernel
theorem dL_balance_16 : decode cL_balance 16 = .ok (.ireturn, 1) := by decide +kernel
set_option maxRecDepth 20000 in
theorem ggL_law_X4_init : GoodIn wsL_law wsX4_init := goodIn_r _ [9, 10, 11, 12, 13, 14, 15, 16, 17, 18, 19, 20, 21, 22, 23, 24, 25, 26, 27, 28, 29, 30, 31, 32, 33, 34, 35, 36, 37, 38, 39, 40, 41, 42, 43, 44, 45, 46, 47, 48, 49, 50, 51, 52, 53, 54, 55, 56, 57, 58, 59, 60, 61, 62, 63, 64, 65, 66, 599, 600, 601, 602, 603, 604, 563, 564, 565, 566, 567, 605, 606, 607, 608, 609, 610, 611, 612, 613, 614, 615, 616, 617, 618, 619, 620, 621, 622, 623, 624, 625, 626, 627, 628, 629, 630] (by decide +kernel) (by decide +kernel)
set_option maxRecDepth 20000 in
theorem gL_law_X4_init : GoodIn wsL_law (wsX4_init) := ggL_law_X4_init
set_option maxRecDepth 20000 in
theorem ggL_law_X5_init : GoodIn wsL_law wsX5_init := goodIn_r _ [69, 70, 11, 12, 32, 71, 72, 73, 74, 75, 76, 77, 78, 79, 80, 81, 82, 83, 84, 85, 86, 87, 88, 89, 568, 569, 570, 571, 572, 573, 574, 575, 576, 577, 578, 579, 580, 581, 582, 583, 584, 585, 586, 587, 588, 589, 590, 591, 592, 593, 594, 595, 596, 597, 598] (by decide +kernel) (by decide +kernel)
set_option maxRecDepth 20000 in
theorem gL_law_X5_init : GoodIn wsL_law (wsX5_init) := ggL_law_X5_init
set_option maxRecDepth 20000 in
theorem ggL_law_L_row : GoodIn wsL_law wsL_row := goodIn_ca (goodIn_ca (goodIn_r _ [93, 94, 95, 96, 97, 98, 2, 99, 100, 101, 102, 103, 16, 104, 105, 106, 107, 20, 108, 109, 110, 111, 112, 113, 114, 15, 115, 116, 33, 117, 34, 35, 36, 37, 563, 564, 565, 566, 567, 599, 600, 601, 602, 603, 604, 605, 606, 607, 608, 609, 610, 611, 612, 613, 614, 615] (by decide +kernel) (by decide +kernel)) (goodIn_sub (fun _ h => List.mem_append_left _ (List.mem_append_left _ (List.mem_append_left _ (List.mem_append_right _ h)))) (by decide +kernel))) (goodIn_sub (fun _ h => List.mem_append_left _ (List.mem_append_left _ (List.mem_append_right _ h))) (by decide +kernel))
set_option maxRecDepth 20000 in
theorem gL_law_L_row : GoodIn wsL_law (va_wsS RL 78 yL_row wsL_row) := goodIn_app (goodIn_of _ (by decide +kernel)) ggL_law_L_row
set_option maxRecDepth 20000 in
theorem ggL_law_X5_row : GoodIn wsL_law wsX5_row := goodIn_r _ [121, 122, 123, 71, 124, 125, 5, 126, 127, 128, 129, 130, 131, 568, 569, 570, 571, 572, 573, 574, 575, 576, 577, 578, 579, 580, 581, 582, 583, 584, 585, 586, 587, 588, 589, 590, 591, 592, 593, 594, 595, 596, 597, 598] (by decide +kernel) (by decide +kernel)
set_option maxRecDepth 20000 in
theorem gL_law_X5_row : GoodIn wsL_law (wsV RL 83 RX5 yX5_row wsX5_row) := goodIn_app (goodIn_of _ (by decide +kernel)) ggL_law_X5_row
set_option maxRecDepth 20000 in
theorem ggL_law_X5_thrown : GoodIn wsL_law wsX5_thrown := goodIn_r _ [135, 131, 568, 569, 570, 571, 572, 573, 574, 575, 576, 577, 578, 579, 580, 581, 582, 583, 584, 585, 586, 587, 588, 589, 590, 591, 592, 593, 594, 595, 596, 597, 598] (by decide +kernel) (by decide +kernel)
set_option maxRecDepth 20000 in
theorem gL_law_X5_thrown : GoodIn wsL_law (wsV RL 84 RX5 yX5_thrown wsX5_thrown) := goodIn_app (goodIn_of _ (by decide +kernel)) ggL_law_X5_thrown
set_option maxRecDepth 20000 in
theorem ggL_law_L_undo : GoodIn wsL_law wsL_undo := goodIn_ca (goodIn_r _ [138, 94, 139, 140, 141, 2, 142, 100, 101, 16, 104, 105, 106, 107, 20, 143, 15, 144, 145, 117, 563, 564, 565, 566, 567, 599, 600, 601, 602, 603, 604, 605, 606, 607, 608, 609, 610, 611, 612, 613, 614, 615] (by decide +kernel) (by decide +kernel)) (goodIn_sub (fun _ h => List.mem_append_left _ (List.mem_append_left _ (List.mem_append_left _ (List.mem_append_right _ h)))) (by decide +kernel))
set_option maxRecDepth 20000 in
theorem gL_law_L_undo : GoodIn wsL_law (va_wsS RL 88 yL_undo wsL_undo) := goodIn_app (goodIn_of _ (by decide +kernel)) ggL_law_L_undo
set_option maxRecDepth 20000 in
theorem ggL_law_X5_undo : GoodIn wsL_law wsX5_undo := goodIn_r _ [149, 122, 123, 127, 128, 129, 5, 130, 131, 568, 569, 570, 571, 572, 573, 574, 575, 576, 577, 578, 579, 580, 581, 582, 583, 584, 585, 586, 587, 588, 589, 590, 591, 592, 593, 594, 595, 596, 597, 598] (by decide +kernel) (by decide +kernel)
set_option maxRecDepth 20000 in
theorem gL_law_X5_undo : GoodIn wsL_law (wsV RL 91 RX5 yX5_undo wsX5_undo) := goodIn_app (goodIn_of _ (by decide +kernel)) ggL_law_X5_undo
set_option maxRecDepth 20000 in
theorem ggL_law_X4_witness : GoodIn wsL_law wsX4_witness := goodIn_r _ [153, 16, 154, 15, 155, 156, 157, 158, 159, 160, 117, 161, 162, 163, 164, 33, 34, 35, 36, 563, 564, 565, 566, 567, 599, 600, 601, 602, 603, 604] (by decide +kernel) (by decide +kernel)
set_option maxRecDepth 20000 in
theorem gL_law_X4_witness : GoodIn wsL_law (wsV RL 92 RX4 yX4_witness wsX4_witness) := goodIn_app (goodIn_of _ (by decide +kernel)) ggL_law_X4_witness
set_option maxRecDepth 20000 in
theorem ggL_law_X5_witness : GoodIn wsL_law wsX5_witness := goodIn_r _ [168, 131, 169, 170, 171, 5, 172, 123, 173, 174, 175, 176, 71, 568, 569, 570, 571, 572, 573, 574, 575, 576, 577, 578, 579, 580, 581, 582, 583, 584, 585, 586, 587, 588, 589, 590, 591, 592, 593, 594, 595, 596, 597, 598] (by decide +kernel) (by decide +kernel)
set_option maxRecDepth 20000 in
theorem gL_law_X5_witness : GoodIn wsL_law (wsV RL 95 RX5 yX5_witness wsX5_witness) := goodIn_app (goodIn_of _ (by decide +kernel)) ggL_law_X5_witness
set_option maxRecDepth 20000 in
theorem ggL_law_L_quota : GoodIn wsL_law wsL_quota := goodIn_ca (goodIn_ca (goodIn_r _ [179, 94, 95, 180, 181, 182, 2, 183, 100, 101, 102, 103, 20, 184, 111, 112, 113, 563, 564, 565, 566, 567, 605, 606, 607, 608, 609, 610, 611, 612, 613, 614, 615] (by decide +kernel) (by decide +kernel)) (goodIn_sub (fun _ h => List.mem_append_left _ (List.mem_append_left _ (List.mem_append_left _ (List.mem_append_right _ h)))) (by decide +kernel))) (goodIn_sub (fun _ h => List.mem_append_left _ (List.mem_append_left _ (List.mem_append_right _ h))) (by decide +kernel))
set_option maxRecDepth 20000 in
theorem gL_law_L_quota : GoodIn wsL_law (va_wsS RL 96 yL_quota wsL_quota) := goodIn_app (goodIn_of _ (by decide +kernel)) ggL_law_L_quota
set_option maxRecDepth 20000 in
theorem ggL_law_X5_quota : GoodIn wsL_law wsX5_quota := goodIn_r _ [188, 122, 189, 124, 125, 5, 126, 127, 128, 129, 130, 131, 568, 569, 570, 571, 572, 573, 574, 575, 576, 577, 578, 579, 580, 581, 582, 583, 584, 585, 586, 587, 588, 589, 590, 591, 592, 593, 594, 595, 596, 597, 598] (by decide +kernel) (by decide +kernel)
set_option maxRecDepth 20000 in
theorem gL_law_X5_quota : GoodIn wsL_law (wsV RL 99 RX5 yX5_quota wsX5_quota) := goodIn_app (goodIn_of _ (by decide +kernel)) ggL_law_X5_quota
set_option maxRecDepth 20000 in
theorem ggL_law_L_terms : GoodIn wsL_law wsL_terms := goodIn_ca (goodIn_ca (goodIn_r _ [192, 94, 95, 193, 194, 195, 2, 196, 100, 101, 102, 103, 24, 111, 112, 113, 197, 23, 198, 199, 53, 54, 55, 563, 564, 565, 566, 567, 616, 617, 618, 619, 620, 621, 622, 623, 624, 625, 626, 627] (by decide +kernel) (by decide +kernel)) (goodIn_sub (fun _ h => List.mem_append_left _ (List.mem_append_left _ (List.mem_append_left _ (List.mem_append_right _ h)))) (by decide +kernel))) (goodIn_sub (fun _ h => List.mem_append_left _ (List.mem_append_left _ (List.mem_append_right _ h))) (by decide +kernel))
set_option maxRecDepth 20000 in
theorem gL_law_L_terms : GoodIn wsL_law (va_wsS RL 100 yL_terms wsL_terms) := goodIn_app (goodIn_of _ (by decide +kernel)) ggL_law_L_terms
set_option maxRecDepth 20000 in
theorem ggL_law_X5_terms : GoodIn wsL_law wsX5_terms := goodIn_r _ [203, 204, 205, 86, 87, 124, 125, 5, 126, 127, 128, 129, 130, 131, 568, 569, 570, 571, 572, 573, 574, 575, 576, 577, 578, 579, 580, 581, 582, 583, 584, 585, 586, 587, 588, 589, 590, 591, 592, 593, 594, 595, 596, 597, 598] (by decide +kernel) (by decide +kernel)
set_option maxRecDepth 20000 in
theorem gL_law_X5_terms : GoodIn wsL_law (wsV RL 103 RX5 yX5_terms wsX5_terms) := goodIn_app (goodIn_of _ (by decide +kernel)) ggL_law_X5_terms
set_option maxRecDepth 20000 in
theorem ggL_law_L_layer : GoodIn wsL_law wsL_layer := goodIn_ca (goodIn_ca (goodIn_r _ [208, 94, 95, 209, 210, 211, 2, 212, 100, 101, 102, 103, 24, 111, 112, 113, 213, 23, 214, 215, 56, 57, 58, 59, 563, 564, 565, 566, 567, 616, 617, 618, 619, 620, 621, 622, 623, 624, 625, 626, 627] (by decide +kernel) (by decide +kernel)) (goodIn_sub (fun _ h => List.mem_append_left _ (List.mem_append_left _ (List.mem_append_left _ (List.mem_append_right _ h)))) (by decide +kernel))) (goodIn_sub (fun _ h => List.mem_append_left _ (List.mem_append_left _ (List.mem_append_right _ h))) (by decide +kernel))
set_option maxRecDepth 20000 in
theorem gL_law_L_layer : GoodIn wsL_law (va_wsS RL 104 yL_layer wsL_layer) := goodIn_app (goodIn_of _ (by decide +kernel)) ggL_law_L_layer
set_option maxRecDepth 20000 in
theorem ggL_law_X5_layer : GoodIn wsL_law wsX5_layer := goodIn_r _ [219, 204, 88, 220, 221, 222, 124, 125, 5, 126, 127, 128, 129, 130, 131, 568, 569, 570, 571, 572, 573, 574, 575, 576, 577, 578, 579, 580, 581, 582, 583, 584, 585, 586, 587, 588, 589, 590, 591, 592, 593, 594, 595, 596, 597, 598] (by decide +kernel) (by decide +kernel)
set_option maxRecDepth 20000 in
theorem gL_law_X5_layer : GoodIn wsL_law (wsV RL 107 RX5 yX5_layer wsX5_layer) := goodIn_app (goodIn_of _ (by decide +kernel)) ggL_law_X5_layer
set_option maxRecDepth 20000 in
theorem ggL_law_L_bind : GoodIn wsL_law wsL_bind := goodIn_ca (goodIn_ca (goodIn_ca (goodIn_r _ [225, 94, 95, 226, 227, 228, 229, 2, 230, 100, 101, 102, 103, 20, 231, 232, 233, 234, 16, 104, 105, 106, 107, 154, 15, 155, 156, 157, 158, 159, 160, 117, 161, 162, 163, 164, 33, 34, 35, 36, 235, 19, 236, 237, 238, 239, 240, 241, 242, 243, 244, 111, 112, 113, 245, 246, 247, 248, 249, 250, 41, 251, 42, 252, 253, 254, 255, 43, 44, 256, 257, 258, 259, 45, 46, 47, 48, 260, 261, 262, 263, 264, 265, 184, 28, 266, 267, 268, 269, 270, 271, 272, 273, 274, 275, 276, 277, 278, 279, 280, 49, 281, 282, 283, 284, 285, 286, 287, 37, 288, 289, 290, 291, 292, 293, 294, 295, 27, 296, 297, 298, 299, 300, 301, 302, 303, 304, 305, 306, 307, 308, 65, 66, 309, 310, 311, 563, 564, 565, 566, 567, 605, 606, 607, 608, 609, 610, 611, 612, 613, 614, 615, 599, 600, 601, 602, 603, 604, 628, 629, 630] (by decide +kernel) (by decide +kernel)) (goodIn_sub (fun _ h => List.mem_append_left _ (List.mem_append_left _ (List.mem_append_left _ (List.mem_append_right _ h)))) (by decide +kernel))) (goodIn_sub (fun _ h => List.mem_append_left _ (List.mem_append_left _ (List.mem_append_right _ h))) (by decide +kernel))) (goodIn_sub (fun _ h => List.mem_append_left _ (List.mem_append_right _ h)) (by decide +kernel))
set_option maxRecDepth 20000 in
theorem gL_law_L_bind : GoodIn wsL_law (va_wsS RL 108 yL_bind wsL_bind) := goodIn_app (goodIn_of _ (by decide +kernel)) ggL_law_L_bind
set_option maxRecDepth 20000 in
theorem ggL_law_X5_bind : GoodIn wsL_law wsX5_bind := goodIn_r _ [315, 122, 316, 72, 73, 317, 131, 124, 125, 5, 126, 318, 319, 320, 169, 170, 171, 172, 123, 173, 174, 175, 176, 71, 127, 128, 129, 130, 321, 322, 323, 324, 325, 326, 327, 74, 75, 76, 77, 78, 328, 329, 330, 331, 332, 189, 333, 334, 335, 336, 337, 338, 339, 340, 341, 342, 343, 344, 79, 345, 346, 347, 348, 349, 350, 351, 352, 353, 354, 355, 356, 357, 358, 359, 360, 83, 84, 85, 361, 362, 363, 364, 365, 366, 367, 368, 80, 81, 82, 568, 569, 570, 571, 572, 573, 574, 575, 576, 577, 578, 579, 580, 581, 582, 583, 584, 585, 586, 587, 588, 589, 590, 591, 592, 593, 594, 595, 596, 597, 598] (by decide +kernel) (by decide +kernel)
set_option maxRecDepth 20000 in
theorem gL_law_X5_bind : GoodIn wsL_law (wsV RL 110 RX5 yX5_bind wsX5_bind) := goodIn_app (goodIn_of _ (by decide +kernel)) ggL_law_X5_bind
set_option maxRecDepth 20000 in
theorem ggL_law_L_change : GoodIn wsL_law wsL_change := goodIn_ca (goodIn_ca (goodIn_ca (goodIn_ca (goodIn_r _ [371, 372, 95, 94, 226, 373, 374, 375, 2, 376, 377, 378, 102, 103, 100, 101, 20, 379, 380, 381, 382, 242, 243, 244, 111, 112, 113, 383, 19, 384, 385, 41, 42, 245, 246, 247, 386, 387, 388, 238, 389, 281, 282, 283, 284, 44, 43, 45, 47, 46, 48, 235, 236, 237, 390, 391, 392, 393, 257, 258, 259, 260, 261, 262, 263, 264, 265, 184, 28, 266, 267, 268, 252, 253, 254, 255, 269, 270, 271, 272, 273, 274, 275, 276, 277, 278, 279, 280, 49, 285, 15, 286, 287, 117, 37, 161, 162, 163, 164, 33, 34, 35, 36, 288, 289, 290, 291, 292, 293, 294, 295, 27, 296, 297, 298, 299, 300, 301, 302, 303, 304, 305, 306, 307, 308, 65, 66, 394, 395, 396, 563, 564, 565, 566, 567, 605, 606, 607, 608, 609, 610, 611, 612, 613, 614, 615, 599, 600, 601, 602, 603, 604, 628, 629, 630] (by decide +kernel) (by decide +kernel)) (goodIn_sub (fun _ h => List.mem_append_right _ h) (by decide +kernel))) (goodIn_sub (fun _ h => List.mem_append_left _ (List.mem_append_left _ (List.mem_append_right _ h))) (by decide +kernel))) (goodIn_sub (fun _ h => List.mem_append_left _ (List.mem_append_left _ (List.mem_append_left _ (List.mem_append_right _ h)))) (by decide +kernel))) (goodIn_sub (fun _ h => List.mem_append_left _ (List.mem_append_right _ h)) (by decide +kernel))
set_option maxRecDepth 20000 in
theorem gL_law_L_change : GoodIn wsL_law (va_wsS RL 111 yL_change wsL_change) := goodIn_app (goodIn_of _ (by decide +kernel)) ggL_law_L_change
set_option maxRecDepth 20000 in
theorem ggL_law_X5_change : GoodIn wsL_law wsX5_change := goodIn_r _ [400, 316, 401, 402, 403, 5, 404, 122, 124, 125, 126, 405, 406, 407, 408, 72, 73, 318, 319, 320, 409, 410, 411, 412, 341, 342, 343, 344, 79, 75, 76, 74, 77, 345, 346, 347, 348, 127, 128, 129, 130, 131, 324, 325, 326, 327, 78, 413, 414, 415, 416, 328, 329, 330, 331, 332, 189, 333, 334, 335, 336, 337, 338, 339, 340, 349, 350, 351, 352, 317, 353, 354, 355, 356, 123, 71, 173, 174, 175, 176, 357, 358, 359, 360, 83, 84, 85, 361, 362, 363, 364, 365, 366, 367, 368, 80, 81, 82, 568, 569, 570, 571, 572, 573, 574, 575, 576, 577, 578, 579, 580, 581, 582, 583, 584, 585, 586, 587, 588, 589, 590, 591, 592, 593, 594, 595, 596, 597, 598] (by decide +kernel) (by decide +kernel)
set_option maxRecDepth 20000 in
theorem gL_law_X5_change : GoodIn wsL_law (wsV RL 114 RX5 yX5_change wsX5_change) := goodIn_app (goodIn_of _ (by decide +kernel)) ggL_law_X5_change
set_option maxRecDepth 20000 in
theorem ggL_law_L_cancel : GoodIn wsL_law wsL_cancel := goodIn_ca (goodIn_ca (goodIn_ca (goodIn_ca (goodIn_r _ [419, 372, 95, 94, 226, 420, 421, 422, 2, 423, 377, 378, 102, 103, 100, 101, 20, 379, 380, 381, 382, 242, 243, 244, 383, 19, 384, 385, 41, 42, 386, 387, 388, 238, 389, 281, 282, 283, 284, 44, 43, 45, 47, 46, 48, 112, 113, 235, 236, 237, 390, 391, 392, 393, 257, 258, 259, 260, 261, 262, 263, 264, 265, 184, 28, 266, 267, 268, 252, 253, 254, 255, 269, 270, 271, 272, 273, 274, 275, 276, 277, 278, 279, 280, 49, 285, 15, 286, 287, 117, 37, 161, 162, 163, 164, 33, 34, 35, 36, 288, 289, 290, 291, 292, 293, 294, 295, 27, 296, 297, 298, 299, 300, 301, 302, 303, 304, 305, 306, 307, 308, 65, 66, 394, 395, 396, 563, 564, 565, 566, 567, 605, 606, 607, 608, 609, 610, 611, 612, 613, 614, 615, 599, 600, 601, 602, 603, 604, 628, 629, 630] (by decide +kernel) (by decide +kernel)) (goodIn_sub (fun _ h => List.mem_append_right _ h) (by decide +kernel))) (goodIn_sub (fun _ h => List.mem_append_left _ (List.mem_append_left _ (List.mem_append_right _ h))) (by decide +kernel))) (goodIn_sub (fun _ h => List.mem_append_left _ (List.mem_append_left _ (List.mem_append_left _ (List.mem_append_right _ h)))) (by decide +kernel))) (goodIn_sub (fun _ h => List.mem_append_left _ (List.mem_append_right _ h)) (by decide +kernel))
set_option maxRecDepth 20000 in
theorem gL_law_L_cancel : GoodIn wsL_law (va_wsS RL 115 yL_cancel wsL_cancel) := goodIn_app (goodIn_of _ (by decide +kernel)) ggL_law_L_cancel
set_option maxRecDepth 20000 in
theorem ggL_law_X5_cancel : GoodIn wsL_law wsX5_cancel := goodIn_r _ [427, 428, 429, 430, 5, 431, 316, 401, 402, 403, 404, 122, 405, 406, 407, 408, 72, 73, 409, 410, 411, 412, 341, 342, 343, 344, 79, 75, 76, 74, 77, 345, 346, 347, 348, 127, 128, 129, 130, 131, 324, 325, 326, 327, 78, 413, 414, 415, 416, 328, 329, 330, 331, 332, 189, 333, 334, 335, 336, 337, 338, 339, 340, 349, 350, 351, 352, 317, 353, 354, 355, 356, 123, 71, 173, 174, 175, 176, 357, 358, 359, 360, 83, 84, 85, 361, 362, 363, 364, 365, 366, 367, 368, 80, 81, 82, 568, 569, 570, 571, 572, 573, 574, 575, 576, 577, 578, 579, 580, 581, 582, 583, 584, 585, 586, 587, 588, 589, 590, 591, 592, 593, 594, 595, 596, 597, 598] (by decide +kernel) (by decide +kernel)
set_option maxRecDepth 20000 in
theorem gL_law_X5_cancel : GoodIn wsL_law (wsV RL 118 RX5 yX5_cancel wsX5_cancel) := goodIn_app (goodIn_of _ (by decide +kernel)) ggL_law_X5_cancel
set_option maxRecDepth 20000 in
theorem ggL_law_L_reinstate : GoodIn wsL_law wsL_reinstate := goodIn_ca (goodIn_ca (goodIn_ca (goodIn_ca (goodIn_r _ [434, 372, 95, 94, 226, 435, 436, 437, 2, 438, 377, 378, 102, 103, 100, 101, 20, 379, 380, 381, 382, 242, 243, 244, 383, 19, 384, 385, 41, 42, 386, 387, 388, 238, 389, 281, 282, 283, 284, 44, 43, 45, 47, 46, 48, 112, 113, 235, 236, 237, 390, 391, 392, 393, 257, 258, 259, 260, 261, 262, 263, 264, 265, 184, 28, 266, 267, 268, 252, 253, 254, 255, 269, 270, 271, 272, 273, 274, 275, 276, 277, 278, 279, 280, 49, 285, 15, 286, 287, 117, 37, 161, 162, 163, 164, 33, 34, 35, 36, 288, 289, 290, 291, 292, 293, 294, 295, 27, 296, 297, 298, 299, 300, 301, 302, 303, 304, 305, 306, 307, 308, 65, 66, 394, 395, 396, 563, 564, 565, 566, 567, 605, 606, 607, 608, 609, 610, 611, 612, 613, 614, 615, 599, 600, 601, 602, 603, 604, 628, 629, 630] (by decide +kernel) (by decide +kernel)) (goodIn_sub (fun _ h => List.mem_append_right _ h) (by decide +kernel))) (goodIn_sub (fun _ h => List.mem_append_left _ (List.mem_append_left _ (List.mem_append_right _ h))) (by decide +kernel))) (goodIn_sub (fun _ h => List.mem_append_left _ (List.mem_append_left _ (List.mem_append_left _ (List.mem_append_right _ h)))) (by decide +kernel))) (goodIn_sub (fun _ h => List.mem_append_left _ (List.mem_append_right _ h)) (by decide +kernel))
set_option maxRecDepth 20000 in
theorem gL_law_L_reinstate : GoodIn wsL_law (va_wsS RL 119 yL_reinstate wsL_reinstate) := goodIn_app (goodIn_of _ (by decide +kernel)) ggL_law_L_reinstate
set_option maxRecDepth 20000 in
theorem ggL_law_X5_reinstate : GoodIn wsL_law wsX5_reinstate := goodIn_r _ [442, 428, 429, 430, 5, 431, 316, 401, 402, 403, 404, 122, 405, 406, 407, 408, 72, 73, 409, 410, 411, 412, 341, 342, 343, 344, 79, 75, 76, 74, 77, 345, 346, 347, 348, 127, 128, 129, 130, 131, 324, 325, 326, 327, 78, 413, 414, 415, 416, 328, 329, 330, 331, 332, 189, 333, 334, 335, 336, 337, 338, 339, 340, 349, 350, 351, 352, 317, 353, 354, 355, 356, 123, 71, 173, 174, 175, 176, 357, 358, 359, 360, 83, 84, 85, 361, 362, 363, 364, 365, 366, 367, 368, 80, 81, 82, 568, 569, 570, 571, 572, 573, 574, 575, 576, 577, 578, 579, 580, 581, 582, 583, 584, 585, 586, 587, 588, 589, 590, 591, 592, 593, 594, 595, 596, 597, 598] (by decide +kernel) (by decide +kernel)
set_option maxRecDepth 20000 in
theorem gL_law_X5_reinstate : GoodIn wsL_law (wsV RL 122 RX5 yX5_reinstate wsX5_reinstate) := goodIn_app (goodIn_of _ (by decide +kernel)) ggL_law_X5_reinstate
set_option maxRecDepth 20000 in
theorem ggL_law_L_claim : GoodIn wsL_law wsL_claim := goodIn_ca (goodIn_ca (goodIn_ca (goodIn_ca (goodIn_r _ [445, 372, 95, 94, 226, 446, 447, 448, 2, 449, 377, 378, 102, 103, 100, 101, 20, 24, 184, 379, 380, 381, 382, 242, 243, 244, 239, 240, 241, 111, 112, 113, 386, 19, 387, 388, 238, 389, 383, 384, 385, 41, 42, 281, 282, 283, 284, 44, 43, 45, 47, 46, 48, 450, 23, 451, 452, 55, 60, 53, 453, 454, 254, 455, 54, 456, 253, 255, 288, 289, 290, 291, 292, 293, 294, 457, 458, 459, 57, 58, 460, 56, 461, 462, 463, 464, 465, 466, 467, 468, 264, 265, 28, 295, 27, 296, 297, 298, 299, 300, 301, 302, 303, 304, 305, 306, 307, 308, 65, 66, 469, 470, 471, 472, 61, 563, 564, 565, 566, 567, 616, 617, 618, 619, 620, 621, 622, 623, 624, 625, 626, 627, 605, 606, 607, 608, 609, 610, 611, 612, 613, 614, 615, 628, 629, 630] (by decide +kernel) (by decide +kernel)) (goodIn_sub (fun _ h => List.mem_append_right _ h) (by decide +kernel))) (goodIn_sub (fun _ h => List.mem_append_left _ (List.mem_append_left _ (List.mem_append_right _ h))) (by decide +kernel))) (goodIn_sub (fun _ h => List.mem_append_left _ (List.mem_append_left _ (List.mem_append_left _ (List.mem_append_right _ h)))) (by decide +kernel))) (goodIn_sub (fun _ h => List.mem_append_left _ (List.mem_append_right _ h)) (by decide +kernel))
set_option maxRecDepth 20000 in
theorem gL_law_L_claim : GoodIn wsL_law (va_wsS RL 123 yL_claim wsL_claim) := goodIn_app (goodIn_of _ (by decide +kernel)) ggL_law_L_claim
set_option maxRecDepth 20000 in
theorem ggL_law_X5_claim : GoodIn wsL_law wsX5_claim := goodIn_r _ [476, 204, 205, 86, 87, 189, 88, 220, 221, 332, 222, 131, 89, 401, 402, 403, 5, 404, 122, 124, 125, 126, 409, 410, 411, 412, 405, 406, 407, 408, 72, 73, 341, 342, 343, 344, 79, 316, 75, 76, 74, 77, 345, 346, 347, 348, 127, 128, 129, 130, 321, 322, 323, 477, 478, 479, 480, 357, 358, 359, 360, 83, 84, 85, 364, 365, 366, 367, 368, 80, 81, 82, 568, 569, 570, 571, 572, 573, 574, 575, 576, 577, 578, 579, 580, 581, 582, 583, 584, 585, 586, 587, 588, 589, 590, 591, 592, 593, 594, 595, 596, 597, 598] (by decide +kernel) (by decide +kernel)
set_option maxRecDepth 20000 in
theorem gL_law_X5_claim : GoodIn wsL_law (wsV RL 126 RX5 yX5_claim wsX5_claim) := goodIn_app (goodIn_of _ (by decide +kernel)) ggL_law_X5_claim
set_option maxRecDepth 20000 in
theorem ggL_law_X4_count : GoodIn wsL_law wsX4_count := goodIn_r _ [484, 20, 24, 28, 16, 563, 564, 565, 566, 567, 605, 606, 607, 608, 609, 610, 611, 612, 613, 614, 615, 616, 617, 618, 619, 620, 621, 622, 623, 624, 625, 626, 627, 628, 629, 630, 599, 600, 601, 602, 603, 604] (by decide +kernel) (by decide +kernel)
set_option maxRecDepth 20000 in
theorem gL_law_X4_count : GoodIn wsL_law (wsV RL 127 RX4 yX4_count wsX4_count) := goodIn_app (goodIn_of _ (by decide +kernel)) ggL_law_X4_count
set_option maxRecDepth 20000 in
theorem ggL_law_X5_count : GoodIn wsL_law wsX5_count := goodIn_r _ [488, 131, 122, 316, 204, 368, 123, 568, 569, 570, 571, 572, 573, 574, 575, 576, 577, 578, 579, 580, 581, 582, 583, 584, 585, 586, 587, 588, 589, 590, 591, 592, 593, 594, 595, 596, 597, 598] (by decide +kernel) (by decide +kernel)
set_option maxRecDepth 20000 in
theorem gL_law_X5_count : GoodIn wsL_law (wsV RL 130 RX5 yX5_count wsX5_count) := goodIn_app (goodIn_of _ (by decide +kernel)) ggL_law_X5_count
set_option maxRecDepth 20000 in
theorem ggL_law_L_fact : GoodIn wsL_law wsL_fact := goodIn_ca (goodIn_r _ [491, 372, 492, 493, 494, 2, 495, 377, 378, 20, 379, 380, 381, 382, 242, 243, 244, 111, 112, 113, 496, 19, 497, 498, 238, 252, 253, 254, 255, 499, 454, 455, 383, 384, 385, 41, 42, 270, 271, 272, 43, 278, 279, 280, 49, 281, 282, 283, 284, 44, 45, 47, 46, 48, 285, 15, 286, 287, 117, 37, 161, 162, 163, 164, 33, 34, 35, 36, 563, 564, 565, 566, 567, 605, 606, 607, 608, 609, 610, 611, 612, 613, 614, 615, 599, 600, 601, 602, 603, 604] (by decide +kernel) (by decide +kernel)) (goodIn_sub (fun _ h => List.mem_append_right _ h) (by decide +kernel))
set_option maxRecDepth 20000 in
theorem gL_law_L_fact : GoodIn wsL_law (va_wsS RL 131 yL_fact wsL_fact) := goodIn_app (goodIn_of _ (by decide +kernel)) ggL_law_L_fact
set_option maxRecDepth 20000 in
theorem ggL_law_X5_fact : GoodIn wsL_law wsX5_fact := goodIn_r _ [503, 401, 402, 403, 5, 404, 122, 124, 125, 126, 127, 128, 129, 130, 131, 405, 406, 407, 408, 72, 73, 504, 505, 506, 507, 79, 341, 342, 343, 344, 316, 75, 76, 74, 77, 337, 338, 339, 340, 345, 346, 347, 348, 349, 350, 351, 352, 78, 317, 353, 354, 355, 356, 123, 71, 173, 174, 175, 176, 568, 569, 570, 571, 572, 573, 574, 575, 576, 577, 578, 579, 580, 581, 582, 583, 584, 585, 586, 587, 588, 589, 590, 591, 592, 593, 594, 595, 596, 597, 598] (by decide +kernel) (by decide +kernel)
set_option maxRecDepth 20000 in
theorem gL_law_X5_fact : GoodIn wsL_law (wsV RL 133 RX5 yX5_fact wsX5_fact) := goodIn_app (goodIn_of _ (by decide +kernel)) ggL_law_X5_fact
set_option maxRecDepth 20000 in
theorem ggL_law_L_written : GoodIn wsL_law wsL_written := goodIn_ca (goodIn_r _ [510, 372, 511, 512, 513, 2, 514, 377, 378, 20, 379, 380, 381, 382, 242, 243, 244, 496, 19, 497, 498, 238, 252, 253, 254, 255, 499, 454, 455, 266, 267, 268, 42, 41, 269, 270, 271, 272, 43, 273, 274, 275, 276, 45, 46, 277, 278, 279, 280, 49, 281, 282, 283, 284, 44, 47, 48, 112, 113, 285, 15, 286, 287, 117, 37, 161, 162, 163, 164, 33, 34, 35, 36, 563, 564, 565, 566, 567, 605, 606, 607, 608, 609, 610, 611, 612, 613, 614, 615, 599, 600, 601, 602, 603, 604] (by decide +kernel) (by decide +kernel)) (goodIn_sub (fun _ h => List.mem_append_right _ h) (by decide +kernel))
set_option maxRecDepth 20000 in
theorem gL_law_L_written : GoodIn wsL_law (va_wsS RL 134 yL_written wsL_written) := goodIn_app (goodIn_of _ (by decide +kernel)) ggL_law_L_written
set_option maxRecDepth 20000 in
theorem ggL_law_X5_written : GoodIn wsL_law wsX5_written := goodIn_r _ [518, 401, 402, 403, 5, 404, 122, 127, 128, 129, 130, 131, 333, 334, 335, 336, 72, 73, 337, 338, 339, 340, 341, 342, 343, 344, 79, 316, 75, 76, 74, 77, 345, 346, 347, 348, 349, 350, 351, 352, 78, 317, 353, 354, 355, 356, 123, 71, 173, 174, 175, 176, 568, 569, 570, 571, 572, 573, 574, 575, 576, 577, 578, 579, 580, 581, 582, 583, 584, 585, 586, 587, 588, 589, 590, 591, 592, 593, 594, 595, 596, 597, 598] (by decide +kernel) (by decide +kernel)
set_option maxRecDepth 20000 in
theorem gL_law_X5_written : GoodIn wsL_law (wsV RL 136 RX5 yX5_written wsX5_written) := goodIn_app (goodIn_of _ (by decide +kernel)) ggL_law_X5_written
set_option maxRecDepth 20000 in
theorem ggL_law_L_earned : GoodIn wsL_law wsL_earned := goodIn_ca (goodIn_r _ [521, 372, 522, 523, 524, 2, 525, 377, 378, 20, 379, 380, 381, 382, 242, 243, 244, 496, 19, 497, 498, 238, 252, 253, 254, 255, 499, 454, 455, 266, 267, 268, 42, 41, 269, 270, 271, 272, 43, 273, 274, 275, 276, 45, 46, 277, 278, 279, 280, 49, 281, 282, 283, 284, 44, 47, 48, 112, 113, 285, 15, 286, 287, 117, 37, 161, 162, 163, 164, 33, 34, 35, 36, 563, 564, 565, 566, 567, 605, 606, 607, 608, 609, 610, 611, 612, 613, 614, 615, 599, 600, 601, 602, 603, 604] (by decide +kernel) (by decide +kernel)) (goodIn_sub (fun _ h => List.mem_append_right _ h) (by decide +kernel))
set_option maxRecDepth 20000 in
theorem gL_law_L_earned : GoodIn wsL_law (va_wsS RL 137 yL_earned wsL_earned) := goodIn_app (goodIn_of _ (by decide +kernel)) ggL_law_L_earned
set_option maxRecDepth 20000 in
theorem ggL_law_X5_earned : GoodIn wsL_law wsX5_earned := goodIn_r _ [529, 401, 402, 403, 5, 404, 122, 127, 128, 129, 130, 131, 333, 334, 335, 336, 72, 73, 337, 338, 339, 340, 341, 342, 343, 344, 79, 316, 75, 76, 74, 77, 345, 346, 347, 348, 349, 350, 351, 352, 78, 317, 353, 354, 355, 356, 123, 71, 173, 174, 175, 176, 568, 569, 570, 571, 572, 573, 574, 575, 576, 577, 578, 579, 580, 581, 582, 583, 584, 585, 586, 587, 588, 589, 590, 591, 592, 593, 594, 595, 596, 597, 598] (by decide +kernel) (by decide +kernel)
set_option maxRecDepth 20000 in
theorem gL_law_X5_earned : GoodIn wsL_law (wsV RL 139 RX5 yX5_earned wsX5_earned) := goodIn_app (goodIn_of _ (by decide +kernel)) ggL_law_X5_earned
set_option maxRecDepth 20000 in
theorem ggL_law_L_settled : GoodIn wsL_law wsL_settled := goodIn_ca (goodIn_r _ [532, 372, 533, 534, 535, 2, 536, 377, 378, 24, 242, 243, 244, 563, 564, 565, 566, 567, 616, 617, 618, 619, 620, 621, 622, 623, 624, 625, 626, 627] (by decide +kernel) (by decide +kernel)) (goodIn_sub (fun _ h => List.mem_append_right _ h) (by decide +kernel))
set_option maxRecDepth 20000 in
theorem gL_law_L_settled : GoodIn wsL_law (va_wsS RL 140 yL_settled wsL_settled) := goodIn_app (goodIn_of _ (by decide +kernel)) ggL_law_L_settled
set_option maxRecDepth 20000 in
theorem ggL_law_X5_settled : GoodIn wsL_law wsX5_settled := goodIn_r _ [540, 204, 89, 124, 125, 5, 126, 127, 128, 129, 130, 131, 568, 569, 570, 571, 572, 573, 574, 575, 576, 577, 578, 579, 580, 581, 582, 583, 584, 585, 586, 587, 588, 589, 590, 591, 592, 593, 594, 595, 596, 597, 598] (by decide +kernel) (by decide +kernel)
set_option maxRecDepth 20000 in
theorem gL_law_X5_settled : GoodIn wsL_law (wsV RL 142 RX5 yX5_settled wsX5_settled) := goodIn_app (goodIn_of _ (by decide +kernel)) ggL_law_X5_settled
set_option maxRecDepth 20000 in
theorem ggL_law_L_posting : GoodIn wsL_law wsL_posting := goodIn_ca (goodIn_r _ [543, 372, 544, 545, 546, 2, 547, 377, 378, 28, 242, 243, 244, 563, 564, 565, 566, 567, 628, 629, 630] (by decide +kernel) (by decide +kernel)) (goodIn_sub (fun _ h => List.mem_append_right _ h) (by decide +kernel))
set_option maxRecDepth 20000 in
theorem gL_law_L_posting : GoodIn wsL_law (va_wsS RL 143 yL_posting wsL_posting) := goodIn_app (goodIn_of _ (by decide +kernel)) ggL_law_L_posting
set_option maxRecDepth 20000 in
theorem ggL_law_X5_posting : GoodIn wsL_law wsX5_posting := goodIn_r _ [551, 368, 80, 81, 82, 124, 125, 5, 126, 127, 128, 129, 130, 131, 568, 569, 570, 571, 572, 573, 574, 575, 576, 577, 578, 579, 580, 581, 582, 583, 584, 585, 586, 587, 588, 589, 590, 591, 592, 593, 594, 595, 596, 597, 598] (by decide +kernel) (by decide +kernel)
set_option maxRecDepth 20000 in
theorem gL_law_X5_posting : GoodIn wsL_law (wsV RL 145 RX5 yX5_posting wsX5_posting) := goodIn_app (goodIn_of _ (by decide +kernel)) ggL_law_X5_posting
set_option maxRecDepth 20000 in
theorem ggL_law_L_balance : GoodIn wsL_law wsL_balance := goodIn_ca (goodIn_r _ [554, 372, 555, 556, 557, 2, 558, 377, 378, 28, 242, 243, 244, 563, 564, 565, 566, 567, 628, 629, 630] (by decide +kernel) (by decide +kernel)) (goodIn_sub (fun _ h => List.mem_append_right _ h) (by decide +kernel))
set_option maxRecDepth 20000 in
theorem gL_law_L_balance : GoodIn wsL_law (va_wsS RL 146 yL_balance wsL_balance) := goodIn_app (goodIn_of _ (by decide +kernel)) ggL_law_L_balance
set_option maxRecDepth 20000 in
theorem ggL_law_X5_balance : GoodIn wsL_law wsX5_balance := goodIn_r _ [562, 368, 81, 82, 80, 124, 125, 5, 126, 127, 128, 129, 130, 131, 568, 569, 570, 571, 572, 573, 574, 575, 576, 577, 578, 579, 580, 581, 582, 583, 584, 585, 586, 587, 588, 589, 590, 591, 592, 593, 594, 595, 596, 597, 598] (by decide +kernel) (by decide +kernel)
set_option maxRecDepth 20000 in
theorem gL_law_X5_balance : GoodIn wsL_law (wsV RL 149 RX5 yX5_balance wsX5_balance) := goodIn_app (goodIn_of _ (by decide +kernel)) ggL_law_X5_balance
theorem dL_law_0 : decode cL_law 0 = .ok (.new 8, 3) := by decide +kernel
theorem dL_law_3 : decode cL_law 3 = .ok (.dup, 1) := by decide +kernel
theorem dL_law_4 : decode cL_law 4 = .ok (.invokespecial 74, 3) := by decide +kernel
theorem dL_law_7 : decode cL_law 7 = .ok (.astore_n 1, 1) := by decide +kernel
theorem dL_law_8 : decode cL_law 8 = .ok (.new 75, 3) := by decide +kernel
theorem dL_law_11 : decode cL_law 11 = .ok (.dup, 1) := by decide +kernel
theorem dL_law_12 : decode cL_law 12 = .ok (.invokespecial 77, 3) := by decide +kernel
theorem dL_law_15 : decode cL_law 15 = .ok (.astore_n 2, 1) := by decide +kernel
theorem dL_law_16 : decode cL_law 16 = .ok (.iconst 1, 1) := by decide +kernel
theorem dL_law_17 : decode cL_law 17 = .ok (.newarray .long, 2) := by decide +kernel
theorem dL_law_19 : decode cL_law 19 = .ok (.astore_n 3, 1) := by decide +kernel
theorem dL_law_20 : decode cL_law 20 = .ok (.iconst 0, 1) := by decide +kernel
theorem dL_law_21 : decode cL_law 21 = .ok (.istore 4, 2) := by decide +kernel
theorem dL_law_23 : decode cL_law 23 = .ok (.iload 4, 2) := by decide +kernel
theorem dL_law_25 : decode cL_law 25 = .ok (.aload_n 0, 1) := by decide +kernel
theorem dL_law_26 : decode cL_law 26 = .ok (.arraylength, 1) := by decide +kernel
theorem dL_law_27 : decode cL_law 27 = .ok (.bipush 6, 2) := by decide +kernel
theorem dL_law_29 : decode cL_law 29 = .ok (.isub, 1) := by decide +kernel
theorem dL_law_30 : decode cL_law 30 = .ok (.if_icmp .gt 1310, 3) := by decide +kernel
theorem dL_law_33 : decode cL_law 33 = .ok (.aload_n 0, 1) := by decide +kernel
theorem dL_law_34 : decode cL_law 34 = .ok (.iload 4, 2) := by decide +kernel
theorem dL_law_36 : decode cL_law 36 = .ok (.iaload, 1) := by decide +kernel
theorem dL_law_37 : decode cL_law 37 = .ok (.bipush 31, 2) := by decide +kernel
theorem dL_law_39 : decode cL_law 39 = .ok (.iand, 1) := by decide +kernel
theorem dL_law_40 : decode cL_law 40 = .ok (.tableswitch 1294 0 17 #[88, 192, 216, 229, 265, 325, 397, 501, 593, 689, 757, 837, 862, 954, 1022, 1102, 1170, 1238], 88) := by decide +kernel
theorem dL_law_128 : decode cL_law 128 = .ok (.aload_n 1, 1) := by decide +kernel
theorem dL_law_129 : decode cL_law 129 = .ok (.aload_n 0, 1) := by decide +kernel
theorem dL_law_130 : decode cL_law 130 = .ok (.iload 4, 2) := by decide +kernel
theorem dL_law_132 : decode cL_law 132 = .ok (.iconst 1, 1) := by decide +kernel
theorem dL_law_133 : decode cL_law 133 = .ok (.iadd, 1) := by decide +kernel
theorem dL_law_134 : decode cL_law 134 = .ok (.iaload, 1) := by decide +kernel
theorem dL_law_135 : decode cL_law 135 = .ok (.aload_n 0, 1) := by decide +kernel
theorem dL_law_136 : decode cL_law 136 = .ok (.iload 4, 2) := by decide +kernel
theorem dL_law_138 : decode cL_law 138 = .ok (.iconst 2, 1) := by decide +kernel
theorem dL_law_139 : decode cL_law 139 = .ok (.iadd, 1) := by decide +kernel
theorem dL_law_140 : decode cL_law 140 = .ok (.iaload, 1) := by decide +kernel
theorem dL_law_141 : decode cL_law 141 = .ok (.aload_n 0, 1) := by decide +kernel
theorem dL_law_142 : decode cL_law 142 = .ok (.iload 4, 2) := by decide +kernel
theorem dL_law_144 : decode cL_law 144 = .ok (.iconst 3, 1) := by decide +kernel
theorem dL_law_145 : decode cL_law 145 = .ok (.iadd, 1) := by decide +kernel
theorem dL_law_146 : decode cL_law 146 = .ok (.iaload, 1) := by decide +kernel
theorem dL_law_147 : decode cL_law 147 = .ok (.aload_n 0, 1) := by decide +kernel
theorem dL_law_148 : decode cL_law 148 = .ok (.iload 4, 2) := by decide +kernel
theorem dL_law_150 : decode cL_law 150 = .ok (.iconst 4, 1) := by decide +kernel
theorem dL_law_151 : decode cL_law 151 = .ok (.iadd, 1) := by decide +kernel
theorem dL_law_152 : decode cL_law 152 = .ok (.iaload, 1) := by decide +kernel
theorem dL_law_153 : decode cL_law 153 = .ok (.aload_n 0, 1) := by decide +kernel
theorem dL_law_154 : decode cL_law 154 = .ok (.iload 4, 2) := by decide +kernel
theorem dL_law_156 : decode cL_law 156 = .ok (.iconst 5, 1) := by decide +kernel
theorem dL_law_157 : decode cL_law 157 = .ok (.iadd, 1) := by decide +kernel
theorem dL_law_158 : decode cL_law 158 = .ok (.iaload, 1) := by decide +kernel
theorem dL_law_159 : decode cL_law 159 = .ok (.aload_n 3, 1) := by decide +kernel
theorem dL_law_160 : decode cL_law 160 = .ok (.invokestatic 78, 3) := by decide +kernel
theorem dL_law_163 : decode cL_law 163 = .ok (.istore 5, 2) := by decide +kernel
theorem dL_law_165 : decode cL_law 165 = .ok (.aload_n 2, 1) := by decide +kernel
theorem dL_law_166 : decode cL_law 166 = .ok (.aload_n 0, 1) := by decide +kernel
theorem dL_law_167 : decode cL_law 167 = .ok (.iload 4, 2) := by decide +kernel
theorem dL_law_169 : decode cL_law 169 = .ok (.iconst 1, 1) := by decide +kernel
theorem dL_law_170 : decode cL_law 170 = .ok (.iadd, 1) := by decide +kernel
theorem dL_law_171 : decode cL_law 171 = .ok (.iaload, 1) := by decide +kernel
theorem dL_law_172 : decode cL_law 172 = .ok (.aload_n 0, 1) := by decide +kernel
theorem dL_law_173 : decode cL_law 173 = .ok (.iload 4, 2) := by decide +kernel
theorem dL_law_175 : decode cL_law 175 = .ok (.iconst 2, 1) := by decide +kernel
theorem dL_law_176 : decode cL_law 176 = .ok (.iadd, 1) := by decide +kernel
theorem dL_law_177 : decode cL_law 177 = .ok (.iaload, 1) := by decide +kernel
theorem dL_law_178 : decode cL_law 178 = .ok (.aload_n 0, 1) := by decide +kernel
theorem dL_law_179 : decode cL_law 179 = .ok (.iload 4, 2) := by decide +kernel
theorem dL_law_181 : decode cL_law 181 = .ok (.iconst 3, 1) := by decide +kernel
theorem dL_law_182 : decode cL_law 182 = .ok (.iadd, 1) := by decide +kernel
theorem dL_law_183 : decode cL_law 183 = .ok (.iaload, 1) := by decide +kernel
theorem dL_law_184 : decode cL_law 184 = .ok (.aload_n 0, 1) := by decide +kernel
theorem dL_law_185 : decode cL_law 185 = .ok (.iload 4, 2) := by decide +kernel
theorem dL_law_187 : decode cL_law 187 = .ok (.iconst 4, 1) := by decide +kernel
theorem dL_law_188 : decode cL_law 188 = .ok (.iadd, 1) := by decide +kernel
theorem dL_law_189 : decode cL_law 189 = .ok (.iaload, 1) := by decide +kernel
theorem dL_law_190 : decode cL_law 190 = .ok (.aload_n 0, 1) := by decide +kernel
theorem dL_law_191 : decode cL_law 191 = .ok (.iload 4, 2) := by decide +kernel
theorem dL_law_193 : decode cL_law 193 = .ok (.iconst 5, 1) := by decide +kernel
theorem dL_law_194 : decode cL_law 194 = .ok (.iadd, 1) := by decide +kernel
theorem dL_law_195 : decode cL_law 195 = .ok (.iaload, 1) := by decide +kernel
theorem dL_law_196 : decode cL_law 196 = .ok (.invokevirtual 83, 3) := by decide +kernel
theorem dL_law_199 : decode cL_law 199 = .ok (.istore 6, 2) := by decide +kernel
theorem dL_law_201 : decode cL_law 201 = .ok (.aload_n 2, 1) := by decide +kernel
theorem dL_law_202 : decode cL_law 202 = .ok (.invokevirtual 84, 3) := by decide +kernel
theorem dL_law_205 : decode cL_law 205 = .ok (.iload 5, 2) := by decide +kernel
theorem dL_law_207 : decode cL_law 207 = .ok (.if_icmp .eq 5, 3) := by decide +kernel
theorem dL_law_210 : decode cL_law 210 = .ok (.iconst 0, 1) := by decide +kernel
theorem dL_law_211 : decode cL_law 211 = .ok (.ireturn, 1) := by decide +kernel
theorem dL_law_212 : decode cL_law 212 = .ok (.iload 5, 2) := by decide +kernel
theorem dL_law_214 : decode cL_law 214 = .ok (.ifCond .ne 15, 3) := by decide +kernel
theorem dL_law_217 : decode cL_law 217 = .ok (.aload_n 3, 1) := by decide +kernel
theorem dL_law_218 : decode cL_law 218 = .ok (.iconst 0, 1) := by decide +kernel
theorem dL_law_219 : decode cL_law 219 = .ok (.laload, 1) := by decide +kernel
theorem dL_law_220 : decode cL_law 220 = .ok (.iload 6, 2) := by decide +kernel
theorem dL_law_222 : decode cL_law 222 = .ok (.i2l, 1) := by decide +kernel
theorem dL_law_223 : decode cL_law 223 = .ok (.lcmp, 1) := by decide +kernel
theorem dL_law_224 : decode cL_law 224 = .ok (.ifCond .eq 5, 3) := by decide +kernel
theorem dL_law_227 : decode cL_law 227 = .ok (.iconst 0, 1) := by decide +kernel
theorem dL_law_228 : decode cL_law 228 = .ok (.ireturn, 1) := by decide +kernel
theorem dL_law_229 : decode cL_law 229 = .ok (.goto 1105, 3) := by decide +kernel
theorem dL_law_232 : decode cL_law 232 = .ok (.aload_n 1, 1) := by decide +kernel
theorem dL_law_233 : decode cL_law 233 = .ok (.invokestatic 88, 3) := by decide +kernel
theorem dL_law_236 : decode cL_law 236 = .ok (.istore 5, 2) := by decide +kernel
theorem dL_law_238 : decode cL_law 238 = .ok (.aload_n 2, 1) := by decide +kernel
theorem dL_law_239 : decode cL_law 239 = .ok (.invokevirtual 91, 3) := by decide +kernel
theorem dL_law_242 : decode cL_law 242 = .ok (.aload_n 2, 1) := by decide +kernel
theorem dL_law_243 : decode cL_law 243 = .ok (.invokevirtual 84, 3) := by decide +kernel
theorem dL_law_246 : decode cL_law 246 = .ok (.iload 5, 2) := by decide +kernel
theorem dL_law_248 : decode cL_law 248 = .ok (.if_icmp .eq 5, 3) := by decide +kernel
theorem dL_law_251 : decode cL_law 251 = .ok (.iconst 0, 1) := by decide +kernel
theorem dL_law_252 : decode cL_law 252 = .ok (.ireturn, 1) := by decide +kernel
theorem dL_law_253 : decode cL_law 253 = .ok (.goto 1081, 3) := by decide +kernel
theorem dL_law_256 : decode cL_law 256 = .ok (.aload_n 1, 1) := by decide +kernel
theorem dL_law_257 : decode cL_law 257 = .ok (.invokevirtual 92, 3) := by decide +kernel
theorem dL_law_260 : decode cL_law 260 = .ok (.aload_n 2, 1) := by decide +kernel
theorem dL_law_261 : decode cL_law 261 = .ok (.invokevirtual 95, 3) := by decide +kernel
theorem dL_law_264 : decode cL_law 264 = .ok (.if_icmp .eq 1070, 3) := by decide +kernel
theorem dL_law_267 : decode cL_law 267 = .ok (.iconst 0, 1) := by decide +kernel
theorem dL_law_268 : decode cL_law 268 = .ok (.ireturn, 1) := by decide +kernel
theorem dL_law_269 : decode cL_law 269 = .ok (.aload_n 1, 1) := by decide +kernel
theorem dL_law_270 : decode cL_law 270 = .ok (.aload_n 0, 1) := by decide +kernel
theorem dL_law_271 : decode cL_law 271 = .ok (.iload 4, 2) := by decide +kernel
theorem dL_law_273 : decode cL_law 273 = .ok (.iconst 1, 1) := by decide +kernel
theorem dL_law_274 : decode cL_law 274 = .ok (.iadd, 1) := by decide +kernel
theorem dL_law_275 : decode cL_law 275 = .ok (.iaload, 1) := by decide +kernel
theorem dL_law_276 : decode cL_law 276 = .ok (.invokestatic 96, 3) := by decide +kernel
theorem dL_law_279 : decode cL_law 279 = .ok (.istore 5, 2) := by decide +kernel
theorem dL_law_281 : decode cL_law 281 = .ok (.aload_n 2, 1) := by decide +kernel
theorem dL_law_282 : decode cL_law 282 = .ok (.aload_n 0, 1) := by decide +kernel
theorem dL_law_283 : decode cL_law 283 = .ok (.iload 4, 2) := by decide +kernel
theorem dL_law_285 : decode cL_law 285 = .ok (.iconst 1, 1) := by decide +kernel
theorem dL_law_286 : decode cL_law 286 = .ok (.iadd, 1) := by decide +kernel
theorem dL_law_287 : decode cL_law 287 = .ok (.iaload, 1) := by decide +kernel
theorem dL_law_288 : decode cL_law 288 = .ok (.invokevirtual 99, 3) := by decide +kernel
theorem dL_law_291 : decode cL_law 291 = .ok (.aload_n 2, 1) := by decide +kernel
theorem dL_law_292 : decode cL_law 292 = .ok (.invokevirtual 84, 3) := by decide +kernel
theorem dL_law_295 : decode cL_law 295 = .ok (.iload 5, 2) := by decide +kernel
theorem dL_law_297 : decode cL_law 297 = .ok (.if_icmp .eq 5, 3) := by decide +kernel
theorem dL_law_300 : decode cL_law 300 = .ok (.iconst 0, 1) := by decide +kernel
theorem dL_law_301 : decode cL_law 301 = .ok (.ireturn, 1) := by decide +kernel
theorem dL_law_302 : decode cL_law 302 = .ok (.goto 1032, 3) := by decide +kernel
theorem dL_law_305 : decode cL_law 305 = .ok (.aload_n 1, 1) := by decide +kernel
theorem dL_law_306 : decode cL_law 306 = .ok (.aload_n 0, 1) := by decide +kernel
theorem dL_law_307 : decode cL_law 307 = .ok (.iload 4, 2) := by decide +kernel
theorem dL_law_309 : decode cL_law 309 = .ok (.iconst 1, 1) := by decide +kernel
theorem dL_law_310 : decode cL_law 310 = .ok (.iadd, 1) := by decide +kernel
theorem dL_law_311 : decode cL_law 311 = .ok (.iaload, 1) := by decide +kernel
theorem dL_law_312 : decode cL_law 312 = .ok (.aload_n 0, 1) := by decide +kernel
theorem dL_law_313 : decode cL_law 313 = .ok (.iload 4, 2) := by decide +kernel
theorem dL_law_315 : decode cL_law 315 = .ok (.iconst 2, 1) := by decide +kernel
theorem dL_law_316 : decode cL_law 316 = .ok (.iadd, 1) := by decide +kernel
theorem dL_law_317 : decode cL_law 317 = .ok (.iaload, 1) := by decide +kernel
theorem dL_law_318 : decode cL_law 318 = .ok (.aload_n 0, 1) := by decide +kernel
theorem dL_law_319 : decode cL_law 319 = .ok (.iload 4, 2) := by decide +kernel
theorem dL_law_321 : decode cL_law 321 = .ok (.iconst 3, 1) := by decide +kernel
theorem dL_law_322 : decode cL_law 322 = .ok (.iadd, 1) := by decide +kernel
theorem dL_law_323 : decode cL_law 323 = .ok (.iaload, 1) := by decide +kernel
theorem dL_law_324 : decode cL_law 324 = .ok (.invokestatic 100, 3) := by decide +kernel
theorem dL_law_327 : decode cL_law 327 = .ok (.istore 5, 2) := by decide +kernel
theorem dL_law_329 : decode cL_law 329 = .ok (.aload_n 2, 1) := by decide +kernel
theorem dL_law_330 : decode cL_law 330 = .ok (.aload_n 0, 1) := by decide +kernel
theorem dL_law_331 : decode cL_law 331 = .ok (.iload 4, 2) := by decide +kernel
theorem dL_law_333 : decode cL_law 333 = .ok (.iconst 1, 1) := by decide +kernel
theorem dL_law_334 : decode cL_law 334 = .ok (.iadd, 1) := by decide +kernel
theorem dL_law_335 : decode cL_law 335 = .ok (.iaload, 1) := by decide +kernel
theorem dL_law_336 : decode cL_law 336 = .ok (.aload_n 0, 1) := by decide +kernel
theorem dL_law_337 : decode cL_law 337 = .ok (.iload 4, 2) := by decide +kernel
theorem dL_law_339 : decode cL_law 339 = .ok (.iconst 2, 1) := by decide +kernel
theorem dL_law_340 : decode cL_law 340 = .ok (.iadd, 1) := by decide +kernel
theorem dL_law_341 : decode cL_law 341 = .ok (.iaload, 1) := by decide +kernel
theorem dL_law_342 : decode cL_law 342 = .ok (.aload_n 0, 1) := by decide +kernel
theorem dL_law_343 : decode cL_law 343 = .ok (.iload 4, 2) := by decide +kernel
theorem dL_law_345 : decode cL_law 345 = .ok (.iconst 3, 1) := by decide +kernel
theorem dL_law_346 : decode cL_law 346 = .ok (.iadd, 1) := by decide +kernel
theorem dL_law_347 : decode cL_law 347 = .ok (.iaload, 1) := by decide +kernel
theorem dL_law_348 : decode cL_law 348 = .ok (.invokevirtual 103, 3) := by decide +kernel
theorem dL_law_351 : decode cL_law 351 = .ok (.aload_n 2, 1) := by decide +kernel
theorem dL_law_352 : decode cL_law 352 = .ok (.invokevirtual 84, 3) := by decide +kernel
theorem dL_law_355 : decode cL_law 355 = .ok (.iload 5, 2) := by decide +kernel
theorem dL_law_357 : decode cL_law 357 = .ok (.if_icmp .eq 5, 3) := by decide +kernel
theorem dL_law_360 : decode cL_law 360 = .ok (.iconst 0, 1) := by decide +kernel
theorem dL_law_361 : decode cL_law 361 = .ok (.ireturn, 1) := by decide +kernel
theorem dL_law_362 : decode cL_law 362 = .ok (.goto 972, 3) := by decide +kernel
theorem dL_law_365 : decode cL_law 365 = .ok (.aload_n 1, 1) := by decide +kernel
theorem dL_law_366 : decode cL_law 366 = .ok (.aload_n 0, 1) := by decide +kernel
theorem dL_law_367 : decode cL_law 367 = .ok (.iload 4, 2) := by decide +kernel
theorem dL_law_369 : decode cL_law 369 = .ok (.iconst 1, 1) := by decide +kernel
theorem dL_law_370 : decode cL_law 370 = .ok (.iadd, 1) := by decide +kernel
theorem dL_law_371 : decode cL_law 371 = .ok (.iaload, 1) := by decide +kernel
theorem dL_law_372 : decode cL_law 372 = .ok (.aload_n 0, 1) := by decide +kernel
theorem dL_law_373 : decode cL_law 373 = .ok (.iload 4, 2) := by decide +kernel
theorem dL_law_375 : decode cL_law 375 = .ok (.iconst 2, 1) := by decide +kernel
theorem dL_law_376 : decode cL_law 376 = .ok (.iadd, 1) := by decide +kernel
theorem dL_law_377 : decode cL_law 377 = .ok (.iaload, 1) := by decide +kernel
theorem dL_law_378 : decode cL_law 378 = .ok (.aload_n 0, 1) := by decide +kernel
theorem dL_law_379 : decode cL_law 379 = .ok (.iload 4, 2) := by decide +kernel
theorem dL_law_381 : decode cL_law 381 = .ok (.iconst 3, 1) := by decide +kernel
theorem dL_law_382 : decode cL_law 382 = .ok (.iadd, 1) := by decide +kernel
theorem dL_law_383 : decode cL_law 383 = .ok (.iaload, 1) := by decide +kernel
theorem dL_law_384 : decode cL_law 384 = .ok (.aload_n 0, 1) := by decide +kernel
theorem dL_law_385 : decode cL_law 385 = .ok (.iload 4, 2) := by decide +kernel
theorem dL_law_387 : decode cL_law 387 = .ok (.iconst 4, 1) := by decide +kernel
theorem dL_law_388 : decode cL_law 388 = .ok (.iadd, 1) := by decide +kernel
theorem dL_law_389 : decode cL_law 389 = .ok (.iaload, 1) := by decide +kernel
theorem dL_law_390 : decode cL_law 390 = .ok (.invokestatic 104, 3) := by decide +kernel
theorem dL_law_393 : decode cL_law 393 = .ok (.istore 5, 2) := by decide +kernel
theorem dL_law_395 : decode cL_law 395 = .ok (.aload_n 2, 1) := by decide +kernel
theorem dL_law_396 : decode cL_law 396 = .ok (.aload_n 0, 1) := by decide +kernel
theorem dL_law_397 : decode cL_law 397 = .ok (.iload 4, 2) := by decide +kernel
theorem dL_law_399 : decode cL_law 399 = .ok (.iconst 1, 1) := by decide +kernel
theorem dL_law_400 : decode cL_law 400 = .ok (.iadd, 1) := by decide +kernel
theorem dL_law_401 : decode cL_law 401 = .ok (.iaload, 1) := by decide +kernel
theorem dL_law_402 : decode cL_law 402 = .ok (.aload_n 0, 1) := by decide +kernel
theorem dL_law_403 : decode cL_law 403 = .ok (.iload 4, 2) := by decide +kernel
theorem dL_law_405 : decode cL_law 405 = .ok (.iconst 2, 1) := by decide +kernel
theorem dL_law_406 : decode cL_law 406 = .ok (.iadd, 1) := by decide +kernel
theorem dL_law_407 : decode cL_law 407 = .ok (.iaload, 1) := by decide +kernel
theorem dL_law_408 : decode cL_law 408 = .ok (.aload_n 0, 1) := by decide +kernel
theorem dL_law_409 : decode cL_law 409 = .ok (.iload 4, 2) := by decide +kernel
theorem dL_law_411 : decode cL_law 411 = .ok (.iconst 3, 1) := by decide +kernel
theorem dL_law_412 : decode cL_law 412 = .ok (.iadd, 1) := by decide +kernel
theorem dL_law_413 : decode cL_law 413 = .ok (.iaload, 1) := by decide +kernel
theorem dL_law_414 : decode cL_law 414 = .ok (.aload_n 0, 1) := by decide +kernel
theorem dL_law_415 : decode cL_law 415 = .ok (.iload 4, 2) := by decide +kernel
theorem dL_law_417 : decode cL_law 417 = .ok (.iconst 4, 1) := by decide +kernel
theorem dL_law_418 : decode cL_law 418 = .ok (.iadd, 1) := by decide +kernel
theorem dL_law_419 : decode cL_law 419 = .ok (.iaload, 1) := by decide +kernel
theorem dL_law_420 : decode cL_law 420 = .ok (.invokevirtual 107, 3) := by decide +kernel
theorem dL_law_423 : decode cL_law 423 = .ok (.aload_n 2, 1) := by decide +kernel
theorem dL_law_424 : decode cL_law 424 = .ok (.invokevirtual 84, 3) := by decide +kernel
theorem dL_law_427 : decode cL_law 427 = .ok (.iload 5, 2) := by decide +kernel
theorem dL_law_429 : decode cL_law 429 = .ok (.if_icmp .eq 5, 3) := by decide +kernel
theorem dL_law_432 : decode cL_law 432 = .ok (.iconst 0, 1) := by decide +kernel
theorem dL_law_433 : decode cL_law 433 = .ok (.ireturn, 1) := by decide +kernel
theorem dL_law_434 : decode cL_law 434 = .ok (.goto 900, 3) := by decide +kernel
theorem dL_law_437 : decode cL_law 437 = .ok (.aload_n 1, 1) := by decide +kernel
