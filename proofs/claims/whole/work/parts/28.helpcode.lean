theorem dL_row_0 : decode cL_row 0 = .ok (.aload 6, 2) := by decide +kernel
theorem dL_row_2 : decode cL_row 2 = .ok (.iconst 0, 1) := by decide +kernel
theorem dL_row_3 : decode cL_row 3 = .ok (.aload_n 0, 1) := by decide +kernel
theorem dL_row_4 : decode cL_row 4 = .ok (.iload_n 1, 1) := by decide +kernel
theorem dL_row_5 : decode cL_row 5 = .ok (.iload_n 2, 1) := by decide +kernel
theorem dL_row_6 : decode cL_row 6 = .ok (.iload_n 3, 1) := by decide +kernel
theorem dL_row_7 : decode cL_row 7 = .ok (.iload 4, 2) := by decide +kernel
theorem dL_row_9 : decode cL_row 9 = .ok (.iload 5, 2) := by decide +kernel
theorem dL_row_11 : decode cL_row 11 = .ok (.invokevirtual 7, 3) := by decide +kernel
theorem dL_row_14 : decode cL_row 14 = .ok (.i2l, 1) := by decide +kernel
theorem dL_row_15 : decode cL_row 15 = .ok (.lastore, 1) := by decide +kernel
theorem dL_row_16 : decode cL_row 16 = .ok (.goto 11, 3) := by decide +kernel
theorem dL_row_19 : decode cL_row 19 = .ok (.astore 7, 2) := by decide +kernel
theorem dL_row_21 : decode cL_row 21 = .ok (.iconst 1, 1) := by decide +kernel
theorem dL_row_22 : decode cL_row 22 = .ok (.ireturn, 1) := by decide +kernel
theorem dL_row_23 : decode cL_row 23 = .ok (.astore 7, 2) := by decide +kernel
theorem dL_row_25 : decode cL_row 25 = .ok (.iconst 2, 1) := by decide +kernel
theorem dL_row_26 : decode cL_row 26 = .ok (.ireturn, 1) := by decide +kernel
theorem dL_row_27 : decode cL_row 27 = .ok (.iconst 0, 1) := by decide +kernel
theorem dL_row_28 : decode cL_row 28 = .ok (.ireturn, 1) := by decide +kernel
theorem dL_undo_0 : decode cL_undo 0 = .ok (.aload_n 0, 1) := by decide +kernel
theorem dL_undo_1 : decode cL_undo 1 = .ok (.invokevirtual 17, 3) := by decide +kernel
theorem dL_undo_4 : decode cL_undo 4 = .ok (.goto 6, 3) := by decide +kernel
theorem dL_undo_7 : decode cL_undo 7 = .ok (.astore_n 1, 1) := by decide +kernel
theorem dL_undo_8 : decode cL_undo 8 = .ok (.iconst 1, 1) := by decide +kernel
theorem dL_undo_9 : decode cL_undo 9 = .ok (.ireturn, 1) := by decide +kernel
theorem dL_undo_10 : decode cL_undo 10 = .ok (.iconst 0, 1) := by decide +kernel
theorem dL_undo_11 : decode cL_undo 11 = .ok (.ireturn, 1) := by decide +kernel
theorem dL_quota_0 : decode cL_quota 0 = .ok (.aload_n 0, 1) := by decide +kernel
theorem dL_quota_1 : decode cL_quota 1 = .ok (.iload_n 1, 1) := by decide +kernel
theorem dL_quota_2 : decode cL_quota 2 = .ok (.invokevirtual 20, 3) := by decide +kernel
theorem dL_quota_5 : decode cL_quota 5 = .ok (.goto 9, 3) := by decide +kernel
theorem dL_quota_8 : decode cL_quota 8 = .ok (.astore_n 2, 1) := by decide +kernel
theorem dL_quota_9 : decode cL_quota 9 = .ok (.iconst 1, 1) := by decide +kernel
theorem dL_quota_10 : decode cL_quota 10 = .ok (.ireturn, 1) := by decide +kernel
theorem dL_quota_11 : decode cL_quota 11 = .ok (.astore_n 2, 1) := by decide +kernel
theorem dL_quota_12 : decode cL_quota 12 = .ok (.iconst 2, 1) := by decide +kernel
theorem dL_quota_13 : decode cL_quota 13 = .ok (.ireturn, 1) := by decide +kernel
theorem dL_quota_14 : decode cL_quota 14 = .ok (.iconst 0, 1) := by decide +kernel
theorem dL_quota_15 : decode cL_quota 15 = .ok (.ireturn, 1) := by decide +kernel
theorem dL_terms_0 : decode cL_terms 0 = .ok (.aload_n 0, 1) := by decide +kernel
theorem dL_terms_1 : decode cL_terms 1 = .ok (.iload_n 1, 1) := by decide +kernel
theorem dL_terms_2 : decode cL_terms 2 = .ok (.iload_n 2, 1) := by decide +kernel
theorem dL_terms_3 : decode cL_terms 3 = .ok (.iload_n 3, 1) := by decide +kernel
theorem dL_terms_4 : decode cL_terms 4 = .ok (.invokevirtual 24, 3) := by decide +kernel
theorem dL_terms_7 : decode cL_terms 7 = .ok (.goto 11, 3) := by decide +kernel
theorem dL_terms_10 : decode cL_terms 10 = .ok (.astore 4, 2) := by decide +kernel
theorem dL_terms_12 : decode cL_terms 12 = .ok (.iconst 1, 1) := by decide +kernel
theorem dL_terms_13 : decode cL_terms 13 = .ok (.ireturn, 1) := by decide +kernel
theorem dL_terms_14 : decode cL_terms 14 = .ok (.astore 4, 2) := by decide +kernel
theorem dL_terms_16 : decode cL_terms 16 = .ok (.iconst 2, 1) := by decide +kernel
theorem dL_terms_17 : decode cL_terms 17 = .ok (.ireturn, 1) := by decide +kernel
theorem dL_terms_18 : decode cL_terms 18 = .ok (.iconst 0, 1) := by decide +kernel
theorem dL_terms_19 : decode cL_terms 19 = .ok (.ireturn, 1) := by decide +kernel
theorem dL_layer_0 : decode cL_layer 0 = .ok (.aload_n 0, 1) := by decide +kernel
theorem dL_layer_1 : decode cL_layer 1 = .ok (.iload_n 1, 1) := by decide +kernel
theorem dL_layer_2 : decode cL_layer 2 = .ok (.iload_n 2, 1) := by decide +kernel
theorem dL_layer_3 : decode cL_layer 3 = .ok (.iload_n 3, 1) := by decide +kernel
theorem dL_layer_4 : decode cL_layer 4 = .ok (.iload 4, 2) := by decide +kernel
theorem dL_layer_6 : decode cL_layer 6 = .ok (.invokevirtual 28, 3) := by decide +kernel
theorem dL_layer_9 : decode cL_layer 9 = .ok (.goto 11, 3) := by decide +kernel
theorem dL_layer_12 : decode cL_layer 12 = .ok (.astore 5, 2) := by decide +kernel
theorem dL_layer_14 : decode cL_layer 14 = .ok (.iconst 1, 1) := by decide +kernel
theorem dL_layer_15 : decode cL_layer 15 = .ok (.ireturn, 1) := by decide +kernel
theorem dL_layer_16 : decode cL_layer 16 = .ok (.astore 5, 2) := by decide +kernel
theorem dL_layer_18 : decode cL_layer 18 = .ok (.iconst 2, 1) := by decide +kernel
theorem dL_layer_19 : decode cL_layer 19 = .ok (.ireturn, 1) := by decide +kernel
theorem dL_layer_20 : decode cL_layer 20 = .ok (.iconst 0, 1) := by decide +kernel
theorem dL_layer_21 : decode cL_layer 21 = .ok (.ireturn, 1) := by decide +kernel
theorem dL_bind_0 : decode cL_bind 0 = .ok (.aload 6, 2) := by decide +kernel
theorem dL_bind_2 : decode cL_bind 2 = .ok (.iconst 0, 1) := by decide +kernel
theorem dL_bind_3 : decode cL_bind 3 = .ok (.aload_n 0, 1) := by decide +kernel
theorem dL_bind_4 : decode cL_bind 4 = .ok (.iload_n 1, 1) := by decide +kernel
theorem dL_bind_5 : decode cL_bind 5 = .ok (.iload_n 2, 1) := by decide +kernel
theorem dL_bind_6 : decode cL_bind 6 = .ok (.iload_n 3, 1) := by decide +kernel
theorem dL_bind_7 : decode cL_bind 7 = .ok (.iload 4, 2) := by decide +kernel
theorem dL_bind_9 : decode cL_bind 9 = .ok (.iload 5, 2) := by decide +kernel
theorem dL_bind_11 : decode cL_bind 11 = .ok (.invokevirtual 32, 3) := by decide +kernel
theorem dL_bind_14 : decode cL_bind 14 = .ok (.i2l, 1) := by decide +kernel
theorem dL_bind_15 : decode cL_bind 15 = .ok (.lastore, 1) := by decide +kernel
theorem dL_bind_16 : decode cL_bind 16 = .ok (.goto 15, 3) := by decide +kernel
theorem dL_bind_19 : decode cL_bind 19 = .ok (.astore 7, 2) := by decide +kernel
theorem dL_bind_21 : decode cL_bind 21 = .ok (.iconst 1, 1) := by decide +kernel
theorem dL_bind_22 : decode cL_bind 22 = .ok (.ireturn, 1) := by decide +kernel
theorem dL_bind_23 : decode cL_bind 23 = .ok (.astore 7, 2) := by decide +kernel
theorem dL_bind_25 : decode cL_bind 25 = .ok (.iconst 2, 1) := by decide +kernel
theorem dL_bind_26 : decode cL_bind 26 = .ok (.ireturn, 1) := by decide +kernel
theorem dL_bind_27 : decode cL_bind 27 = .ok (.astore 7, 2) := by decide +kernel
theorem dL_bind_29 : decode cL_bind 29 = .ok (.iconst 3, 1) := by decide +kernel
theorem dL_bind_30 : decode cL_bind 30 = .ok (.ireturn, 1) := by decide +kernel
theorem dL_bind_31 : decode cL_bind 31 = .ok (.iconst 0, 1) := by decide +kernel
theorem dL_bind_32 : decode cL_bind 32 = .ok (.ireturn, 1) := by decide +kernel
theorem dL_change_0 : decode cL_change 0 = .ok (.aload 5, 2) := by decide +kernel
theorem dL_change_2 : decode cL_change 2 = .ok (.iconst 0, 1) := by decide +kernel
theorem dL_change_3 : decode cL_change 3 = .ok (.aload_n 0, 1) := by decide +kernel
theorem dL_change_4 : decode cL_change 4 = .ok (.iload_n 1, 1) := by decide +kernel
theorem dL_change_5 : decode cL_change 5 = .ok (.iload_n 2, 1) := by decide +kernel
theorem dL_change_6 : decode cL_change 6 = .ok (.iload_n 3, 1) := by decide +kernel
theorem dL_change_7 : decode cL_change 7 = .ok (.iload 4, 2) := by decide +kernel
theorem dL_change_9 : decode cL_change 9 = .ok (.invokevirtual 37, 3) := by decide +kernel
theorem dL_change_12 : decode cL_change 12 = .ok (.i2l, 1) := by decide +kernel
theorem dL_change_13 : decode cL_change 13 = .ok (.lastore, 1) := by decide +kernel
theorem dL_change_14 : decode cL_change 14 = .ok (.goto 19, 3) := by decide +kernel
theorem dL_change_17 : decode cL_change 17 = .ok (.astore 6, 2) := by decide +kernel
theorem dL_change_19 : decode cL_change 19 = .ok (.iconst 1, 1) := by decide +kernel
theorem dL_change_20 : decode cL_change 20 = .ok (.ireturn, 1) := by decide +kernel
theorem dL_change_21 : decode cL_change 21 = .ok (.astore 6, 2) := by decide +kernel
theorem dL_change_23 : decode cL_change 23 = .ok (.iconst 2, 1) := by decide +kernel
theorem dL_change_24 : decode cL_change 24 = .ok (.ireturn, 1) := by decide +kernel
theorem dL_change_25 : decode cL_change 25 = .ok (.astore 6, 2) := by decide +kernel
theorem dL_change_27 : decode cL_change 27 = .ok (.iconst 3, 1) := by decide +kernel
theorem dL_change_28 : decode cL_change 28 = .ok (.ireturn, 1) := by decide +kernel
theorem dL_change_29 : decode cL_change 29 = .ok (.astore 6, 2) := by decide +kernel
theorem dL_change_31 : decode cL_change 31 = .ok (.iconst 4, 1) := by decide +kernel
theorem dL_change_32 : decode cL_change 32 = .ok (.ireturn, 1) := by decide +kernel
theorem dL_change_33 : decode cL_change 33 = .ok (.iconst 0, 1) := by decide +kernel
theorem dL_change_34 : decode cL_change 34 = .ok (.ireturn, 1) := by decide +kernel
theorem dL_cancel_0 : decode cL_cancel 0 = .ok (.aload 4, 2) := by decide +kernel
theorem dL_cancel_2 : decode cL_cancel 2 = .ok (.iconst 0, 1) := by decide +kernel
theorem dL_cancel_3 : decode cL_cancel 3 = .ok (.aload_n 0, 1) := by decide +kernel
theorem dL_cancel_4 : decode cL_cancel 4 = .ok (.iload_n 1, 1) := by decide +kernel
theorem dL_cancel_5 : decode cL_cancel 5 = .ok (.iload_n 2, 1) := by decide +kernel
theorem dL_cancel_6 : decode cL_cancel 6 = .ok (.iload_n 3, 1) := by decide +kernel
theorem dL_cancel_7 : decode cL_cancel 7 = .ok (.invokevirtual 43, 3) := by decide +kernel
theorem dL_cancel_10 : decode cL_cancel 10 = .ok (.i2l, 1) := by decide +kernel
theorem dL_cancel_11 : decode cL_cancel 11 = .ok (.lastore, 1) := by decide +kernel
theorem dL_cancel_12 : decode cL_cancel 12 = .ok (.goto 19, 3) := by decide +kernel
theorem dL_cancel_15 : decode cL_cancel 15 = .ok (.astore 5, 2) := by decide +kernel
theorem dL_cancel_17 : decode cL_cancel 17 = .ok (.iconst 1, 1) := by decide +kernel
theorem dL_cancel_18 : decode cL_cancel 18 = .ok (.ireturn, 1) := by decide +kernel
theorem dL_cancel_19 : decode cL_cancel 19 = .ok (.astore 5, 2) := by decide +kernel
theorem dL_cancel_21 : decode cL_cancel 21 = .ok (.iconst 2, 1) := by decide +kernel
theorem dL_cancel_22 : decode cL_cancel 22 = .ok (.ireturn, 1) := by decide +kernel
theorem dL_cancel_23 : decode cL_cancel 23 = .ok (.astore 5, 2) := by decide +kernel
theorem dL_cancel_25 : decode cL_cancel 25 = .ok (.iconst 3, 1) := by decide +kernel
theorem dL_cancel_26 : decode cL_cancel 26 = .ok (.ireturn, 1) := by decide +kernel
theorem dL_cancel_27 : decode cL_cancel 27 = .ok (.astore 5, 2) := by decide +kernel
theorem dL_cancel_29 : decode cL_cancel 29 = .ok (.iconst 4, 1) := by decide +kernel
theorem dL_cancel_30 : decode cL_cancel 30 = .ok (.ireturn, 1) := by decide +kernel
theorem dL_cancel_31 : decode cL_cancel 31 = .ok (.iconst 0, 1) := by decide +kernel
theorem dL_cancel_32 : decode cL_cancel 32 = .ok (.ireturn, 1) := by decide +kernel
theorem dL_reinstate_0 : decode cL_reinstate 0 = .ok (.aload_n 3, 1) := by decide +kernel
theorem dL_reinstate_1 : decode cL_reinstate 1 = .ok (.iconst 0, 1) := by decide +kernel
theorem dL_reinstate_2 : decode cL_reinstate 2 = .ok (.aload_n 0, 1) := by decide +kernel
theorem dL_reinstate_3 : decode cL_reinstate 3 = .ok (.iload_n 1, 1) := by decide +kernel
theorem dL_reinstate_4 : decode cL_reinstate 4 = .ok (.iload_n 2, 1) := by decide +kernel
theorem dL_reinstate_5 : decode cL_reinstate 5 = .ok (.invokevirtual 47, 3) := by decide +kernel
theorem dL_reinstate_8 : decode cL_reinstate 8 = .ok (.i2l, 1) := by decide +kernel
theorem dL_reinstate_9 : decode cL_reinstate 9 = .ok (.lastore, 1) := by decide +kernel
theorem dL_reinstate_10 : decode cL_reinstate 10 = .ok (.goto 19, 3) := by decide +kernel
theorem dL_reinstate_13 : decode cL_reinstate 13 = .ok (.astore 4, 2) := by decide +kernel
theorem dL_reinstate_15 : decode cL_reinstate 15 = .ok (.iconst 1, 1) := by decide +kernel
theorem dL_reinstate_16 : decode cL_reinstate 16 = .ok (.ireturn, 1) := by decide +kernel
theorem dL_reinstate_17 : decode cL_reinstate 17 = .ok (.astore 4, 2) := by decide +kernel
theorem dL_reinstate_19 : decode cL_reinstate 19 = .ok (.iconst 2, 1) := by decide +kernel
theorem dL_reinstate_20 : decode cL_reinstate 20 = .ok (.ireturn, 1) := by decide +kernel
theorem dL_reinstate_21 : decode cL_reinstate 21 = .ok (.astore 4, 2) := by decide +kernel
theorem dL_reinstate_23 : decode cL_reinstate 23 = .ok (.iconst 3, 1) := by decide +kernel
theorem dL_reinstate_24 : decode cL_reinstate 24 = .ok (.ireturn, 1) := by decide +kernel
theorem dL_reinstate_25 : decode cL_reinstate 25 = .ok (.astore 4, 2) := by decide +kernel
theorem dL_reinstate_27 : decode cL_reinstate 27 = .ok (.iconst 4, 1) := by decide +kernel
theorem dL_reinstate_28 : decode cL_reinstate 28 = .ok (.ireturn, 1) := by decide +kernel
theorem dL_reinstate_29 : decode cL_reinstate 29 = .ok (.iconst 0, 1) := by decide +kernel
theorem dL_reinstate_30 : decode cL_reinstate 30 = .ok (.ireturn, 1) := by decide +kernel
theorem dL_claim_0 : decode cL_claim 0 = .ok (.aload 4, 2) := by decide +kernel
theorem dL_claim_2 : decode cL_claim 2 = .ok (.iconst 0, 1) := by decide +kernel
theorem dL_claim_3 : decode cL_claim 3 = .ok (.aload_n 0, 1) := by decide +kernel
theorem dL_claim_4 : decode cL_claim 4 = .ok (.iload_n 1, 1) := by decide +kernel
theorem dL_claim_5 : decode cL_claim 5 = .ok (.iload_n 2, 1) := by decide +kernel
theorem dL_claim_6 : decode cL_claim 6 = .ok (.iload_n 3, 1) := by decide +kernel
theorem dL_claim_7 : decode cL_claim 7 = .ok (.invokevirtual 51, 3) := by decide +kernel
theorem dL_claim_10 : decode cL_claim 10 = .ok (.i2l, 1) := by decide +kernel
theorem dL_claim_11 : decode cL_claim 11 = .ok (.lastore, 1) := by decide +kernel
theorem dL_claim_12 : decode cL_claim 12 = .ok (.goto 19, 3) := by decide +kernel
theorem dL_claim_15 : decode cL_claim 15 = .ok (.astore 5, 2) := by decide +kernel
theorem dL_claim_17 : decode cL_claim 17 = .ok (.iconst 1, 1) := by decide +kernel
theorem dL_claim_18 : decode cL_claim 18 = .ok (.ireturn, 1) := by decide +kernel
theorem dL_claim_19 : decode cL_claim 19 = .ok (.astore 5, 2) := by decide +kernel
theorem dL_claim_21 : decode cL_claim 21 = .ok (.iconst 2, 1) := by decide +kernel
theorem dL_claim_22 : decode cL_claim 22 = .ok (.ireturn, 1) := by decide +kernel
theorem dL_claim_23 : decode cL_claim 23 = .ok (.astore 5, 2) := by decide +kernel
theorem dL_claim_25 : decode cL_claim 25 = .ok (.iconst 3, 1) := by decide +kernel
theorem dL_claim_26 : decode cL_claim 26 = .ok (.ireturn, 1) := by decide +kernel
theorem dL_claim_27 : decode cL_claim 27 = .ok (.astore 5, 2) := by decide +kernel
theorem dL_claim_29 : decode cL_claim 29 = .ok (.iconst 4, 1) := by decide +kernel
theorem dL_claim_30 : decode cL_claim 30 = .ok (.ireturn, 1) := by decide +kernel
theorem dL_claim_31 : decode cL_claim 31 = .ok (.iconst 0, 1) := by decide +kernel
theorem dL_claim_32 : decode cL_claim 32 = .ok (.ireturn, 1) := by decide +kernel
theorem dL_fact_0 : decode cL_fact 0 = .ok (.aload 5, 2) := by decide +kernel
theorem dL_fact_2 : decode cL_fact 2 = .ok (.iconst 0, 1) := by decide +kernel
theorem dL_fact_3 : decode cL_fact 3 = .ok (.aload_n 0, 1) := by decide +kernel
theorem dL_fact_4 : decode cL_fact 4 = .ok (.iload_n 1, 1) := by decide +kernel
theorem dL_fact_5 : decode cL_fact 5 = .ok (.iload_n 2, 1) := by decide +kernel
theorem dL_fact_6 : decode cL_fact 6 = .ok (.iload_n 3, 1) := by decide +kernel
theorem dL_fact_7 : decode cL_fact 7 = .ok (.iload 4, 2) := by decide +kernel
theorem dL_fact_9 : decode cL_fact 9 = .ok (.invokevirtual 55, 3) := by decide +kernel
theorem dL_fact_12 : decode cL_fact 12 = .ok (.i2l, 1) := by decide +kernel
theorem dL_fact_13 : decode cL_fact 13 = .ok (.lastore, 1) := by decide +kernel
theorem dL_fact_14 : decode cL_fact 14 = .ok (.goto 7, 3) := by decide +kernel
theorem dL_fact_17 : decode cL_fact 17 = .ok (.astore 6, 2) := by decide +kernel
theorem dL_fact_19 : decode cL_fact 19 = .ok (.iconst 1, 1) := by decide +kernel
theorem dL_fact_20 : decode cL_fact 20 = .ok (.ireturn, 1) := by decide +kernel
theorem dL_fact_21 : decode cL_fact 21 = .ok (.iconst 0, 1) := by decide +kernel
theorem dL_fact_22 : decode cL_fact 22 = .ok (.ireturn, 1) := by decide +kernel
theorem dL_written_0 : decode cL_written 0 = .ok (.aload_n 3, 1) := by decide +kernel
theorem dL_written_1 : decode cL_written 1 = .ok (.iconst 0, 1) := by decide +kernel
theorem dL_written_2 : decode cL_written 2 = .ok (.aload_n 0, 1) := by decide +kernel
theorem dL_written_3 : decode cL_written 3 = .ok (.iload_n 1, 1) := by decide +kernel
theorem dL_written_4 : decode cL_written 4 = .ok (.iload_n 2, 1) := by decide +kernel
theorem dL_written_5 : decode cL_written 5 = .ok (.invokevirtual 58, 3) := by decide +kernel
theorem dL_written_8 : decode cL_written 8 = .ok (.i2l, 1) := by decide +kernel
theorem dL_written_9 : decode cL_written 9 = .ok (.lastore, 1) := by decide +kernel
theorem dL_written_10 : decode cL_written 10 = .ok (.goto 7, 3) := by decide +kernel
theorem dL_written_13 : decode cL_written 13 = .ok (.astore 4, 2) := by decide +kernel
theorem dL_written_15 : decode cL_written 15 = .ok (.iconst 1, 1) := by decide +kernel
theorem dL_written_16 : decode cL_written 16 = .ok (.ireturn, 1) := by decide +kernel
theorem dL_written_17 : decode cL_written 17 = .ok (.iconst 0, 1) := by decide +kernel
theorem dL_written_18 : decode cL_written 18 = .ok (.ireturn, 1) := by decide +kernel
theorem dL_earned_0 : decode cL_earned 0 = .ok (.aload 4, 2) := by decide +kernel
theorem dL_earned_2 : decode cL_earned 2 = .ok (.iconst 0, 1) := by decide +kernel
theorem dL_earned_3 : decode cL_earned 3 = .ok (.aload_n 0, 1) := by decide +kernel
theorem dL_earned_4 : decode cL_earned 4 = .ok (.iload_n 1, 1) := by decide +kernel
theorem dL_earned_5 : decode cL_earned 5 = .ok (.iload_n 2, 1) := by decide +kernel
theorem dL_earned_6 : decode cL_earned 6 = .ok (.iload_n 3, 1) := by decide +kernel
theorem dL_earned_7 : decode cL_earned 7 = .ok (.invokevirtual 61, 3) := by decide +kernel
theorem dL_earned_10 : decode cL_earned 10 = .ok (.i2l, 1) := by decide +kernel
theorem dL_earned_11 : decode cL_earned 11 = .ok (.lastore, 1) := by decide +kernel
theorem dL_earned_12 : decode cL_earned 12 = .ok (.goto 7, 3) := by decide +kernel
theorem dL_earned_15 : decode cL_earned 15 = .ok (.astore 5, 2) := by decide +kernel
theorem dL_earned_17 : decode cL_earned 17 = .ok (.iconst 1, 1) := by decide +kernel
theorem dL_earned_18 : decode cL_earned 18 = .ok (.ireturn, 1) := by decide +kernel
theorem dL_earned_19 : decode cL_earned 19 = .ok (.iconst 0, 1) := by decide +kernel
theorem dL_earned_20 : decode cL_earned 20 = .ok (.ireturn, 1) := by decide +kernel
theorem dL_settled_0 : decode cL_settled 0 = .ok (.aload_n 3, 1) := by decide +kernel
theorem dL_settled_1 : decode cL_settled 1 = .ok (.iconst 0, 1) := by decide +kernel
theorem dL_settled_2 : decode cL_settled 2 = .ok (.aload_n 0, 1) := by decide +kernel
theorem dL_settled_3 : decode cL_settled 3 = .ok (.iload_n 1, 1) := by decide +kernel
theorem dL_settled_4 : decode cL_settled 4 = .ok (.iload_n 2, 1) := by decide +kernel
theorem dL_settled_5 : decode cL_settled 5 = .ok (.invokevirtual 64, 3) := by decide +kernel
theorem dL_settled_8 : decode cL_settled 8 = .ok (.i2l, 1) := by decide +kernel
theorem dL_settled_9 : decode cL_settled 9 = .ok (.lastore, 1) := by decide +kernel
theorem dL_settled_10 : decode cL_settled 10 = .ok (.goto 7, 3) := by decide +kernel
theorem dL_settled_13 : decode cL_settled 13 = .ok (.astore 4, 2) := by decide +kernel
theorem dL_settled_15 : decode cL_settled 15 = .ok (.iconst 1, 1) := by decide +kernel
theorem dL_settled_16 : decode cL_settled 16 = .ok (.ireturn, 1) := by decide +kernel
theorem dL_settled_17 : decode cL_settled 17 = .ok (.iconst 0, 1) := by decide +kernel
theorem dL_settled_18 : decode cL_settled 18 = .ok (.ireturn, 1) := by decide +kernel
theorem dL_posting_0 : decode cL_posting 0 = .ok (.aload_n 3, 1) := by decide +kernel
theorem dL_posting_1 : decode cL_posting 1 = .ok (.iconst 0, 1) := by decide +kernel
theorem dL_posting_2 : decode cL_posting 2 = .ok (.aload_n 0, 1) := by decide +kernel
theorem dL_posting_3 : decode cL_posting 3 = .ok (.iload_n 1, 1) := by decide +kernel
theorem dL_posting_4 : decode cL_posting 4 = .ok (.iload_n 2, 1) := by decide +kernel
theorem dL_posting_5 : decode cL_posting 5 = .ok (.invokevirtual 67, 3) := by decide +kernel
theorem dL_posting_8 : decode cL_posting 8 = .ok (.i2l, 1) := by decide +kernel
theorem dL_posting_9 : decode cL_posting 9 = .ok (.lastore, 1) := by decide +kernel
theorem dL_posting_10 : decode cL_posting 10 = .ok (.goto 7, 3) := by decide +kernel
theorem dL_posting_13 : decode cL_posting 13 = .ok (.astore 4, 2) := by decide +kernel
theorem dL_posting_15 : decode cL_posting 15 = .ok (.iconst 1, 1) := by decide +kernel
theorem dL_posting_16 : decode cL_posting 16 = .ok (.ireturn, 1) := by decide +kernel
theorem dL_posting_17 : decode cL_posting 17 = .ok (.iconst 0, 1) := by decide +kernel
theorem dL_posting_18 : decode cL_posting 18 = .ok (.ireturn, 1) := by decide +kernel
theorem dL_balance_0 : decode cL_balance 0 = .ok (.aload_n 2, 1) := by decide +kernel
theorem dL_balance_1 : decode cL_balance 1 = .ok (.iconst 0, 1) := by decide +kernel
theorem dL_balance_2 : decode cL_balance 2 = .ok (.aload_n 0, 1) := by decide +kernel
theorem dL_balance_3 : decode cL_balance 3 = .ok (.iload_n 1, 1) := by decide +kernel
theorem dL_balance_4 : decode cL_balance 4 = .ok (.invokevirtual 70, 3) := by decide +kernel
theorem dL_balance_7 : decode cL_balance 7 = .ok (.i2l, 1) := by decide +kernel
theorem dL_balance_8 : decode cL_balance 8 = .ok (.lastore, 1) := by decide +kernel
theorem dL_balance_9 : decode cL_balance 9 = .ok (.goto 6, 3) := by decide +kernel
theorem dL_balance_12 : decode cL_balance 12 = .ok (.astore_n 3, 1) := by decide +kernel
theorem dL_balance_13 : decode cL_balance 13 = .ok (.iconst 1, 1) := by decide +kernel
theorem dL_balance_14 : decode cL_balance 14 = .ok (.ireturn, 1) := by decide +kernel
theorem dL_balance_15 : decode cL_balance 15 = .ok (.iconst 0, 1) := by decide +kernel
theorem dL_balance_16 : decode cL_balance 16 = .ok (.ireturn, 1) := by decide +kernel
