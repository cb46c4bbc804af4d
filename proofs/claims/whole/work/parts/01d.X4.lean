theorem dX4_init_0 : decode cX4_init 0 = .ok (.aload_n 0, 1) := by decide +kernel
theorem dX4_init_1 : decode cX4_init 1 = .ok (.invokespecial 1, 3) := by decide +kernel
theorem dX4_init_4 : decode cX4_init 4 = .ok (.aload_n 0, 1) := by decide +kernel
theorem dX4_init_5 : decode cX4_init 5 = .ok (.new 7, 3) := by decide +kernel
theorem dX4_init_8 : decode cX4_init 8 = .ok (.dup, 1) := by decide +kernel
theorem dX4_init_9 : decode cX4_init 9 = .ok (.invokespecial 9, 3) := by decide +kernel
theorem dX4_init_12 : decode cX4_init 12 = .ok (.putfield 10, 3) := by decide +kernel
theorem dX4_init_15 : decode cX4_init 15 = .ok (.aload_n 0, 1) := by decide +kernel
theorem dX4_init_16 : decode cX4_init 16 = .ok (.new 16, 3) := by decide +kernel
theorem dX4_init_19 : decode cX4_init 19 = .ok (.dup, 1) := by decide +kernel
theorem dX4_init_20 : decode cX4_init 20 = .ok (.invokespecial 18, 3) := by decide +kernel
theorem dX4_init_23 : decode cX4_init 23 = .ok (.putfield 19, 3) := by decide +kernel
theorem dX4_init_26 : decode cX4_init 26 = .ok (.aload_n 0, 1) := by decide +kernel
theorem dX4_init_27 : decode cX4_init 27 = .ok (.new 23, 3) := by decide +kernel
theorem dX4_init_30 : decode cX4_init 30 = .ok (.dup, 1) := by decide +kernel
theorem dX4_init_31 : decode cX4_init 31 = .ok (.invokespecial 25, 3) := by decide +kernel
theorem dX4_init_34 : decode cX4_init 34 = .ok (.putfield 26, 3) := by decide +kernel
theorem dX4_init_37 : decode cX4_init 37 = .ok (.aload_n 0, 1) := by decide +kernel
theorem dX4_init_38 : decode cX4_init 38 = .ok (.new 30, 3) := by decide +kernel
theorem dX4_init_41 : decode cX4_init 41 = .ok (.dup, 1) := by decide +kernel
theorem dX4_init_42 : decode cX4_init 42 = .ok (.invokespecial 32, 3) := by decide +kernel
theorem dX4_init_45 : decode cX4_init 45 = .ok (.putfield 33, 3) := by decide +kernel
theorem dX4_init_48 : decode cX4_init 48 = .ok (.return_, 1) := by decide +kernel
theorem dX4_row_0 : decode cX4_row 0 = .ok (.aload_n 0, 1) := by decide +kernel
theorem dX4_row_1 : decode cX4_row 1 = .ok (.invokevirtual 37, 3) := by decide +kernel
theorem dX4_row_4 : decode cX4_row 4 = .ok (.ifCond .ne 15, 3) := by decide +kernel
theorem dX4_row_7 : decode cX4_row 7 = .ok (.aload_n 0, 1) := by decide +kernel
theorem dX4_row_8 : decode cX4_row 8 = .ok (.getfield 10, 3) := by decide +kernel
theorem dX4_row_11 : decode cX4_row 11 = .ok (.getfield 41, 3) := by decide +kernel
theorem dX4_row_14 : decode cX4_row 14 = .ok (.bipush 8, 2) := by decide +kernel
theorem dX4_row_16 : decode cX4_row 16 = .ok (.if_icmp .ne 11, 3) := by decide +kernel
theorem dX4_row_19 : decode cX4_row 19 = .ok (.new 45, 3) := by decide +kernel
theorem dX4_row_22 : decode cX4_row 22 = .ok (.dup, 1) := by decide +kernel
theorem dX4_row_23 : decode cX4_row 23 = .ok (.invokespecial 47, 3) := by decide +kernel
theorem dX4_row_26 : decode cX4_row 26 = .ok (.athrow, 1) := by decide +kernel
theorem dX4_row_27 : decode cX4_row 27 = .ok (.iload_n 1, 1) := by decide +kernel
theorem dX4_row_28 : decode cX4_row 28 = .ok (.iload_n 2, 1) := by decide +kernel
theorem dX4_row_29 : decode cX4_row 29 = .ok (.bipush 49, 2) := by decide +kernel
theorem dX4_row_31 : decode cX4_row 31 = .ok (.invokestatic 48, 3) := by decide +kernel
theorem dX4_row_34 : decode cX4_row 34 = .ok (.ifCond .eq 25, 3) := by decide +kernel
theorem dX4_row_37 : decode cX4_row 37 = .ok (.iload_n 3, 1) := by decide +kernel
theorem dX4_row_38 : decode cX4_row 38 = .ok (.iload 4, 2) := by decide +kernel
theorem dX4_row_40 : decode cX4_row 40 = .ok (.bipush 9, 2) := by decide +kernel
theorem dX4_row_42 : decode cX4_row 42 = .ok (.invokestatic 48, 3) := by decide +kernel
theorem dX4_row_45 : decode cX4_row 45 = .ok (.ifCond .eq 14, 3) := by decide +kernel
theorem dX4_row_48 : decode cX4_row 48 = .ok (.iconst 1, 1) := by decide +kernel
theorem dX4_row_49 : decode cX4_row 49 = .ok (.iload 5, 2) := by decide +kernel
theorem dX4_row_51 : decode cX4_row 51 = .ok (.bipush 99, 2) := by decide +kernel
theorem dX4_row_53 : decode cX4_row 53 = .ok (.invokestatic 52, 3) := by decide +kernel
theorem dX4_row_56 : decode cX4_row 56 = .ok (.ifCond .ne 11, 3) := by decide +kernel
theorem dX4_row_59 : decode cX4_row 59 = .ok (.new 55, 3) := by decide +kernel
theorem dX4_row_62 : decode cX4_row 62 = .ok (.dup, 1) := by decide +kernel
theorem dX4_row_63 : decode cX4_row 63 = .ok (.invokespecial 57, 3) := by decide +kernel
theorem dX4_row_66 : decode cX4_row 66 = .ok (.athrow, 1) := by decide +kernel
theorem dX4_row_67 : decode cX4_row 67 = .ok (.aload_n 0, 1) := by decide +kernel
theorem dX4_row_68 : decode cX4_row 68 = .ok (.getfield 10, 3) := by decide +kernel
theorem dX4_row_71 : decode cX4_row 71 = .ok (.iload_n 1, 1) := by decide +kernel
theorem dX4_row_72 : decode cX4_row 72 = .ok (.iload_n 2, 1) := by decide +kernel
theorem dX4_row_73 : decode cX4_row 73 = .ok (.iload_n 3, 1) := by decide +kernel
theorem dX4_row_74 : decode cX4_row 74 = .ok (.iload 4, 2) := by decide +kernel
theorem dX4_row_76 : decode cX4_row 76 = .ok (.iload 5, 2) := by decide +kernel
theorem dX4_row_78 : decode cX4_row 78 = .ok (.invokevirtual 58, 3) := by decide +kernel
theorem dX4_row_81 : decode cX4_row 81 = .ok (.ireturn, 1) := by decide +kernel
theorem dX4_undo_0 : decode cX4_undo 0 = .ok (.aload_n 0, 1) := by decide +kernel
theorem dX4_undo_1 : decode cX4_undo 1 = .ok (.invokevirtual 37, 3) := by decide +kernel
theorem dX4_undo_4 : decode cX4_undo 4 = .ok (.ifCond .ne 13, 3) := by decide +kernel
theorem dX4_undo_7 : decode cX4_undo 7 = .ok (.aload_n 0, 1) := by decide +kernel
theorem dX4_undo_8 : decode cX4_undo 8 = .ok (.getfield 10, 3) := by decide +kernel
theorem dX4_undo_11 : decode cX4_undo 11 = .ok (.getfield 41, 3) := by decide +kernel
theorem dX4_undo_14 : decode cX4_undo 14 = .ok (.ifCond .ne 11, 3) := by decide +kernel
theorem dX4_undo_17 : decode cX4_undo 17 = .ok (.new 45, 3) := by decide +kernel
theorem dX4_undo_20 : decode cX4_undo 20 = .ok (.dup, 1) := by decide +kernel
theorem dX4_undo_21 : decode cX4_undo 21 = .ok (.invokespecial 47, 3) := by decide +kernel
theorem dX4_undo_24 : decode cX4_undo 24 = .ok (.athrow, 1) := by decide +kernel
theorem dX4_undo_25 : decode cX4_undo 25 = .ok (.aload_n 0, 1) := by decide +kernel
theorem dX4_undo_26 : decode cX4_undo 26 = .ok (.getfield 10, 3) := by decide +kernel
theorem dX4_undo_29 : decode cX4_undo 29 = .ok (.invokevirtual 62, 3) := by decide +kernel
theorem dX4_undo_32 : decode cX4_undo 32 = .ok (.return_, 1) := by decide +kernel
theorem dX4_witness_0 : decode cX4_witness 0 = .ok (.aload_n 0, 1) := by decide +kernel
theorem dX4_witness_1 : decode cX4_witness 1 = .ok (.getfield 10, 3) := by decide +kernel
theorem dX4_witness_4 : decode cX4_witness 4 = .ok (.invokevirtual 65, 3) := by decide +kernel
theorem dX4_witness_7 : decode cX4_witness 7 = .ok (.ireturn, 1) := by decide +kernel
theorem dX4_quota_0 : decode cX4_quota 0 = .ok (.aload_n 0, 1) := by decide +kernel
theorem dX4_quota_1 : decode cX4_quota 1 = .ok (.getfield 19, 3) := by decide +kernel
theorem dX4_quota_4 : decode cX4_quota 4 = .ok (.getfield 69, 3) := by decide +kernel
theorem dX4_quota_7 : decode cX4_quota 7 = .ok (.ifCond .le 11, 3) := by decide +kernel
theorem dX4_quota_10 : decode cX4_quota 10 = .ok (.new 45, 3) := by decide +kernel
theorem dX4_quota_13 : decode cX4_quota 13 = .ok (.dup, 1) := by decide +kernel
theorem dX4_quota_14 : decode cX4_quota 14 = .ok (.invokespecial 47, 3) := by decide +kernel
theorem dX4_quota_17 : decode cX4_quota 17 = .ok (.athrow, 1) := by decide +kernel
theorem dX4_quota_18 : decode cX4_quota 18 = .ok (.iconst 0, 1) := by decide +kernel
theorem dX4_quota_19 : decode cX4_quota 19 = .ok (.iload_n 1, 1) := by decide +kernel
theorem dX4_quota_20 : decode cX4_quota 20 = .ok (.bipush 90, 2) := by decide +kernel
theorem dX4_quota_22 : decode cX4_quota 22 = .ok (.invokestatic 52, 3) := by decide +kernel
theorem dX4_quota_25 : decode cX4_quota 25 = .ok (.ifCond .ne 11, 3) := by decide +kernel
theorem dX4_quota_28 : decode cX4_quota 28 = .ok (.new 55, 3) := by decide +kernel
theorem dX4_quota_31 : decode cX4_quota 31 = .ok (.dup, 1) := by decide +kernel
theorem dX4_quota_32 : decode cX4_quota 32 = .ok (.invokespecial 57, 3) := by decide +kernel
theorem dX4_quota_35 : decode cX4_quota 35 = .ok (.athrow, 1) := by decide +kernel
theorem dX4_quota_36 : decode cX4_quota 36 = .ok (.aload_n 0, 1) := by decide +kernel
theorem dX4_quota_37 : decode cX4_quota 37 = .ok (.iload_n 1, 1) := by decide +kernel
theorem dX4_quota_38 : decode cX4_quota 38 = .ok (.putfield 72, 3) := by decide +kernel
theorem dX4_quota_41 : decode cX4_quota 41 = .ok (.return_, 1) := by decide +kernel
theorem dX4_terms_0 : decode cX4_terms 0 = .ok (.aload_n 0, 1) := by decide +kernel
theorem dX4_terms_1 : decode cX4_terms 1 = .ok (.getfield 26, 3) := by decide +kernel
theorem dX4_terms_4 : decode cX4_terms 4 = .ok (.getfield 75, 3) := by decide +kernel
theorem dX4_terms_7 : decode cX4_terms 7 = .ok (.ifCond .le 11, 3) := by decide +kernel
theorem dX4_terms_10 : decode cX4_terms 10 = .ok (.new 45, 3) := by decide +kernel
theorem dX4_terms_13 : decode cX4_terms 13 = .ok (.dup, 1) := by decide +kernel
theorem dX4_terms_14 : decode cX4_terms 14 = .ok (.invokespecial 47, 3) := by decide +kernel
theorem dX4_terms_17 : decode cX4_terms 17 = .ok (.athrow, 1) := by decide +kernel
theorem dX4_terms_18 : decode cX4_terms 18 = .ok (.iconst 0, 1) := by decide +kernel
theorem dX4_terms_19 : decode cX4_terms 19 = .ok (.iload_n 1, 1) := by decide +kernel
theorem dX4_terms_20 : decode cX4_terms 20 = .ok (.sipush 999, 3) := by decide +kernel
theorem dX4_terms_23 : decode cX4_terms 23 = .ok (.invokestatic 52, 3) := by decide +kernel
theorem dX4_terms_26 : decode cX4_terms 26 = .ok (.ifCond .eq 25, 3) := by decide +kernel
theorem dX4_terms_29 : decode cX4_terms 29 = .ok (.iconst 1, 1) := by decide +kernel
theorem dX4_terms_30 : decode cX4_terms 30 = .ok (.iload_n 2, 1) := by decide +kernel
theorem dX4_terms_31 : decode cX4_terms 31 = .ok (.sipush 9999, 3) := by decide +kernel
theorem dX4_terms_34 : decode cX4_terms 34 = .ok (.invokestatic 52, 3) := by decide +kernel
theorem dX4_terms_37 : decode cX4_terms 37 = .ok (.ifCond .eq 14, 3) := by decide +kernel
theorem dX4_terms_40 : decode cX4_terms 40 = .ok (.iconst 1, 1) := by decide +kernel
theorem dX4_terms_41 : decode cX4_terms 41 = .ok (.iload_n 3, 1) := by decide +kernel
theorem dX4_terms_42 : decode cX4_terms 42 = .ok (.sipush 9999, 3) := by decide +kernel
theorem dX4_terms_45 : decode cX4_terms 45 = .ok (.invokestatic 52, 3) := by decide +kernel
theorem dX4_terms_48 : decode cX4_terms 48 = .ok (.ifCond .ne 11, 3) := by decide +kernel
theorem dX4_terms_51 : decode cX4_terms 51 = .ok (.new 55, 3) := by decide +kernel
theorem dX4_terms_54 : decode cX4_terms 54 = .ok (.dup, 1) := by decide +kernel
theorem dX4_terms_55 : decode cX4_terms 55 = .ok (.invokespecial 57, 3) := by decide +kernel
theorem dX4_terms_58 : decode cX4_terms 58 = .ok (.athrow, 1) := by decide +kernel
theorem dX4_terms_59 : decode cX4_terms 59 = .ok (.aload_n 0, 1) := by decide +kernel
theorem dX4_terms_60 : decode cX4_terms 60 = .ok (.getfield 26, 3) := by decide +kernel
theorem dX4_terms_63 : decode cX4_terms 63 = .ok (.iload_n 1, 1) := by decide +kernel
theorem dX4_terms_64 : decode cX4_terms 64 = .ok (.iload_n 2, 1) := by decide +kernel
theorem dX4_terms_65 : decode cX4_terms 65 = .ok (.iload_n 3, 1) := by decide +kernel
theorem dX4_terms_66 : decode cX4_terms 66 = .ok (.invokevirtual 76, 3) := by decide +kernel
theorem dX4_terms_69 : decode cX4_terms 69 = .ok (.return_, 1) := by decide +kernel
theorem dX4_layer_0 : decode cX4_layer 0 = .ok (.aload_n 0, 1) := by decide +kernel
theorem dX4_layer_1 : decode cX4_layer 1 = .ok (.getfield 26, 3) := by decide +kernel
theorem dX4_layer_4 : decode cX4_layer 4 = .ok (.getfield 75, 3) := by decide +kernel
theorem dX4_layer_7 : decode cX4_layer 7 = .ok (.ifCond .le 11, 3) := by decide +kernel
theorem dX4_layer_10 : decode cX4_layer 10 = .ok (.new 45, 3) := by decide +kernel
theorem dX4_layer_13 : decode cX4_layer 13 = .ok (.dup, 1) := by decide +kernel
theorem dX4_layer_14 : decode cX4_layer 14 = .ok (.invokespecial 47, 3) := by decide +kernel
theorem dX4_layer_17 : decode cX4_layer 17 = .ok (.athrow, 1) := by decide +kernel
theorem dX4_layer_18 : decode cX4_layer 18 = .ok (.iconst 0, 1) := by decide +kernel
theorem dX4_layer_19 : decode cX4_layer 19 = .ok (.iload_n 1, 1) := by decide +kernel
theorem dX4_layer_20 : decode cX4_layer 20 = .ok (.sipush 9999, 3) := by decide +kernel
theorem dX4_layer_23 : decode cX4_layer 23 = .ok (.invokestatic 52, 3) := by decide +kernel
theorem dX4_layer_26 : decode cX4_layer 26 = .ok (.ifCond .eq 34, 3) := by decide +kernel
theorem dX4_layer_29 : decode cX4_layer 29 = .ok (.iconst 0, 1) := by decide +kernel
theorem dX4_layer_30 : decode cX4_layer 30 = .ok (.iload_n 2, 1) := by decide +kernel
theorem dX4_layer_31 : decode cX4_layer 31 = .ok (.sipush 9999, 3) := by decide +kernel
theorem dX4_layer_34 : decode cX4_layer 34 = .ok (.invokestatic 52, 3) := by decide +kernel
theorem dX4_layer_37 : decode cX4_layer 37 = .ok (.ifCond .eq 23, 3) := by decide +kernel
theorem dX4_layer_40 : decode cX4_layer 40 = .ok (.iconst 0, 1) := by decide +kernel
theorem dX4_layer_41 : decode cX4_layer 41 = .ok (.iload_n 3, 1) := by decide +kernel
theorem dX4_layer_42 : decode cX4_layer 42 = .ok (.iconst 3, 1) := by decide +kernel
theorem dX4_layer_43 : decode cX4_layer 43 = .ok (.invokestatic 52, 3) := by decide +kernel
theorem dX4_layer_46 : decode cX4_layer 46 = .ok (.ifCond .eq 14, 3) := by decide +kernel
theorem dX4_layer_49 : decode cX4_layer 49 = .ok (.iconst 0, 1) := by decide +kernel
theorem dX4_layer_50 : decode cX4_layer 50 = .ok (.iload 4, 2) := by decide +kernel
theorem dX4_layer_52 : decode cX4_layer 52 = .ok (.bipush 99, 2) := by decide +kernel
theorem dX4_layer_54 : decode cX4_layer 54 = .ok (.invokestatic 52, 3) := by decide +kernel
theorem dX4_layer_57 : decode cX4_layer 57 = .ok (.ifCond .ne 11, 3) := by decide +kernel
theorem dX4_layer_60 : decode cX4_layer 60 = .ok (.new 55, 3) := by decide +kernel
theorem dX4_layer_63 : decode cX4_layer 63 = .ok (.dup, 1) := by decide +kernel
theorem dX4_layer_64 : decode cX4_layer 64 = .ok (.invokespecial 57, 3) := by decide +kernel
theorem dX4_layer_67 : decode cX4_layer 67 = .ok (.athrow, 1) := by decide +kernel
theorem dX4_layer_68 : decode cX4_layer 68 = .ok (.aload_n 0, 1) := by decide +kernel
theorem dX4_layer_69 : decode cX4_layer 69 = .ok (.getfield 26, 3) := by decide +kernel
theorem dX4_layer_72 : decode cX4_layer 72 = .ok (.iload_n 1, 1) := by decide +kernel
theorem dX4_layer_73 : decode cX4_layer 73 = .ok (.iload_n 2, 1) := by decide +kernel
theorem dX4_layer_74 : decode cX4_layer 74 = .ok (.iload_n 3, 1) := by decide +kernel
theorem dX4_layer_75 : decode cX4_layer 75 = .ok (.iload 4, 2) := by decide +kernel
theorem dX4_layer_77 : decode cX4_layer 77 = .ok (.invokevirtual 80, 3) := by decide +kernel
theorem dX4_layer_80 : decode cX4_layer 80 = .ok (.return_, 1) := by decide +kernel
theorem dX4_bind_0 : decode cX4_bind 0 = .ok (.aload_n 0, 1) := by decide +kernel
theorem dX4_bind_1 : decode cX4_bind 1 = .ok (.invokevirtual 84, 3) := by decide +kernel
theorem dX4_bind_4 : decode cX4_bind 4 = .ok (.ifCond .eq 25, 3) := by decide +kernel
theorem dX4_bind_7 : decode cX4_bind 7 = .ok (.aload_n 0, 1) := by decide +kernel
theorem dX4_bind_8 : decode cX4_bind 8 = .ok (.getfield 19, 3) := by decide +kernel
theorem dX4_bind_11 : decode cX4_bind 11 = .ok (.getfield 69, 3) := by decide +kernel
theorem dX4_bind_14 : decode cX4_bind 14 = .ok (.bipush 6, 2) := by decide +kernel
theorem dX4_bind_16 : decode cX4_bind 16 = .ok (.if_icmp .eq 13, 3) := by decide +kernel
theorem dX4_bind_19 : decode cX4_bind 19 = .ok (.aload_n 0, 1) := by decide +kernel
theorem dX4_bind_20 : decode cX4_bind 20 = .ok (.getfield 19, 3) := by decide +kernel
theorem dX4_bind_23 : decode cX4_bind 23 = .ok (.invokevirtual 87, 3) := by decide +kernel
theorem dX4_bind_26 : decode cX4_bind 26 = .ok (.ifCond .eq 11, 3) := by decide +kernel
theorem dX4_bind_29 : decode cX4_bind 29 = .ok (.new 45, 3) := by decide +kernel
theorem dX4_bind_32 : decode cX4_bind 32 = .ok (.dup, 1) := by decide +kernel
theorem dX4_bind_33 : decode cX4_bind 33 = .ok (.invokespecial 47, 3) := by decide +kernel
theorem dX4_bind_36 : decode cX4_bind 36 = .ok (.athrow, 1) := by decide +kernel
theorem dX4_bind_37 : decode cX4_bind 37 = .ok (.iload_n 1, 1) := by decide +kernel
theorem dX4_bind_38 : decode cX4_bind 38 = .ok (.invokestatic 90, 3) := by decide +kernel
theorem dX4_bind_41 : decode cX4_bind 41 = .ok (.ifCond .eq 40, 3) := by decide +kernel
theorem dX4_bind_44 : decode cX4_bind 44 = .ok (.iconst 1, 1) := by decide +kernel
theorem dX4_bind_45 : decode cX4_bind 45 = .ok (.iload_n 2, 1) := by decide +kernel
theorem dX4_bind_46 : decode cX4_bind 46 = .ok (.sipush 200, 3) := by decide +kernel
theorem dX4_bind_49 : decode cX4_bind 49 = .ok (.invokestatic 52, 3) := by decide +kernel
theorem dX4_bind_52 : decode cX4_bind 52 = .ok (.ifCond .eq 29, 3) := by decide +kernel
theorem dX4_bind_55 : decode cX4_bind 55 = .ok (.iconst 0, 1) := by decide +kernel
theorem dX4_bind_56 : decode cX4_bind 56 = .ok (.iload_n 3, 1) := by decide +kernel
theorem dX4_bind_57 : decode cX4_bind 57 = .ok (.invokestatic 94, 3) := by decide +kernel
theorem dX4_bind_60 : decode cX4_bind 60 = .ok (.ifCond .eq 21, 3) := by decide +kernel
theorem dX4_bind_63 : decode cX4_bind 63 = .ok (.iconst 1, 1) := by decide +kernel
theorem dX4_bind_64 : decode cX4_bind 64 = .ok (.iload 4, 2) := by decide +kernel
theorem dX4_bind_66 : decode cX4_bind 66 = .ok (.invokestatic 94, 3) := by decide +kernel
theorem dX4_bind_69 : decode cX4_bind 69 = .ok (.ifCond .eq 12, 3) := by decide +kernel
theorem dX4_bind_72 : decode cX4_bind 72 = .ok (.iconst 2, 1) := by decide +kernel
theorem dX4_bind_73 : decode cX4_bind 73 = .ok (.iload 5, 2) := by decide +kernel
theorem dX4_bind_75 : decode cX4_bind 75 = .ok (.invokestatic 94, 3) := by decide +kernel
theorem dX4_bind_78 : decode cX4_bind 78 = .ok (.ifCond .ne 11, 3) := by decide +kernel
theorem dX4_bind_81 : decode cX4_bind 81 = .ok (.new 55, 3) := by decide +kernel
theorem dX4_bind_84 : decode cX4_bind 84 = .ok (.dup, 1) := by decide +kernel
theorem dX4_bind_85 : decode cX4_bind 85 = .ok (.invokespecial 57, 3) := by decide +kernel
theorem dX4_bind_88 : decode cX4_bind 88 = .ok (.athrow, 1) := by decide +kernel
theorem dX4_bind_89 : decode cX4_bind 89 = .ok (.aload_n 0, 1) := by decide +kernel
theorem dX4_bind_90 : decode cX4_bind 90 = .ok (.getfield 19, 3) := by decide +kernel
theorem dX4_bind_93 : decode cX4_bind 93 = .ok (.getfield 69, 3) := by decide +kernel
theorem dX4_bind_96 : decode cX4_bind 96 = .ok (.istore 6, 2) := by decide +kernel
theorem dX4_bind_98 : decode cX4_bind 98 = .ok (.aload_n 0, 1) := by decide +kernel
theorem dX4_bind_99 : decode cX4_bind 99 = .ok (.getfield 19, 3) := by decide +kernel
theorem dX4_bind_102 : decode cX4_bind 102 = .ok (.iload_n 1, 1) := by decide +kernel
theorem dX4_bind_103 : decode cX4_bind 103 = .ok (.iload_n 2, 1) := by decide +kernel
theorem dX4_bind_104 : decode cX4_bind 104 = .ok (.iload_n 3, 1) := by decide +kernel
theorem dX4_bind_105 : decode cX4_bind 105 = .ok (.iload 4, 2) := by decide +kernel
theorem dX4_bind_107 : decode cX4_bind 107 = .ok (.iload 5, 2) := by decide +kernel
theorem dX4_bind_109 : decode cX4_bind 109 = .ok (.invokevirtual 98, 3) := by decide +kernel
theorem dX4_bind_112 : decode cX4_bind 112 = .ok (.aload_n 0, 1) := by decide +kernel
theorem dX4_bind_113 : decode cX4_bind 113 = .ok (.iload 6, 2) := by decide +kernel
theorem dX4_bind_115 : decode cX4_bind 115 = .ok (.iconst 0, 1) := by decide +kernel
theorem dX4_bind_116 : decode cX4_bind 116 = .ok (.invokevirtual 102, 3) := by decide +kernel
theorem dX4_bind_119 : decode cX4_bind 119 = .ok (.aload_n 0, 1) := by decide +kernel
theorem dX4_bind_120 : decode cX4_bind 120 = .ok (.getfield 19, 3) := by decide +kernel
theorem dX4_bind_123 : decode cX4_bind 123 = .ok (.invokevirtual 106, 3) := by decide +kernel
theorem dX4_bind_126 : decode cX4_bind 126 = .ok (.iload 6, 2) := by decide +kernel
theorem dX4_bind_128 : decode cX4_bind 128 = .ok (.ireturn, 1) := by decide +kernel
theorem dX4_change_0 : decode cX4_change 0 = .ok (.aload_n 0, 1) := by decide +kernel
theorem dX4_change_1 : decode cX4_change 1 = .ok (.iload_n 1, 1) := by decide +kernel
theorem dX4_change_2 : decode cX4_change 2 = .ok (.invokevirtual 109, 3) := by decide +kernel
theorem dX4_change_5 : decode cX4_change 5 = .ok (.ifCond .eq 12, 3) := by decide +kernel
theorem dX4_change_8 : decode cX4_change 8 = .ok (.iconst 0, 1) := by decide +kernel
theorem dX4_change_9 : decode cX4_change 9 = .ok (.iload_n 3, 1) := by decide +kernel
theorem dX4_change_10 : decode cX4_change 10 = .ok (.iconst 2, 1) := by decide +kernel
theorem dX4_change_11 : decode cX4_change 11 = .ok (.invokestatic 52, 3) := by decide +kernel
theorem dX4_change_14 : decode cX4_change 14 = .ok (.ifCond .ne 11, 3) := by decide +kernel
theorem dX4_change_17 : decode cX4_change 17 = .ok (.new 112, 3) := by decide +kernel
theorem dX4_change_20 : decode cX4_change 20 = .ok (.dup, 1) := by decide +kernel
theorem dX4_change_21 : decode cX4_change 21 = .ok (.invokespecial 114, 3) := by decide +kernel
theorem dX4_change_24 : decode cX4_change 24 = .ok (.athrow, 1) := by decide +kernel
theorem dX4_change_25 : decode cX4_change 25 = .ok (.aload_n 0, 1) := by decide +kernel
theorem dX4_change_26 : decode cX4_change 26 = .ok (.getfield 19, 3) := by decide +kernel
theorem dX4_change_29 : decode cX4_change 29 = .ok (.iload_n 1, 1) := by decide +kernel
theorem dX4_change_30 : decode cX4_change 30 = .ok (.iload_n 2, 1) := by decide +kernel
theorem dX4_change_31 : decode cX4_change 31 = .ok (.invokevirtual 115, 3) := by decide +kernel
theorem dX4_change_34 : decode cX4_change 34 = .ok (.ifCond .eq 12, 3) := by decide +kernel
theorem dX4_change_37 : decode cX4_change 37 = .ok (.iload_n 3, 1) := by decide +kernel
theorem dX4_change_38 : decode cX4_change 38 = .ok (.iload 4, 2) := by decide +kernel
theorem dX4_change_40 : decode cX4_change 40 = .ok (.invokestatic 94, 3) := by decide +kernel
theorem dX4_change_43 : decode cX4_change 43 = .ok (.ifCond .ne 11, 3) := by decide +kernel
theorem dX4_change_46 : decode cX4_change 46 = .ok (.new 55, 3) := by decide +kernel
theorem dX4_change_49 : decode cX4_change 49 = .ok (.dup, 1) := by decide +kernel
theorem dX4_change_50 : decode cX4_change 50 = .ok (.invokespecial 57, 3) := by decide +kernel
theorem dX4_change_53 : decode cX4_change 53 = .ok (.athrow, 1) := by decide +kernel
theorem dX4_change_54 : decode cX4_change 54 = .ok (.aload_n 0, 1) := by decide +kernel
theorem dX4_change_55 : decode cX4_change 55 = .ok (.getfield 19, 3) := by decide +kernel
theorem dX4_change_58 : decode cX4_change 58 = .ok (.iload_n 1, 1) := by decide +kernel
theorem dX4_change_59 : decode cX4_change 59 = .ok (.iload_n 2, 1) := by decide +kernel
theorem dX4_change_60 : decode cX4_change 60 = .ok (.invokevirtual 118, 3) := by decide +kernel
theorem dX4_change_63 : decode cX4_change 63 = .ok (.ifCond .eq 13, 3) := by decide +kernel
theorem dX4_change_66 : decode cX4_change 66 = .ok (.aload_n 0, 1) := by decide +kernel
theorem dX4_change_67 : decode cX4_change 67 = .ok (.getfield 19, 3) := by decide +kernel
theorem dX4_change_70 : decode cX4_change 70 = .ok (.invokevirtual 87, 3) := by decide +kernel
theorem dX4_change_73 : decode cX4_change 73 = .ok (.ifCond .eq 11, 3) := by decide +kernel
theorem dX4_change_76 : decode cX4_change 76 = .ok (.new 45, 3) := by decide +kernel
theorem dX4_change_79 : decode cX4_change 79 = .ok (.dup, 1) := by decide +kernel
theorem dX4_change_80 : decode cX4_change 80 = .ok (.invokespecial 47, 3) := by decide +kernel
theorem dX4_change_83 : decode cX4_change 83 = .ok (.athrow, 1) := by decide +kernel
theorem dX4_change_84 : decode cX4_change 84 = .ok (.aload_n 0, 1) := by decide +kernel
theorem dX4_change_85 : decode cX4_change 85 = .ok (.iload_n 1, 1) := by decide +kernel
theorem dX4_change_86 : decode cX4_change 86 = .ok (.iload_n 2, 1) := by decide +kernel
theorem dX4_change_87 : decode cX4_change 87 = .ok (.iload_n 3, 1) := by decide +kernel
theorem dX4_change_88 : decode cX4_change 88 = .ok (.iload 4, 2) := by decide +kernel
theorem dX4_change_90 : decode cX4_change 90 = .ok (.iconst 0, 1) := by decide +kernel
theorem dX4_change_91 : decode cX4_change 91 = .ok (.invokevirtual 121, 3) := by decide +kernel
theorem dX4_change_94 : decode cX4_change 94 = .ok (.ireturn, 1) := by decide +kernel
theorem dX4_cancel_0 : decode cX4_cancel 0 = .ok (.aload_n 0, 1) := by decide +kernel
theorem dX4_cancel_1 : decode cX4_cancel 1 = .ok (.iload_n 1, 1) := by decide +kernel
theorem dX4_cancel_2 : decode cX4_cancel 2 = .ok (.invokevirtual 109, 3) := by decide +kernel
theorem dX4_cancel_5 : decode cX4_cancel 5 = .ok (.ifCond .ne 11, 3) := by decide +kernel
theorem dX4_cancel_8 : decode cX4_cancel 8 = .ok (.new 112, 3) := by decide +kernel
theorem dX4_cancel_11 : decode cX4_cancel 11 = .ok (.dup, 1) := by decide +kernel
theorem dX4_cancel_12 : decode cX4_cancel 12 = .ok (.invokespecial 114, 3) := by decide +kernel
theorem dX4_cancel_15 : decode cX4_cancel 15 = .ok (.athrow, 1) := by decide +kernel
theorem dX4_cancel_16 : decode cX4_cancel 16 = .ok (.aload_n 0, 1) := by decide +kernel
theorem dX4_cancel_17 : decode cX4_cancel 17 = .ok (.getfield 19, 3) := by decide +kernel
theorem dX4_cancel_20 : decode cX4_cancel 20 = .ok (.iload_n 1, 1) := by decide +kernel
theorem dX4_cancel_21 : decode cX4_cancel 21 = .ok (.iload_n 2, 1) := by decide +kernel
theorem dX4_cancel_22 : decode cX4_cancel 22 = .ok (.invokevirtual 115, 3) := by decide +kernel
theorem dX4_cancel_25 : decode cX4_cancel 25 = .ok (.ifCond .ne 11, 3) := by decide +kernel
theorem dX4_cancel_28 : decode cX4_cancel 28 = .ok (.new 55, 3) := by decide +kernel
theorem dX4_cancel_31 : decode cX4_cancel 31 = .ok (.dup, 1) := by decide +kernel
theorem dX4_cancel_32 : decode cX4_cancel 32 = .ok (.invokespecial 57, 3) := by decide +kernel
theorem dX4_cancel_35 : decode cX4_cancel 35 = .ok (.athrow, 1) := by decide +kernel
theorem dX4_cancel_36 : decode cX4_cancel 36 = .ok (.aload_n 0, 1) := by decide +kernel
theorem dX4_cancel_37 : decode cX4_cancel 37 = .ok (.getfield 19, 3) := by decide +kernel
theorem dX4_cancel_40 : decode cX4_cancel 40 = .ok (.iload_n 1, 1) := by decide +kernel
theorem dX4_cancel_41 : decode cX4_cancel 41 = .ok (.iload_n 2, 1) := by decide +kernel
theorem dX4_cancel_42 : decode cX4_cancel 42 = .ok (.invokevirtual 118, 3) := by decide +kernel
theorem dX4_cancel_45 : decode cX4_cancel 45 = .ok (.ifCond .eq 13, 3) := by decide +kernel
theorem dX4_cancel_48 : decode cX4_cancel 48 = .ok (.aload_n 0, 1) := by decide +kernel
theorem dX4_cancel_49 : decode cX4_cancel 49 = .ok (.getfield 19, 3) := by decide +kernel
theorem dX4_cancel_52 : decode cX4_cancel 52 = .ok (.invokevirtual 87, 3) := by decide +kernel
theorem dX4_cancel_55 : decode cX4_cancel 55 = .ok (.ifCond .eq 11, 3) := by decide +kernel
theorem dX4_cancel_58 : decode cX4_cancel 58 = .ok (.new 45, 3) := by decide +kernel
theorem dX4_cancel_61 : decode cX4_cancel 61 = .ok (.dup, 1) := by decide +kernel
theorem dX4_cancel_62 : decode cX4_cancel 62 = .ok (.invokespecial 47, 3) := by decide +kernel
theorem dX4_cancel_65 : decode cX4_cancel 65 = .ok (.athrow, 1) := by decide +kernel
theorem dX4_cancel_66 : decode cX4_cancel 66 = .ok (.aload_n 0, 1) := by decide +kernel
theorem dX4_cancel_67 : decode cX4_cancel 67 = .ok (.iload_n 1, 1) := by decide +kernel
theorem dX4_cancel_68 : decode cX4_cancel 68 = .ok (.iload_n 2, 1) := by decide +kernel
theorem dX4_cancel_69 : decode cX4_cancel 69 = .ok (.iconst 3, 1) := by decide +kernel
theorem dX4_cancel_70 : decode cX4_cancel 70 = .ok (.iconst 0, 1) := by decide +kernel
theorem dX4_cancel_71 : decode cX4_cancel 71 = .ok (.iload_n 3, 1) := by decide +kernel
theorem dX4_cancel_72 : decode cX4_cancel 72 = .ok (.invokevirtual 121, 3) := by decide +kernel
theorem dX4_cancel_75 : decode cX4_cancel 75 = .ok (.ireturn, 1) := by decide +kernel
theorem dX4_reinstate_0 : decode cX4_reinstate 0 = .ok (.aload_n 0, 1) := by decide +kernel
theorem dX4_reinstate_1 : decode cX4_reinstate 1 = .ok (.iload_n 1, 1) := by decide +kernel
theorem dX4_reinstate_2 : decode cX4_reinstate 2 = .ok (.invokevirtual 109, 3) := by decide +kernel
theorem dX4_reinstate_5 : decode cX4_reinstate 5 = .ok (.ifCond .ne 11, 3) := by decide +kernel
theorem dX4_reinstate_8 : decode cX4_reinstate 8 = .ok (.new 112, 3) := by decide +kernel
theorem dX4_reinstate_11 : decode cX4_reinstate 11 = .ok (.dup, 1) := by decide +kernel
theorem dX4_reinstate_12 : decode cX4_reinstate 12 = .ok (.invokespecial 114, 3) := by decide +kernel
theorem dX4_reinstate_15 : decode cX4_reinstate 15 = .ok (.athrow, 1) := by decide +kernel
theorem dX4_reinstate_16 : decode cX4_reinstate 16 = .ok (.aload_n 0, 1) := by decide +kernel
theorem dX4_reinstate_17 : decode cX4_reinstate 17 = .ok (.getfield 19, 3) := by decide +kernel
theorem dX4_reinstate_20 : decode cX4_reinstate 20 = .ok (.iload_n 1, 1) := by decide +kernel
theorem dX4_reinstate_21 : decode cX4_reinstate 21 = .ok (.iload_n 2, 1) := by decide +kernel
theorem dX4_reinstate_22 : decode cX4_reinstate 22 = .ok (.invokevirtual 115, 3) := by decide +kernel
theorem dX4_reinstate_25 : decode cX4_reinstate 25 = .ok (.ifCond .ne 11, 3) := by decide +kernel
theorem dX4_reinstate_28 : decode cX4_reinstate 28 = .ok (.new 55, 3) := by decide +kernel
theorem dX4_reinstate_31 : decode cX4_reinstate 31 = .ok (.dup, 1) := by decide +kernel
theorem dX4_reinstate_32 : decode cX4_reinstate 32 = .ok (.invokespecial 57, 3) := by decide +kernel
theorem dX4_reinstate_35 : decode cX4_reinstate 35 = .ok (.athrow, 1) := by decide +kernel
theorem dX4_reinstate_36 : decode cX4_reinstate 36 = .ok (.aload_n 0, 1) := by decide +kernel
theorem dX4_reinstate_37 : decode cX4_reinstate 37 = .ok (.getfield 19, 3) := by decide +kernel
theorem dX4_reinstate_40 : decode cX4_reinstate 40 = .ok (.iload_n 1, 1) := by decide +kernel
theorem dX4_reinstate_41 : decode cX4_reinstate 41 = .ok (.iload_n 2, 1) := by decide +kernel
theorem dX4_reinstate_42 : decode cX4_reinstate 42 = .ok (.invokevirtual 118, 3) := by decide +kernel
theorem dX4_reinstate_45 : decode cX4_reinstate 45 = .ok (.ifCond .ne 13, 3) := by decide +kernel
theorem dX4_reinstate_48 : decode cX4_reinstate 48 = .ok (.aload_n 0, 1) := by decide +kernel
theorem dX4_reinstate_49 : decode cX4_reinstate 49 = .ok (.getfield 19, 3) := by decide +kernel
theorem dX4_reinstate_52 : decode cX4_reinstate 52 = .ok (.invokevirtual 87, 3) := by decide +kernel
theorem dX4_reinstate_55 : decode cX4_reinstate 55 = .ok (.ifCond .eq 11, 3) := by decide +kernel
theorem dX4_reinstate_58 : decode cX4_reinstate 58 = .ok (.new 45, 3) := by decide +kernel
theorem dX4_reinstate_61 : decode cX4_reinstate 61 = .ok (.dup, 1) := by decide +kernel
theorem dX4_reinstate_62 : decode cX4_reinstate 62 = .ok (.invokespecial 47, 3) := by decide +kernel
theorem dX4_reinstate_65 : decode cX4_reinstate 65 = .ok (.athrow, 1) := by decide +kernel
theorem dX4_reinstate_66 : decode cX4_reinstate 66 = .ok (.aload_n 0, 1) := by decide +kernel
theorem dX4_reinstate_67 : decode cX4_reinstate 67 = .ok (.iload_n 1, 1) := by decide +kernel
theorem dX4_reinstate_68 : decode cX4_reinstate 68 = .ok (.iload_n 2, 1) := by decide +kernel
theorem dX4_reinstate_69 : decode cX4_reinstate 69 = .ok (.iconst 3, 1) := by decide +kernel
theorem dX4_reinstate_70 : decode cX4_reinstate 70 = .ok (.iconst 1, 1) := by decide +kernel
theorem dX4_reinstate_71 : decode cX4_reinstate 71 = .ok (.iconst 0, 1) := by decide +kernel
theorem dX4_reinstate_72 : decode cX4_reinstate 72 = .ok (.invokevirtual 121, 3) := by decide +kernel
theorem dX4_reinstate_75 : decode cX4_reinstate 75 = .ok (.ireturn, 1) := by decide +kernel
theorem dX4_claim_0 : decode cX4_claim 0 = .ok (.aload_n 0, 1) := by decide +kernel
theorem dX4_claim_1 : decode cX4_claim 1 = .ok (.iload_n 1, 1) := by decide +kernel
theorem dX4_claim_2 : decode cX4_claim 2 = .ok (.invokevirtual 109, 3) := by decide +kernel
theorem dX4_claim_5 : decode cX4_claim 5 = .ok (.ifCond .ne 11, 3) := by decide +kernel
theorem dX4_claim_8 : decode cX4_claim 8 = .ok (.new 112, 3) := by decide +kernel
theorem dX4_claim_11 : decode cX4_claim 11 = .ok (.dup, 1) := by decide +kernel
theorem dX4_claim_12 : decode cX4_claim 12 = .ok (.invokespecial 114, 3) := by decide +kernel
theorem dX4_claim_15 : decode cX4_claim 15 = .ok (.athrow, 1) := by decide +kernel
theorem dX4_claim_16 : decode cX4_claim 16 = .ok (.iload_n 2, 1) := by decide +kernel
theorem dX4_claim_17 : decode cX4_claim 17 = .ok (.invokestatic 90, 3) := by decide +kernel
theorem dX4_claim_20 : decode cX4_claim 20 = .ok (.ifCond .eq 14, 3) := by decide +kernel
theorem dX4_claim_23 : decode cX4_claim 23 = .ok (.iconst 1, 1) := by decide +kernel
theorem dX4_claim_24 : decode cX4_claim 24 = .ok (.iload_n 3, 1) := by decide +kernel
theorem dX4_claim_25 : decode cX4_claim 25 = .ok (.sipush 9999, 3) := by decide +kernel
theorem dX4_claim_28 : decode cX4_claim 28 = .ok (.invokestatic 52, 3) := by decide +kernel
theorem dX4_claim_31 : decode cX4_claim 31 = .ok (.ifCond .ne 11, 3) := by decide +kernel
theorem dX4_claim_34 : decode cX4_claim 34 = .ok (.new 55, 3) := by decide +kernel
theorem dX4_claim_37 : decode cX4_claim 37 = .ok (.dup, 1) := by decide +kernel
theorem dX4_claim_38 : decode cX4_claim 38 = .ok (.invokespecial 57, 3) := by decide +kernel
theorem dX4_claim_41 : decode cX4_claim 41 = .ok (.athrow, 1) := by decide +kernel
theorem dX4_claim_42 : decode cX4_claim 42 = .ok (.aload_n 0, 1) := by decide +kernel
theorem dX4_claim_43 : decode cX4_claim 43 = .ok (.getfield 19, 3) := by decide +kernel
theorem dX4_claim_46 : decode cX4_claim 46 = .ok (.iload_n 1, 1) := by decide +kernel
theorem dX4_claim_47 : decode cX4_claim 47 = .ok (.iload_n 2, 1) := by decide +kernel
theorem dX4_claim_48 : decode cX4_claim 48 = .ok (.invokevirtual 118, 3) := by decide +kernel
theorem dX4_claim_51 : decode cX4_claim 51 = .ok (.ifCond .eq 15, 3) := by decide +kernel
theorem dX4_claim_54 : decode cX4_claim 54 = .ok (.aload_n 0, 1) := by decide +kernel
theorem dX4_claim_55 : decode cX4_claim 55 = .ok (.getfield 26, 3) := by decide +kernel
theorem dX4_claim_58 : decode cX4_claim 58 = .ok (.getfield 75, 3) := by decide +kernel
theorem dX4_claim_61 : decode cX4_claim 61 = .ok (.bipush 20, 2) := by decide +kernel
theorem dX4_claim_63 : decode cX4_claim 63 = .ok (.if_icmp .ne 11, 3) := by decide +kernel
theorem dX4_claim_66 : decode cX4_claim 66 = .ok (.new 45, 3) := by decide +kernel
theorem dX4_claim_69 : decode cX4_claim 69 = .ok (.dup, 1) := by decide +kernel
theorem dX4_claim_70 : decode cX4_claim 70 = .ok (.invokespecial 47, 3) := by decide +kernel
theorem dX4_claim_73 : decode cX4_claim 73 = .ok (.athrow, 1) := by decide +kernel
theorem dX4_claim_74 : decode cX4_claim 74 = .ok (.aload_n 0, 1) := by decide +kernel
theorem dX4_claim_75 : decode cX4_claim 75 = .ok (.getfield 26, 3) := by decide +kernel
theorem dX4_claim_78 : decode cX4_claim 78 = .ok (.iload_n 1, 1) := by decide +kernel
theorem dX4_claim_79 : decode cX4_claim 79 = .ok (.iload_n 3, 1) := by decide +kernel
theorem dX4_claim_80 : decode cX4_claim 80 = .ok (.invokevirtual 125, 3) := by decide +kernel
theorem dX4_claim_83 : decode cX4_claim 83 = .ok (.istore 4, 2) := by decide +kernel
theorem dX4_claim_85 : decode cX4_claim 85 = .ok (.iload 4, 2) := by decide +kernel
theorem dX4_claim_87 : decode cX4_claim 87 = .ok (.aload_n 0, 1) := by decide +kernel
theorem dX4_claim_88 : decode cX4_claim 88 = .ok (.getfield 72, 3) := by decide +kernel
theorem dX4_claim_91 : decode cX4_claim 91 = .ok (.invokestatic 129, 3) := by decide +kernel
theorem dX4_claim_94 : decode cX4_claim 94 = .ok (.istore 5, 2) := by decide +kernel
theorem dX4_claim_96 : decode cX4_claim 96 = .ok (.aload_n 0, 1) := by decide +kernel
theorem dX4_claim_97 : decode cX4_claim 97 = .ok (.getfield 26, 3) := by decide +kernel
theorem dX4_claim_100 : decode cX4_claim 100 = .ok (.iload 4, 2) := by decide +kernel
theorem dX4_claim_102 : decode cX4_claim 102 = .ok (.iload 5, 2) := by decide +kernel
theorem dX4_claim_104 : decode cX4_claim 104 = .ok (.isub, 1) := by decide +kernel
theorem dX4_claim_105 : decode cX4_claim 105 = .ok (.invokevirtual 132, 3) := by decide +kernel
theorem dX4_claim_108 : decode cX4_claim 108 = .ok (.istore 6, 2) := by decide +kernel
theorem dX4_claim_110 : decode cX4_claim 110 = .ok (.aload_n 0, 1) := by decide +kernel
theorem dX4_claim_111 : decode cX4_claim 111 = .ok (.getfield 26, 3) := by decide +kernel
theorem dX4_claim_114 : decode cX4_claim 114 = .ok (.iload 6, 2) := by decide +kernel
theorem dX4_claim_116 : decode cX4_claim 116 = .ok (.invokevirtual 136, 3) := by decide +kernel
theorem dX4_claim_119 : decode cX4_claim 119 = .ok (.istore 7, 2) := by decide +kernel
theorem dX4_claim_121 : decode cX4_claim 121 = .ok (.aload_n 0, 1) := by decide +kernel
theorem dX4_claim_122 : decode cX4_claim 122 = .ok (.iload 4, 2) := by decide +kernel
theorem dX4_claim_124 : decode cX4_claim 124 = .ok (.iload 5, 2) := by decide +kernel
theorem dX4_claim_126 : decode cX4_claim 126 = .ok (.iload 6, 2) := by decide +kernel
theorem dX4_claim_128 : decode cX4_claim 128 = .ok (.iadd, 1) := by decide +kernel
theorem dX4_claim_129 : decode cX4_claim 129 = .ok (.iload 7, 2) := by decide +kernel
theorem dX4_claim_131 : decode cX4_claim 131 = .ok (.aload_n 0, 1) := by decide +kernel
theorem dX4_claim_132 : decode cX4_claim 132 = .ok (.getfield 26, 3) := by decide +kernel
theorem dX4_claim_135 : decode cX4_claim 135 = .ok (.getfield 139, 3) := by decide +kernel
theorem dX4_claim_138 : decode cX4_claim 138 = .ok (.invokestatic 129, 3) := by decide +kernel
theorem dX4_claim_141 : decode cX4_claim 141 = .ok (.invokevirtual 142, 3) := by decide +kernel
theorem dX4_claim_144 : decode cX4_claim 144 = .ok (.aload_n 0, 1) := by decide +kernel
theorem dX4_claim_145 : decode cX4_claim 145 = .ok (.getfield 26, 3) := by decide +kernel
theorem dX4_claim_148 : decode cX4_claim 148 = .ok (.iload_n 1, 1) := by decide +kernel
theorem dX4_claim_149 : decode cX4_claim 149 = .ok (.iload_n 2, 1) := by decide +kernel
theorem dX4_claim_150 : decode cX4_claim 150 = .ok (.iload 4, 2) := by decide +kernel
theorem dX4_claim_152 : decode cX4_claim 152 = .ok (.iload 5, 2) := by decide +kernel
theorem dX4_claim_154 : decode cX4_claim 154 = .ok (.iload 6, 2) := by decide +kernel
theorem dX4_claim_156 : decode cX4_claim 156 = .ok (.iload 7, 2) := by decide +kernel
theorem dX4_claim_158 : decode cX4_claim 158 = .ok (.invokevirtual 145, 3) := by decide +kernel
theorem dX4_claim_161 : decode cX4_claim 161 = .ok (.iload 4, 2) := by decide +kernel
theorem dX4_claim_163 : decode cX4_claim 163 = .ok (.ireturn, 1) := by decide +kernel
theorem dX4_count_0 : decode cX4_count 0 = .ok (.iload_n 1, 1) := by decide +kernel
theorem dX4_count_1 : decode cX4_count 1 = .ok (.tableswitch 75 0 4 #[35, 43, 51, 59, 67], 35) := by decide +kernel
theorem dX4_count_36 : decode cX4_count 36 = .ok (.aload_n 0, 1) := by decide +kernel
theorem dX4_count_37 : decode cX4_count 37 = .ok (.getfield 19, 3) := by decide +kernel
theorem dX4_count_40 : decode cX4_count 40 = .ok (.getfield 69, 3) := by decide +kernel
theorem dX4_count_43 : decode cX4_count 43 = .ok (.ireturn, 1) := by decide +kernel
theorem dX4_count_44 : decode cX4_count 44 = .ok (.aload_n 0, 1) := by decide +kernel
theorem dX4_count_45 : decode cX4_count 45 = .ok (.getfield 19, 3) := by decide +kernel
theorem dX4_count_48 : decode cX4_count 48 = .ok (.getfield 149, 3) := by decide +kernel
theorem dX4_count_51 : decode cX4_count 51 = .ok (.ireturn, 1) := by decide +kernel
theorem dX4_count_52 : decode cX4_count 52 = .ok (.aload_n 0, 1) := by decide +kernel
theorem dX4_count_53 : decode cX4_count 53 = .ok (.getfield 26, 3) := by decide +kernel
theorem dX4_count_56 : decode cX4_count 56 = .ok (.getfield 75, 3) := by decide +kernel
theorem dX4_count_59 : decode cX4_count 59 = .ok (.ireturn, 1) := by decide +kernel
theorem dX4_count_60 : decode cX4_count 60 = .ok (.aload_n 0, 1) := by decide +kernel
theorem dX4_count_61 : decode cX4_count 61 = .ok (.getfield 33, 3) := by decide +kernel
theorem dX4_count_64 : decode cX4_count 64 = .ok (.getfield 152, 3) := by decide +kernel
theorem dX4_count_67 : decode cX4_count 67 = .ok (.ireturn, 1) := by decide +kernel
theorem dX4_count_68 : decode cX4_count 68 = .ok (.aload_n 0, 1) := by decide +kernel
theorem dX4_count_69 : decode cX4_count 69 = .ok (.getfield 10, 3) := by decide +kernel
theorem dX4_count_72 : decode cX4_count 72 = .ok (.getfield 41, 3) := by decide +kernel
theorem dX4_count_75 : decode cX4_count 75 = .ok (.ireturn, 1) := by decide +kernel
theorem dX4_count_76 : decode cX4_count 76 = .ok (.iconst (-1), 1) := by decide +kernel
theorem dX4_count_77 : decode cX4_count 77 = .ok (.ireturn, 1) := by decide +kernel
theorem dX4_fact_0 : decode cX4_fact 0 = .ok (.aload_n 0, 1) := by decide +kernel
theorem dX4_fact_1 : decode cX4_fact 1 = .ok (.iload_n 1, 1) := by decide +kernel
theorem dX4_fact_2 : decode cX4_fact 2 = .ok (.invokevirtual 109, 3) := by decide +kernel
theorem dX4_fact_5 : decode cX4_fact 5 = .ok (.ifCond .eq 12, 3) := by decide +kernel
theorem dX4_fact_8 : decode cX4_fact 8 = .ok (.iconst 0, 1) := by decide +kernel
theorem dX4_fact_9 : decode cX4_fact 9 = .ok (.iload_n 2, 1) := by decide +kernel
theorem dX4_fact_10 : decode cX4_fact 10 = .ok (.iconst 4, 1) := by decide +kernel
theorem dX4_fact_11 : decode cX4_fact 11 = .ok (.invokestatic 52, 3) := by decide +kernel
theorem dX4_fact_14 : decode cX4_fact 14 = .ok (.ifCond .ne 11, 3) := by decide +kernel
theorem dX4_fact_17 : decode cX4_fact 17 = .ok (.new 112, 3) := by decide +kernel
theorem dX4_fact_20 : decode cX4_fact 20 = .ok (.dup, 1) := by decide +kernel
theorem dX4_fact_21 : decode cX4_fact 21 = .ok (.invokespecial 114, 3) := by decide +kernel
theorem dX4_fact_24 : decode cX4_fact 24 = .ok (.athrow, 1) := by decide +kernel
theorem dX4_fact_25 : decode cX4_fact 25 = .ok (.aload_n 0, 1) := by decide +kernel
theorem dX4_fact_26 : decode cX4_fact 26 = .ok (.getfield 19, 3) := by decide +kernel
theorem dX4_fact_29 : decode cX4_fact 29 = .ok (.iload 4, 2) := by decide +kernel
theorem dX4_fact_31 : decode cX4_fact 31 = .ok (.invokevirtual 153, 3) := by decide +kernel
theorem dX4_fact_34 : decode cX4_fact 34 = .ok (.istore 5, 2) := by decide +kernel
theorem dX4_fact_36 : decode cX4_fact 36 = .ok (.aload_n 0, 1) := by decide +kernel
theorem dX4_fact_37 : decode cX4_fact 37 = .ok (.getfield 19, 3) := by decide +kernel
theorem dX4_fact_40 : decode cX4_fact 40 = .ok (.iload_n 1, 1) := by decide +kernel
theorem dX4_fact_41 : decode cX4_fact 41 = .ok (.iload_n 3, 1) := by decide +kernel
theorem dX4_fact_42 : decode cX4_fact 42 = .ok (.invokevirtual 115, 3) := by decide +kernel
theorem dX4_fact_45 : decode cX4_fact 45 = .ok (.ifCond .eq 16, 3) := by decide +kernel
theorem dX4_fact_48 : decode cX4_fact 48 = .ok (.aload_n 0, 1) := by decide +kernel
theorem dX4_fact_49 : decode cX4_fact 49 = .ok (.getfield 19, 3) := by decide +kernel
theorem dX4_fact_52 : decode cX4_fact 52 = .ok (.iload_n 1, 1) := by decide +kernel
theorem dX4_fact_53 : decode cX4_fact 53 = .ok (.iload 5, 2) := by decide +kernel
theorem dX4_fact_55 : decode cX4_fact 55 = .ok (.invokevirtual 156, 3) := by decide +kernel
theorem dX4_fact_58 : decode cX4_fact 58 = .ok (.ifCond .ne 5, 3) := by decide +kernel
theorem dX4_fact_61 : decode cX4_fact 61 = .ok (.iconst (-1), 1) := by decide +kernel
theorem dX4_fact_62 : decode cX4_fact 62 = .ok (.ireturn, 1) := by decide +kernel
theorem dX4_fact_63 : decode cX4_fact 63 = .ok (.iload_n 2, 1) := by decide +kernel
theorem dX4_fact_64 : decode cX4_fact 64 = .ok (.iconst 4, 1) := by decide +kernel
theorem dX4_fact_65 : decode cX4_fact 65 = .ok (.if_icmp .ne 21, 3) := by decide +kernel
theorem dX4_fact_68 : decode cX4_fact 68 = .ok (.aload_n 0, 1) := by decide +kernel
theorem dX4_fact_69 : decode cX4_fact 69 = .ok (.getfield 19, 3) := by decide +kernel
theorem dX4_fact_72 : decode cX4_fact 72 = .ok (.aload_n 0, 1) := by decide +kernel
theorem dX4_fact_73 : decode cX4_fact 73 = .ok (.getfield 10, 3) := by decide +kernel
theorem dX4_fact_76 : decode cX4_fact 76 = .ok (.iload_n 1, 1) := by decide +kernel
theorem dX4_fact_77 : decode cX4_fact 77 = .ok (.iload_n 3, 1) := by decide +kernel
theorem dX4_fact_78 : decode cX4_fact 78 = .ok (.iload 5, 2) := by decide +kernel
theorem dX4_fact_80 : decode cX4_fact 80 = .ok (.invokevirtual 159, 3) := by decide +kernel
theorem dX4_fact_83 : decode cX4_fact 83 = .ok (.goto 15, 3) := by decide +kernel
theorem dX4_fact_86 : decode cX4_fact 86 = .ok (.aload_n 0, 1) := by decide +kernel
theorem dX4_fact_87 : decode cX4_fact 87 = .ok (.getfield 19, 3) := by decide +kernel
theorem dX4_fact_90 : decode cX4_fact 90 = .ok (.iload_n 1, 1) := by decide +kernel
theorem dX4_fact_91 : decode cX4_fact 91 = .ok (.iload_n 2, 1) := by decide +kernel
theorem dX4_fact_92 : decode cX4_fact 92 = .ok (.iload_n 3, 1) := by decide +kernel
theorem dX4_fact_93 : decode cX4_fact 93 = .ok (.iload 5, 2) := by decide +kernel
theorem dX4_fact_95 : decode cX4_fact 95 = .ok (.invokevirtual 163, 3) := by decide +kernel
theorem dX4_fact_98 : decode cX4_fact 98 = .ok (.ireturn, 1) := by decide +kernel
theorem dX4_written_0 : decode cX4_written 0 = .ok (.aload_n 0, 1) := by decide +kernel
theorem dX4_written_1 : decode cX4_written 1 = .ok (.iload_n 1, 1) := by decide +kernel
theorem dX4_written_2 : decode cX4_written 2 = .ok (.invokevirtual 109, 3) := by decide +kernel
theorem dX4_written_5 : decode cX4_written 5 = .ok (.ifCond .ne 11, 3) := by decide +kernel
theorem dX4_written_8 : decode cX4_written 8 = .ok (.new 112, 3) := by decide +kernel
theorem dX4_written_11 : decode cX4_written 11 = .ok (.dup, 1) := by decide +kernel
theorem dX4_written_12 : decode cX4_written 12 = .ok (.invokespecial 114, 3) := by decide +kernel
theorem dX4_written_15 : decode cX4_written 15 = .ok (.athrow, 1) := by decide +kernel
theorem dX4_written_16 : decode cX4_written 16 = .ok (.aload_n 0, 1) := by decide +kernel
theorem dX4_written_17 : decode cX4_written 17 = .ok (.getfield 19, 3) := by decide +kernel
theorem dX4_written_20 : decode cX4_written 20 = .ok (.aload_n 0, 1) := by decide +kernel
theorem dX4_written_21 : decode cX4_written 21 = .ok (.getfield 10, 3) := by decide +kernel
theorem dX4_written_24 : decode cX4_written 24 = .ok (.iload_n 1, 1) := by decide +kernel
theorem dX4_written_25 : decode cX4_written 25 = .ok (.sipush 1000, 3) := by decide +kernel
theorem dX4_written_28 : decode cX4_written 28 = .ok (.aload_n 0, 1) := by decide +kernel
theorem dX4_written_29 : decode cX4_written 29 = .ok (.getfield 19, 3) := by decide +kernel
theorem dX4_written_32 : decode cX4_written 32 = .ok (.iload_n 2, 1) := by decide +kernel
theorem dX4_written_33 : decode cX4_written 33 = .ok (.invokevirtual 153, 3) := by decide +kernel
theorem dX4_written_36 : decode cX4_written 36 = .ok (.invokevirtual 167, 3) := by decide +kernel
theorem dX4_written_39 : decode cX4_written 39 = .ok (.ireturn, 1) := by decide +kernel
theorem dX4_earned_0 : decode cX4_earned 0 = .ok (.aload_n 0, 1) := by decide +kernel
theorem dX4_earned_1 : decode cX4_earned 1 = .ok (.iload_n 1, 1) := by decide +kernel
theorem dX4_earned_2 : decode cX4_earned 2 = .ok (.invokevirtual 109, 3) := by decide +kernel
theorem dX4_earned_5 : decode cX4_earned 5 = .ok (.ifCond .ne 11, 3) := by decide +kernel
theorem dX4_earned_8 : decode cX4_earned 8 = .ok (.new 112, 3) := by decide +kernel
theorem dX4_earned_11 : decode cX4_earned 11 = .ok (.dup, 1) := by decide +kernel
theorem dX4_earned_12 : decode cX4_earned 12 = .ok (.invokespecial 114, 3) := by decide +kernel
theorem dX4_earned_15 : decode cX4_earned 15 = .ok (.athrow, 1) := by decide +kernel
theorem dX4_earned_16 : decode cX4_earned 16 = .ok (.aload_n 0, 1) := by decide +kernel
theorem dX4_earned_17 : decode cX4_earned 17 = .ok (.getfield 19, 3) := by decide +kernel
theorem dX4_earned_20 : decode cX4_earned 20 = .ok (.aload_n 0, 1) := by decide +kernel
theorem dX4_earned_21 : decode cX4_earned 21 = .ok (.getfield 10, 3) := by decide +kernel
theorem dX4_earned_24 : decode cX4_earned 24 = .ok (.iload_n 1, 1) := by decide +kernel
theorem dX4_earned_25 : decode cX4_earned 25 = .ok (.iload_n 2, 1) := by decide +kernel
theorem dX4_earned_26 : decode cX4_earned 26 = .ok (.aload_n 0, 1) := by decide +kernel
theorem dX4_earned_27 : decode cX4_earned 27 = .ok (.getfield 19, 3) := by decide +kernel
theorem dX4_earned_30 : decode cX4_earned 30 = .ok (.iload_n 3, 1) := by decide +kernel
theorem dX4_earned_31 : decode cX4_earned 31 = .ok (.invokevirtual 153, 3) := by decide +kernel
theorem dX4_earned_34 : decode cX4_earned 34 = .ok (.invokevirtual 167, 3) := by decide +kernel
theorem dX4_earned_37 : decode cX4_earned 37 = .ok (.ireturn, 1) := by decide +kernel
theorem dX4_settled_0 : decode cX4_settled 0 = .ok (.iload_n 1, 1) := by decide +kernel
theorem dX4_settled_1 : decode cX4_settled 1 = .ok (.aload_n 0, 1) := by decide +kernel
theorem dX4_settled_2 : decode cX4_settled 2 = .ok (.getfield 26, 3) := by decide +kernel
theorem dX4_settled_5 : decode cX4_settled 5 = .ok (.getfield 75, 3) := by decide +kernel
theorem dX4_settled_8 : decode cX4_settled 8 = .ok (.invokestatic 170, 3) := by decide +kernel
theorem dX4_settled_11 : decode cX4_settled 11 = .ok (.ifCond .eq 12, 3) := by decide +kernel
theorem dX4_settled_14 : decode cX4_settled 14 = .ok (.iload_n 2, 1) := by decide +kernel
theorem dX4_settled_15 : decode cX4_settled 15 = .ok (.bipush 6, 2) := by decide +kernel
theorem dX4_settled_17 : decode cX4_settled 17 = .ok (.invokestatic 170, 3) := by decide +kernel
theorem dX4_settled_20 : decode cX4_settled 20 = .ok (.ifCond .ne 11, 3) := by decide +kernel
theorem dX4_settled_23 : decode cX4_settled 23 = .ok (.new 112, 3) := by decide +kernel
theorem dX4_settled_26 : decode cX4_settled 26 = .ok (.dup, 1) := by decide +kernel
theorem dX4_settled_27 : decode cX4_settled 27 = .ok (.invokespecial 114, 3) := by decide +kernel
theorem dX4_settled_30 : decode cX4_settled 30 = .ok (.athrow, 1) := by decide +kernel
theorem dX4_settled_31 : decode cX4_settled 31 = .ok (.aload_n 0, 1) := by decide +kernel
theorem dX4_settled_32 : decode cX4_settled 32 = .ok (.getfield 26, 3) := by decide +kernel
theorem dX4_settled_35 : decode cX4_settled 35 = .ok (.getfield 173, 3) := by decide +kernel
theorem dX4_settled_38 : decode cX4_settled 38 = .ok (.iload_n 1, 1) := by decide +kernel
theorem dX4_settled_39 : decode cX4_settled 39 = .ok (.bipush 6, 2) := by decide +kernel
theorem dX4_settled_41 : decode cX4_settled 41 = .ok (.imul, 1) := by decide +kernel
theorem dX4_settled_42 : decode cX4_settled 42 = .ok (.iload_n 2, 1) := by decide +kernel
theorem dX4_settled_43 : decode cX4_settled 43 = .ok (.iadd, 1) := by decide +kernel
theorem dX4_settled_44 : decode cX4_settled 44 = .ok (.iaload, 1) := by decide +kernel
theorem dX4_settled_45 : decode cX4_settled 45 = .ok (.ireturn, 1) := by decide +kernel
theorem dX4_posting_0 : decode cX4_posting 0 = .ok (.iload_n 1, 1) := by decide +kernel
theorem dX4_posting_1 : decode cX4_posting 1 = .ok (.aload_n 0, 1) := by decide +kernel
theorem dX4_posting_2 : decode cX4_posting 2 = .ok (.getfield 33, 3) := by decide +kernel
theorem dX4_posting_5 : decode cX4_posting 5 = .ok (.getfield 152, 3) := by decide +kernel
theorem dX4_posting_8 : decode cX4_posting 8 = .ok (.invokestatic 170, 3) := by decide +kernel
theorem dX4_posting_11 : decode cX4_posting 11 = .ok (.ifCond .eq 11, 3) := by decide +kernel
theorem dX4_posting_14 : decode cX4_posting 14 = .ok (.iload_n 2, 1) := by decide +kernel
theorem dX4_posting_15 : decode cX4_posting 15 = .ok (.iconst 3, 1) := by decide +kernel
theorem dX4_posting_16 : decode cX4_posting 16 = .ok (.invokestatic 170, 3) := by decide +kernel
theorem dX4_posting_19 : decode cX4_posting 19 = .ok (.ifCond .ne 11, 3) := by decide +kernel
theorem dX4_posting_22 : decode cX4_posting 22 = .ok (.new 112, 3) := by decide +kernel
theorem dX4_posting_25 : decode cX4_posting 25 = .ok (.dup, 1) := by decide +kernel
theorem dX4_posting_26 : decode cX4_posting 26 = .ok (.invokespecial 114, 3) := by decide +kernel
theorem dX4_posting_29 : decode cX4_posting 29 = .ok (.athrow, 1) := by decide +kernel
theorem dX4_posting_30 : decode cX4_posting 30 = .ok (.aload_n 0, 1) := by decide +kernel
theorem dX4_posting_31 : decode cX4_posting 31 = .ok (.getfield 33, 3) := by decide +kernel
theorem dX4_posting_34 : decode cX4_posting 34 = .ok (.getfield 177, 3) := by decide +kernel
theorem dX4_posting_37 : decode cX4_posting 37 = .ok (.iload_n 1, 1) := by decide +kernel
theorem dX4_posting_38 : decode cX4_posting 38 = .ok (.iconst 3, 1) := by decide +kernel
theorem dX4_posting_39 : decode cX4_posting 39 = .ok (.imul, 1) := by decide +kernel
theorem dX4_posting_40 : decode cX4_posting 40 = .ok (.iload_n 2, 1) := by decide +kernel
theorem dX4_posting_41 : decode cX4_posting 41 = .ok (.iadd, 1) := by decide +kernel
theorem dX4_posting_42 : decode cX4_posting 42 = .ok (.iaload, 1) := by decide +kernel
theorem dX4_posting_43 : decode cX4_posting 43 = .ok (.ireturn, 1) := by decide +kernel
theorem dX4_balance_0 : decode cX4_balance 0 = .ok (.iload_n 1, 1) := by decide +kernel
theorem dX4_balance_1 : decode cX4_balance 1 = .ok (.bipush 7, 2) := by decide +kernel
theorem dX4_balance_3 : decode cX4_balance 3 = .ok (.invokestatic 170, 3) := by decide +kernel
theorem dX4_balance_6 : decode cX4_balance 6 = .ok (.ifCond .ne 11, 3) := by decide +kernel
theorem dX4_balance_9 : decode cX4_balance 9 = .ok (.new 112, 3) := by decide +kernel
theorem dX4_balance_12 : decode cX4_balance 12 = .ok (.dup, 1) := by decide +kernel
theorem dX4_balance_13 : decode cX4_balance 13 = .ok (.invokespecial 114, 3) := by decide +kernel
theorem dX4_balance_16 : decode cX4_balance 16 = .ok (.athrow, 1) := by decide +kernel
theorem dX4_balance_17 : decode cX4_balance 17 = .ok (.aload_n 0, 1) := by decide +kernel
theorem dX4_balance_18 : decode cX4_balance 18 = .ok (.getfield 33, 3) := by decide +kernel
theorem dX4_balance_21 : decode cX4_balance 21 = .ok (.getfield 178, 3) := by decide +kernel
theorem dX4_balance_24 : decode cX4_balance 24 = .ok (.iload_n 1, 1) := by decide +kernel
theorem dX4_balance_25 : decode cX4_balance 25 = .ok (.iaload, 1) := by decide +kernel
theorem dX4_balance_26 : decode cX4_balance 26 = .ok (.ireturn, 1) := by decide +kernel
theorem dX4_isPlanClosed_0 : decode cX4_isPlanClosed 0 = .ok (.aload_n 0, 1) := by decide +kernel
theorem dX4_isPlanClosed_1 : decode cX4_isPlanClosed 1 = .ok (.getfield 19, 3) := by decide +kernel
theorem dX4_isPlanClosed_4 : decode cX4_isPlanClosed 4 = .ok (.getfield 69, 3) := by decide +kernel
theorem dX4_isPlanClosed_7 : decode cX4_isPlanClosed 7 = .ok (.ifCond .le 7, 3) := by decide +kernel
theorem dX4_isPlanClosed_10 : decode cX4_isPlanClosed 10 = .ok (.iconst 1, 1) := by decide +kernel
theorem dX4_isPlanClosed_11 : decode cX4_isPlanClosed 11 = .ok (.goto 4, 3) := by decide +kernel
theorem dX4_isPlanClosed_14 : decode cX4_isPlanClosed 14 = .ok (.iconst 0, 1) := by decide +kernel
theorem dX4_isPlanClosed_15 : decode cX4_isPlanClosed 15 = .ok (.ireturn, 1) := by decide +kernel
theorem dX4_isPlanGood_0 : decode cX4_isPlanGood 0 = .ok (.aload_n 0, 1) := by decide +kernel
theorem dX4_isPlanGood_1 : decode cX4_isPlanGood 1 = .ok (.invokevirtual 37, 3) := by decide +kernel
theorem dX4_isPlanGood_4 : decode cX4_isPlanGood 4 = .ok (.ifCond .ne 14, 3) := by decide +kernel
theorem dX4_isPlanGood_7 : decode cX4_isPlanGood 7 = .ok (.aload_n 0, 1) := by decide +kernel
theorem dX4_isPlanGood_8 : decode cX4_isPlanGood 8 = .ok (.getfield 10, 3) := by decide +kernel
theorem dX4_isPlanGood_11 : decode cX4_isPlanGood 11 = .ok (.invokevirtual 65, 3) := by decide +kernel
theorem dX4_isPlanGood_14 : decode cX4_isPlanGood 14 = .ok (.iconst (-1), 1) := by decide +kernel
theorem dX4_isPlanGood_15 : decode cX4_isPlanGood 15 = .ok (.if_icmp .ne 7, 3) := by decide +kernel
theorem dX4_isPlanGood_18 : decode cX4_isPlanGood 18 = .ok (.iconst 1, 1) := by decide +kernel
theorem dX4_isPlanGood_19 : decode cX4_isPlanGood 19 = .ok (.goto 4, 3) := by decide +kernel
theorem dX4_isPlanGood_22 : decode cX4_isPlanGood 22 = .ok (.iconst 0, 1) := by decide +kernel
theorem dX4_isPlanGood_23 : decode cX4_isPlanGood 23 = .ok (.ireturn, 1) := by decide +kernel
theorem dX4_isPolicy_0 : decode cX4_isPolicy 0 = .ok (.iload_n 1, 1) := by decide +kernel
theorem dX4_isPolicy_1 : decode cX4_isPolicy 1 = .ok (.aload_n 0, 1) := by decide +kernel
theorem dX4_isPolicy_2 : decode cX4_isPolicy 2 = .ok (.getfield 19, 3) := by decide +kernel
theorem dX4_isPolicy_5 : decode cX4_isPolicy 5 = .ok (.getfield 69, 3) := by decide +kernel
theorem dX4_isPolicy_8 : decode cX4_isPolicy 8 = .ok (.invokestatic 170, 3) := by decide +kernel
theorem dX4_isPolicy_11 : decode cX4_isPolicy 11 = .ok (.ireturn, 1) := by decide +kernel
theorem dX4_book_0 : decode cX4_book 0 = .ok (.aload_n 0, 1) := by decide +kernel
theorem dX4_book_1 : decode cX4_book 1 = .ok (.getfield 19, 3) := by decide +kernel
theorem dX4_book_4 : decode cX4_book 4 = .ok (.iload_n 1, 1) := by decide +kernel
theorem dX4_book_5 : decode cX4_book 5 = .ok (.iload_n 2, 1) := by decide +kernel
theorem dX4_book_6 : decode cX4_book 6 = .ok (.iload_n 3, 1) := by decide +kernel
theorem dX4_book_7 : decode cX4_book 7 = .ok (.iload 4, 2) := by decide +kernel
theorem dX4_book_9 : decode cX4_book 9 = .ok (.invokevirtual 181, 3) := by decide +kernel
theorem dX4_book_12 : decode cX4_book 12 = .ok (.aload_n 0, 1) := by decide +kernel
theorem dX4_book_13 : decode cX4_book 13 = .ok (.iload_n 1, 1) := by decide +kernel
theorem dX4_book_14 : decode cX4_book 14 = .ok (.iload 5, 2) := by decide +kernel
theorem dX4_book_16 : decode cX4_book 16 = .ok (.invokevirtual 102, 3) := by decide +kernel
theorem dX4_book_19 : decode cX4_book 19 = .ok (.aload_n 0, 1) := by decide +kernel
theorem dX4_book_20 : decode cX4_book 20 = .ok (.getfield 19, 3) := by decide +kernel
theorem dX4_book_23 : decode cX4_book 23 = .ok (.invokevirtual 184, 3) := by decide +kernel
theorem dX4_book_26 : decode cX4_book 26 = .ok (.ireturn, 1) := by decide +kernel
theorem dX4_postPremium_0 : decode cX4_postPremium 0 = .ok (.aload_n 0, 1) := by decide +kernel
theorem dX4_postPremium_1 : decode cX4_postPremium 1 = .ok (.getfield 19, 3) := by decide +kernel
theorem dX4_postPremium_4 : decode cX4_postPremium 4 = .ok (.getfield 149, 3) := by decide +kernel
theorem dX4_postPremium_7 : decode cX4_postPremium 7 = .ok (.istore_n 3, 1) := by decide +kernel
theorem dX4_postPremium_8 : decode cX4_postPremium 8 = .ok (.aload_n 0, 1) := by decide +kernel
theorem dX4_postPremium_9 : decode cX4_postPremium 9 = .ok (.getfield 19, 3) := by decide +kernel
theorem dX4_postPremium_12 : decode cX4_postPremium 12 = .ok (.aload_n 0, 1) := by decide +kernel
theorem dX4_postPremium_13 : decode cX4_postPremium 13 = .ok (.getfield 10, 3) := by decide +kernel
theorem dX4_postPremium_16 : decode cX4_postPremium 16 = .ok (.iload_n 1, 1) := by decide +kernel
theorem dX4_postPremium_17 : decode cX4_postPremium 17 = .ok (.sipush 1000, 3) := by decide +kernel
theorem dX4_postPremium_20 : decode cX4_postPremium 20 = .ok (.iload_n 3, 1) := by decide +kernel
theorem dX4_postPremium_21 : decode cX4_postPremium 21 = .ok (.iconst 1, 1) := by decide +kernel
theorem dX4_postPremium_22 : decode cX4_postPremium 22 = .ok (.iadd, 1) := by decide +kernel
theorem dX4_postPremium_23 : decode cX4_postPremium 23 = .ok (.invokevirtual 167, 3) := by decide +kernel
theorem dX4_postPremium_26 : decode cX4_postPremium 26 = .ok (.aload_n 0, 1) := by decide +kernel
theorem dX4_postPremium_27 : decode cX4_postPremium 27 = .ok (.getfield 19, 3) := by decide +kernel
theorem dX4_postPremium_30 : decode cX4_postPremium 30 = .ok (.aload_n 0, 1) := by decide +kernel
theorem dX4_postPremium_31 : decode cX4_postPremium 31 = .ok (.getfield 10, 3) := by decide +kernel
theorem dX4_postPremium_34 : decode cX4_postPremium 34 = .ok (.iload_n 1, 1) := by decide +kernel
theorem dX4_postPremium_35 : decode cX4_postPremium 35 = .ok (.sipush 1000, 3) := by decide +kernel
theorem dX4_postPremium_38 : decode cX4_postPremium 38 = .ok (.iload_n 3, 1) := by decide +kernel
theorem dX4_postPremium_39 : decode cX4_postPremium 39 = .ok (.invokevirtual 167, 3) := by decide +kernel
theorem dX4_postPremium_42 : decode cX4_postPremium 42 = .ok (.isub, 1) := by decide +kernel
theorem dX4_postPremium_43 : decode cX4_postPremium 43 = .ok (.istore 4, 2) := by decide +kernel
theorem dX4_postPremium_45 : decode cX4_postPremium 45 = .ok (.iload 4, 2) := by decide +kernel
theorem dX4_postPremium_47 : decode cX4_postPremium 47 = .ok (.aload_n 0, 1) := by decide +kernel
theorem dX4_postPremium_48 : decode cX4_postPremium 48 = .ok (.getfield 72, 3) := by decide +kernel
theorem dX4_postPremium_51 : decode cX4_postPremium 51 = .ok (.invokestatic 129, 3) := by decide +kernel
theorem dX4_postPremium_54 : decode cX4_postPremium 54 = .ok (.istore 5, 2) := by decide +kernel
theorem dX4_postPremium_56 : decode cX4_postPremium 56 = .ok (.iload_n 2, 1) := by decide +kernel
theorem dX4_postPremium_57 : decode cX4_postPremium 57 = .ok (.ifCond .eq 17, 3) := by decide +kernel
theorem dX4_postPremium_60 : decode cX4_postPremium 60 = .ok (.iload 4, 2) := by decide +kernel
theorem dX4_postPremium_62 : decode cX4_postPremium 62 = .ok (.ifCond .ge 12, 3) := by decide +kernel
theorem dX4_postPremium_65 : decode cX4_postPremium 65 = .ok (.iload 4, 2) := by decide +kernel
theorem dX4_postPremium_67 : decode cX4_postPremium 67 = .ok (.ineg, 1) := by decide +kernel
theorem dX4_postPremium_68 : decode cX4_postPremium 68 = .ok (.bipush 10, 2) := by decide +kernel
theorem dX4_postPremium_70 : decode cX4_postPremium 70 = .ok (.idiv, 1) := by decide +kernel
theorem dX4_postPremium_71 : decode cX4_postPremium 71 = .ok (.goto 4, 3) := by decide +kernel
theorem dX4_postPremium_74 : decode cX4_postPremium 74 = .ok (.iconst 0, 1) := by decide +kernel
theorem dX4_postPremium_75 : decode cX4_postPremium 75 = .ok (.istore 6, 2) := by decide +kernel
theorem dX4_postPremium_77 : decode cX4_postPremium 77 = .ok (.aload_n 0, 1) := by decide +kernel
theorem dX4_postPremium_78 : decode cX4_postPremium 78 = .ok (.getfield 33, 3) := by decide +kernel
theorem dX4_postPremium_81 : decode cX4_postPremium 81 = .ok (.iload 4, 2) := by decide +kernel
theorem dX4_postPremium_83 : decode cX4_postPremium 83 = .ok (.iload 5, 2) := by decide +kernel
theorem dX4_postPremium_85 : decode cX4_postPremium 85 = .ok (.iload 6, 2) := by decide +kernel
theorem dX4_postPremium_87 : decode cX4_postPremium 87 = .ok (.invokevirtual 187, 3) := by decide +kernel
theorem dX4_postPremium_90 : decode cX4_postPremium 90 = .ok (.ifCond .ne 11, 3) := by decide +kernel
theorem dX4_postPremium_93 : decode cX4_postPremium 93 = .ok (.new 190, 3) := by decide +kernel
theorem dX4_postPremium_96 : decode cX4_postPremium 96 = .ok (.dup, 1) := by decide +kernel
theorem dX4_postPremium_97 : decode cX4_postPremium 97 = .ok (.invokespecial 192, 3) := by decide +kernel
theorem dX4_postPremium_100 : decode cX4_postPremium 100 = .ok (.athrow, 1) := by decide +kernel
theorem dX4_postPremium_101 : decode cX4_postPremium 101 = .ok (.aload_n 0, 1) := by decide +kernel
theorem dX4_postPremium_102 : decode cX4_postPremium 102 = .ok (.getfield 33, 3) := by decide +kernel
theorem dX4_postPremium_105 : decode cX4_postPremium 105 = .ok (.iload 4, 2) := by decide +kernel
theorem dX4_postPremium_107 : decode cX4_postPremium 107 = .ok (.iconst 0, 1) := by decide +kernel
theorem dX4_postPremium_108 : decode cX4_postPremium 108 = .ok (.iconst 1, 1) := by decide +kernel
theorem dX4_postPremium_109 : decode cX4_postPremium 109 = .ok (.invokevirtual 193, 3) := by decide +kernel
theorem dX4_postPremium_112 : decode cX4_postPremium 112 = .ok (.aload_n 0, 1) := by decide +kernel
theorem dX4_postPremium_113 : decode cX4_postPremium 113 = .ok (.getfield 33, 3) := by decide +kernel
theorem dX4_postPremium_116 : decode cX4_postPremium 116 = .ok (.iload 5, 2) := by decide +kernel
theorem dX4_postPremium_118 : decode cX4_postPremium 118 = .ok (.iconst 3, 1) := by decide +kernel
theorem dX4_postPremium_119 : decode cX4_postPremium 119 = .ok (.iconst 2, 1) := by decide +kernel
theorem dX4_postPremium_120 : decode cX4_postPremium 120 = .ok (.invokevirtual 193, 3) := by decide +kernel
theorem dX4_postPremium_123 : decode cX4_postPremium 123 = .ok (.aload_n 0, 1) := by decide +kernel
theorem dX4_postPremium_124 : decode cX4_postPremium 124 = .ok (.getfield 33, 3) := by decide +kernel
theorem dX4_postPremium_127 : decode cX4_postPremium 127 = .ok (.iload 6, 2) := by decide +kernel
theorem dX4_postPremium_129 : decode cX4_postPremium 129 = .ok (.bipush 6, 2) := by decide +kernel
theorem dX4_postPremium_131 : decode cX4_postPremium 131 = .ok (.iconst 1, 1) := by decide +kernel
theorem dX4_postPremium_132 : decode cX4_postPremium 132 = .ok (.invokevirtual 193, 3) := by decide +kernel
theorem dX4_postPremium_135 : decode cX4_postPremium 135 = .ok (.return_, 1) := by decide +kernel
theorem dX4_postClaim_0 : decode cX4_postClaim 0 = .ok (.aload_n 0, 1) := by decide +kernel
theorem dX4_postClaim_1 : decode cX4_postClaim 1 = .ok (.getfield 33, 3) := by decide +kernel
theorem dX4_postClaim_4 : decode cX4_postClaim 4 = .ok (.iload_n 1, 1) := by decide +kernel
theorem dX4_postClaim_5 : decode cX4_postClaim 5 = .ok (.iload_n 2, 1) := by decide +kernel
theorem dX4_postClaim_6 : decode cX4_postClaim 6 = .ok (.iload_n 3, 1) := by decide +kernel
theorem dX4_postClaim_7 : decode cX4_postClaim 7 = .ok (.invokevirtual 187, 3) := by decide +kernel
theorem dX4_postClaim_10 : decode cX4_postClaim 10 = .ok (.ifCond .ne 11, 3) := by decide +kernel
theorem dX4_postClaim_13 : decode cX4_postClaim 13 = .ok (.new 190, 3) := by decide +kernel
theorem dX4_postClaim_16 : decode cX4_postClaim 16 = .ok (.dup, 1) := by decide +kernel
theorem dX4_postClaim_17 : decode cX4_postClaim 17 = .ok (.invokespecial 192, 3) := by decide +kernel
theorem dX4_postClaim_20 : decode cX4_postClaim 20 = .ok (.athrow, 1) := by decide +kernel
theorem dX4_postClaim_21 : decode cX4_postClaim 21 = .ok (.aload_n 0, 1) := by decide +kernel
theorem dX4_postClaim_22 : decode cX4_postClaim 22 = .ok (.getfield 33, 3) := by decide +kernel
theorem dX4_postClaim_25 : decode cX4_postClaim 25 = .ok (.iload_n 1, 1) := by decide +kernel
theorem dX4_postClaim_26 : decode cX4_postClaim 26 = .ok (.iconst 1, 1) := by decide +kernel
theorem dX4_postClaim_27 : decode cX4_postClaim 27 = .ok (.iconst 4, 1) := by decide +kernel
theorem dX4_postClaim_28 : decode cX4_postClaim 28 = .ok (.invokevirtual 193, 3) := by decide +kernel
theorem dX4_postClaim_31 : decode cX4_postClaim 31 = .ok (.aload_n 0, 1) := by decide +kernel
theorem dX4_postClaim_32 : decode cX4_postClaim 32 = .ok (.getfield 33, 3) := by decide +kernel
theorem dX4_postClaim_35 : decode cX4_postClaim 35 = .ok (.iload_n 2, 1) := by decide +kernel
theorem dX4_postClaim_36 : decode cX4_postClaim 36 = .ok (.iconst 5, 1) := by decide +kernel
theorem dX4_postClaim_37 : decode cX4_postClaim 37 = .ok (.iconst 3, 1) := by decide +kernel
theorem dX4_postClaim_38 : decode cX4_postClaim 38 = .ok (.invokevirtual 193, 3) := by decide +kernel
theorem dX4_postClaim_41 : decode cX4_postClaim 41 = .ok (.aload_n 0, 1) := by decide +kernel
theorem dX4_postClaim_42 : decode cX4_postClaim 42 = .ok (.getfield 33, 3) := by decide +kernel
theorem dX4_postClaim_45 : decode cX4_postClaim 45 = .ok (.iload_n 3, 1) := by decide +kernel
theorem dX4_postClaim_46 : decode cX4_postClaim 46 = .ok (.iconst 3, 1) := by decide +kernel
theorem dX4_postClaim_47 : decode cX4_postClaim 47 = .ok (.iconst 2, 1) := by decide +kernel
theorem dX4_postClaim_48 : decode cX4_postClaim 48 = .ok (.invokevirtual 193, 3) := by decide +kernel
theorem dX4_postClaim_51 : decode cX4_postClaim 51 = .ok (.return_, 1) := by decide +kernel
theorem dX4_percentOf_0 : decode cX4_percentOf 0 = .ok (.iload_n 0, 1) := by decide +kernel
theorem dX4_percentOf_1 : decode cX4_percentOf 1 = .ok (.iload_n 1, 1) := by decide +kernel
theorem dX4_percentOf_2 : decode cX4_percentOf 2 = .ok (.imul, 1) := by decide +kernel
theorem dX4_percentOf_3 : decode cX4_percentOf 3 = .ok (.bipush 100, 2) := by decide +kernel
theorem dX4_percentOf_5 : decode cX4_percentOf 5 = .ok (.invokestatic 196, 3) := by decide +kernel
theorem dX4_percentOf_8 : decode cX4_percentOf 8 = .ok (.ireturn, 1) := by decide +kernel
theorem dX4_isWithin_0 : decode cX4_isWithin 0 = .ok (.iload_n 0, 1) := by decide +kernel
theorem dX4_isWithin_1 : decode cX4_isWithin 1 = .ok (.iload_n 1, 1) := by decide +kernel
theorem dX4_isWithin_2 : decode cX4_isWithin 2 = .ok (.if_icmp .gt 12, 3) := by decide +kernel
theorem dX4_isWithin_5 : decode cX4_isWithin 5 = .ok (.iload_n 1, 1) := by decide +kernel
theorem dX4_isWithin_6 : decode cX4_isWithin 6 = .ok (.iload_n 2, 1) := by decide +kernel
theorem dX4_isWithin_7 : decode cX4_isWithin 7 = .ok (.if_icmp .gt 7, 3) := by decide +kernel
theorem dX4_isWithin_10 : decode cX4_isWithin 10 = .ok (.iconst 1, 1) := by decide +kernel
theorem dX4_isWithin_11 : decode cX4_isWithin 11 = .ok (.goto 4, 3) := by decide +kernel
theorem dX4_isWithin_14 : decode cX4_isWithin 14 = .ok (.iconst 0, 1) := by decide +kernel
theorem dX4_isWithin_15 : decode cX4_isWithin 15 = .ok (.ireturn, 1) := by decide +kernel
theorem dX4_isSpan_0 : decode cX4_isSpan 0 = .ok (.iconst 0, 1) := by decide +kernel
theorem dX4_isSpan_1 : decode cX4_isSpan 1 = .ok (.iload_n 0, 1) := by decide +kernel
theorem dX4_isSpan_2 : decode cX4_isSpan 2 = .ok (.if_icmp .gt 17, 3) := by decide +kernel
theorem dX4_isSpan_5 : decode cX4_isSpan 5 = .ok (.iload_n 0, 1) := by decide +kernel
theorem dX4_isSpan_6 : decode cX4_isSpan 6 = .ok (.iload_n 1, 1) := by decide +kernel
theorem dX4_isSpan_7 : decode cX4_isSpan 7 = .ok (.if_icmp .gt 12, 3) := by decide +kernel
theorem dX4_isSpan_10 : decode cX4_isSpan 10 = .ok (.iload_n 1, 1) := by decide +kernel
theorem dX4_isSpan_11 : decode cX4_isSpan 11 = .ok (.iload_n 2, 1) := by decide +kernel
theorem dX4_isSpan_12 : decode cX4_isSpan 12 = .ok (.if_icmp .gt 7, 3) := by decide +kernel
theorem dX4_isSpan_15 : decode cX4_isSpan 15 = .ok (.iconst 1, 1) := by decide +kernel
theorem dX4_isSpan_16 : decode cX4_isSpan 16 = .ok (.goto 4, 3) := by decide +kernel
theorem dX4_isSpan_19 : decode cX4_isSpan 19 = .ok (.iconst 0, 1) := by decide +kernel
theorem dX4_isSpan_20 : decode cX4_isSpan 20 = .ok (.ireturn, 1) := by decide +kernel
theorem dX4_isIndex_0 : decode cX4_isIndex 0 = .ok (.iconst 0, 1) := by decide +kernel
theorem dX4_isIndex_1 : decode cX4_isIndex 1 = .ok (.iload_n 0, 1) := by decide +kernel
theorem dX4_isIndex_2 : decode cX4_isIndex 2 = .ok (.if_icmp .gt 12, 3) := by decide +kernel
theorem dX4_isIndex_5 : decode cX4_isIndex 5 = .ok (.iload_n 0, 1) := by decide +kernel
theorem dX4_isIndex_6 : decode cX4_isIndex 6 = .ok (.iload_n 1, 1) := by decide +kernel
theorem dX4_isIndex_7 : decode cX4_isIndex 7 = .ok (.if_icmp .ge 7, 3) := by decide +kernel
theorem dX4_isIndex_10 : decode cX4_isIndex 10 = .ok (.iconst 1, 1) := by decide +kernel
theorem dX4_isIndex_11 : decode cX4_isIndex 11 = .ok (.goto 4, 3) := by decide +kernel
theorem dX4_isIndex_14 : decode cX4_isIndex 14 = .ok (.iconst 0, 1) := by decide +kernel
theorem dX4_isIndex_15 : decode cX4_isIndex 15 = .ok (.ireturn, 1) := by decide +kernel
theorem dX4_isDay_0 : decode cX4_isDay 0 = .ok (.iload_n 0, 1) := by decide +kernel
theorem dX4_isDay_1 : decode cX4_isDay 1 = .ok (.sipush 1000, 3) := by decide +kernel
theorem dX4_isDay_4 : decode cX4_isDay 4 = .ok (.invokestatic 170, 3) := by decide +kernel
theorem dX4_isDay_7 : decode cX4_isDay 7 = .ok (.ireturn, 1) := by decide +kernel
theorem dX4_isValueOf_0 : decode cX4_isValueOf 0 = .ok (.iload_n 0, 1) := by decide +kernel
theorem dX4_isValueOf_1 : decode cX4_isValueOf 1 = .ok (.tableswitch 52 0 2 #[27, 35, 43], 27) := by decide +kernel
theorem dX4_isValueOf_28 : decode cX4_isValueOf 28 = .ok (.iconst 0, 1) := by decide +kernel
theorem dX4_isValueOf_29 : decode cX4_isValueOf 29 = .ok (.iload_n 1, 1) := by decide +kernel
theorem dX4_isValueOf_30 : decode cX4_isValueOf 30 = .ok (.bipush 49, 2) := by decide +kernel
theorem dX4_isValueOf_32 : decode cX4_isValueOf 32 = .ok (.invokestatic 52, 3) := by decide +kernel
theorem dX4_isValueOf_35 : decode cX4_isValueOf 35 = .ok (.ireturn, 1) := by decide +kernel
theorem dX4_isValueOf_36 : decode cX4_isValueOf 36 = .ok (.iconst 0, 1) := by decide +kernel
theorem dX4_isValueOf_37 : decode cX4_isValueOf 37 = .ok (.iload_n 1, 1) := by decide +kernel
theorem dX4_isValueOf_38 : decode cX4_isValueOf 38 = .ok (.bipush 9, 2) := by decide +kernel
theorem dX4_isValueOf_40 : decode cX4_isValueOf 40 = .ok (.invokestatic 52, 3) := by decide +kernel
theorem dX4_isValueOf_43 : decode cX4_isValueOf 43 = .ok (.ireturn, 1) := by decide +kernel
theorem dX4_isValueOf_44 : decode cX4_isValueOf 44 = .ok (.iconst 1, 1) := by decide +kernel
theorem dX4_isValueOf_45 : decode cX4_isValueOf 45 = .ok (.iload_n 1, 1) := by decide +kernel
theorem dX4_isValueOf_46 : decode cX4_isValueOf 46 = .ok (.sipush 999, 3) := by decide +kernel
theorem dX4_isValueOf_49 : decode cX4_isValueOf 49 = .ok (.invokestatic 52, 3) := by decide +kernel
theorem dX4_isValueOf_52 : decode cX4_isValueOf 52 = .ok (.ireturn, 1) := by decide +kernel
theorem dX4_isValueOf_53 : decode cX4_isValueOf 53 = .ok (.iconst 0, 1) := by decide +kernel
theorem dX4_isValueOf_54 : decode cX4_isValueOf 54 = .ok (.ireturn, 1) := by decide +kernel
