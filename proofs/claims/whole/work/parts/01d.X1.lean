theorem dX1_init_0 : decode cX1_init 0 = .ok (.aload_n 0, 1) := by decide +kernel
theorem dX1_init_1 : decode cX1_init 1 = .ok (.invokespecial 3, 3) := by decide +kernel
theorem dX1_init_4 : decode cX1_init 4 = .ok (.aload_n 0, 1) := by decide +kernel
theorem dX1_init_5 : decode cX1_init 5 = .ok (.bipush 8, 2) := by decide +kernel
theorem dX1_init_7 : decode cX1_init 7 = .ok (.newarray .int, 2) := by decide +kernel
theorem dX1_init_9 : decode cX1_init 9 = .ok (.putfield 9, 3) := by decide +kernel
theorem dX1_init_12 : decode cX1_init 12 = .ok (.aload_n 0, 1) := by decide +kernel
theorem dX1_init_13 : decode cX1_init 13 = .ok (.bipush 8, 2) := by decide +kernel
theorem dX1_init_15 : decode cX1_init 15 = .ok (.newarray .int, 2) := by decide +kernel
theorem dX1_init_17 : decode cX1_init 17 = .ok (.putfield 15, 3) := by decide +kernel
theorem dX1_init_20 : decode cX1_init 20 = .ok (.aload_n 0, 1) := by decide +kernel
theorem dX1_init_21 : decode cX1_init 21 = .ok (.bipush 8, 2) := by decide +kernel
theorem dX1_init_23 : decode cX1_init 23 = .ok (.newarray .int, 2) := by decide +kernel
theorem dX1_init_25 : decode cX1_init 25 = .ok (.putfield 18, 3) := by decide +kernel
theorem dX1_init_28 : decode cX1_init 28 = .ok (.aload_n 0, 1) := by decide +kernel
theorem dX1_init_29 : decode cX1_init 29 = .ok (.bipush 8, 2) := by decide +kernel
theorem dX1_init_31 : decode cX1_init 31 = .ok (.newarray .int, 2) := by decide +kernel
theorem dX1_init_33 : decode cX1_init 33 = .ok (.putfield 21, 3) := by decide +kernel
theorem dX1_init_36 : decode cX1_init 36 = .ok (.aload_n 0, 1) := by decide +kernel
theorem dX1_init_37 : decode cX1_init 37 = .ok (.bipush 8, 2) := by decide +kernel
theorem dX1_init_39 : decode cX1_init 39 = .ok (.newarray .int, 2) := by decide +kernel
theorem dX1_init_41 : decode cX1_init 41 = .ok (.putfield 24, 3) := by decide +kernel
theorem dX1_init_44 : decode cX1_init 44 = .ok (.return_, 1) := by decide +kernel
theorem dX1_add_0 : decode cX1_add 0 = .ok (.aload_n 0, 1) := by decide +kernel
theorem dX1_add_1 : decode cX1_add 1 = .ok (.getfield 9, 3) := by decide +kernel
theorem dX1_add_4 : decode cX1_add 4 = .ok (.aload_n 0, 1) := by decide +kernel
theorem dX1_add_5 : decode cX1_add 5 = .ok (.getfield 27, 3) := by decide +kernel
theorem dX1_add_8 : decode cX1_add 8 = .ok (.iload_n 1, 1) := by decide +kernel
theorem dX1_add_9 : decode cX1_add 9 = .ok (.iastore, 1) := by decide +kernel
theorem dX1_add_10 : decode cX1_add 10 = .ok (.aload_n 0, 1) := by decide +kernel
theorem dX1_add_11 : decode cX1_add 11 = .ok (.getfield 15, 3) := by decide +kernel
theorem dX1_add_14 : decode cX1_add 14 = .ok (.aload_n 0, 1) := by decide +kernel
theorem dX1_add_15 : decode cX1_add 15 = .ok (.getfield 27, 3) := by decide +kernel
theorem dX1_add_18 : decode cX1_add 18 = .ok (.iload_n 2, 1) := by decide +kernel
theorem dX1_add_19 : decode cX1_add 19 = .ok (.iastore, 1) := by decide +kernel
theorem dX1_add_20 : decode cX1_add 20 = .ok (.aload_n 0, 1) := by decide +kernel
theorem dX1_add_21 : decode cX1_add 21 = .ok (.getfield 18, 3) := by decide +kernel
theorem dX1_add_24 : decode cX1_add 24 = .ok (.aload_n 0, 1) := by decide +kernel
theorem dX1_add_25 : decode cX1_add 25 = .ok (.getfield 27, 3) := by decide +kernel
theorem dX1_add_28 : decode cX1_add 28 = .ok (.iload_n 3, 1) := by decide +kernel
theorem dX1_add_29 : decode cX1_add 29 = .ok (.iastore, 1) := by decide +kernel
theorem dX1_add_30 : decode cX1_add 30 = .ok (.aload_n 0, 1) := by decide +kernel
theorem dX1_add_31 : decode cX1_add 31 = .ok (.getfield 21, 3) := by decide +kernel
theorem dX1_add_34 : decode cX1_add 34 = .ok (.aload_n 0, 1) := by decide +kernel
theorem dX1_add_35 : decode cX1_add 35 = .ok (.getfield 27, 3) := by decide +kernel
theorem dX1_add_38 : decode cX1_add 38 = .ok (.iload 4, 2) := by decide +kernel
theorem dX1_add_40 : decode cX1_add 40 = .ok (.iastore, 1) := by decide +kernel
theorem dX1_add_41 : decode cX1_add 41 = .ok (.aload_n 0, 1) := by decide +kernel
theorem dX1_add_42 : decode cX1_add 42 = .ok (.getfield 24, 3) := by decide +kernel
theorem dX1_add_45 : decode cX1_add 45 = .ok (.aload_n 0, 1) := by decide +kernel
theorem dX1_add_46 : decode cX1_add 46 = .ok (.getfield 27, 3) := by decide +kernel
theorem dX1_add_49 : decode cX1_add 49 = .ok (.iload 5, 2) := by decide +kernel
theorem dX1_add_51 : decode cX1_add 51 = .ok (.iastore, 1) := by decide +kernel
theorem dX1_add_52 : decode cX1_add 52 = .ok (.aload_n 0, 1) := by decide +kernel
theorem dX1_add_53 : decode cX1_add 53 = .ok (.dup, 1) := by decide +kernel
theorem dX1_add_54 : decode cX1_add 54 = .ok (.getfield 27, 3) := by decide +kernel
theorem dX1_add_57 : decode cX1_add 57 = .ok (.iconst 1, 1) := by decide +kernel
theorem dX1_add_58 : decode cX1_add 58 = .ok (.iadd, 1) := by decide +kernel
theorem dX1_add_59 : decode cX1_add 59 = .ok (.putfield 27, 3) := by decide +kernel
theorem dX1_add_62 : decode cX1_add 62 = .ok (.aload_n 0, 1) := by decide +kernel
theorem dX1_add_63 : decode cX1_add 63 = .ok (.getfield 27, 3) := by decide +kernel
theorem dX1_add_66 : decode cX1_add 66 = .ok (.iconst 1, 1) := by decide +kernel
theorem dX1_add_67 : decode cX1_add 67 = .ok (.isub, 1) := by decide +kernel
theorem dX1_add_68 : decode cX1_add 68 = .ok (.ireturn, 1) := by decide +kernel
theorem dX1_dropLatest_0 : decode cX1_dropLatest 0 = .ok (.aload_n 0, 1) := by decide +kernel
theorem dX1_dropLatest_1 : decode cX1_dropLatest 1 = .ok (.dup, 1) := by decide +kernel
theorem dX1_dropLatest_2 : decode cX1_dropLatest 2 = .ok (.getfield 27, 3) := by decide +kernel
theorem dX1_dropLatest_5 : decode cX1_dropLatest 5 = .ok (.iconst 1, 1) := by decide +kernel
theorem dX1_dropLatest_6 : decode cX1_dropLatest 6 = .ok (.isub, 1) := by decide +kernel
theorem dX1_dropLatest_7 : decode cX1_dropLatest 7 = .ok (.putfield 27, 3) := by decide +kernel
theorem dX1_dropLatest_10 : decode cX1_dropLatest 10 = .ok (.return_, 1) := by decide +kernel
theorem dX1_firstFault_0 : decode cX1_firstFault 0 = .ok (.iconst 0, 1) := by decide +kernel
theorem dX1_firstFault_1 : decode cX1_firstFault 1 = .ok (.istore_n 1, 1) := by decide +kernel
theorem dX1_firstFault_2 : decode cX1_firstFault 2 = .ok (.iload_n 1, 1) := by decide +kernel
theorem dX1_firstFault_3 : decode cX1_firstFault 3 = .ok (.bipush 49, 2) := by decide +kernel
theorem dX1_firstFault_5 : decode cX1_firstFault 5 = .ok (.if_icmp .gt 40, 3) := by decide +kernel
theorem dX1_firstFault_8 : decode cX1_firstFault 8 = .ok (.iconst 0, 1) := by decide +kernel
theorem dX1_firstFault_9 : decode cX1_firstFault 9 = .ok (.istore_n 2, 1) := by decide +kernel
theorem dX1_firstFault_10 : decode cX1_firstFault 10 = .ok (.iload_n 2, 1) := by decide +kernel
theorem dX1_firstFault_11 : decode cX1_firstFault 11 = .ok (.bipush 9, 2) := by decide +kernel
theorem dX1_firstFault_13 : decode cX1_firstFault 13 = .ok (.if_icmp .gt 26, 3) := by decide +kernel
theorem dX1_firstFault_16 : decode cX1_firstFault 16 = .ok (.aload_n 0, 1) := by decide +kernel
theorem dX1_firstFault_17 : decode cX1_firstFault 17 = .ok (.iload_n 1, 1) := by decide +kernel
theorem dX1_firstFault_18 : decode cX1_firstFault 18 = .ok (.iload_n 2, 1) := by decide +kernel
theorem dX1_firstFault_19 : decode cX1_firstFault 19 = .ok (.invokevirtual 31, 3) := by decide +kernel
theorem dX1_firstFault_22 : decode cX1_firstFault 22 = .ok (.iconst 1, 1) := by decide +kernel
theorem dX1_firstFault_23 : decode cX1_firstFault 23 = .ok (.if_icmp .eq 10, 3) := by decide +kernel
theorem dX1_firstFault_26 : decode cX1_firstFault 26 = .ok (.bipush 10, 2) := by decide +kernel
theorem dX1_firstFault_28 : decode cX1_firstFault 28 = .ok (.iload_n 1, 1) := by decide +kernel
theorem dX1_firstFault_29 : decode cX1_firstFault 29 = .ok (.imul, 1) := by decide +kernel
theorem dX1_firstFault_30 : decode cX1_firstFault 30 = .ok (.iload_n 2, 1) := by decide +kernel
theorem dX1_firstFault_31 : decode cX1_firstFault 31 = .ok (.iadd, 1) := by decide +kernel
theorem dX1_firstFault_32 : decode cX1_firstFault 32 = .ok (.ireturn, 1) := by decide +kernel
theorem dX1_firstFault_33 : decode cX1_firstFault 33 = .ok (.iinc 2 1, 3) := by decide +kernel
theorem dX1_firstFault_36 : decode cX1_firstFault 36 = .ok (.goto (-26), 3) := by decide +kernel
theorem dX1_firstFault_39 : decode cX1_firstFault 39 = .ok (.iinc 1 1, 3) := by decide +kernel
theorem dX1_firstFault_42 : decode cX1_firstFault 42 = .ok (.goto (-40), 3) := by decide +kernel
theorem dX1_firstFault_45 : decode cX1_firstFault 45 = .ok (.iconst (-1), 1) := by decide +kernel
theorem dX1_firstFault_46 : decode cX1_firstFault 46 = .ok (.ireturn, 1) := by decide +kernel
theorem dX1_matches_0 : decode cX1_matches 0 = .ok (.iconst 0, 1) := by decide +kernel
theorem dX1_matches_1 : decode cX1_matches 1 = .ok (.istore_n 3, 1) := by decide +kernel
theorem dX1_matches_2 : decode cX1_matches 2 = .ok (.iconst 0, 1) := by decide +kernel
theorem dX1_matches_3 : decode cX1_matches 3 = .ok (.istore 4, 2) := by decide +kernel
theorem dX1_matches_5 : decode cX1_matches 5 = .ok (.iload 4, 2) := by decide +kernel
theorem dX1_matches_7 : decode cX1_matches 7 = .ok (.aload_n 0, 1) := by decide +kernel
theorem dX1_matches_8 : decode cX1_matches 8 = .ok (.getfield 27, 3) := by decide +kernel
theorem dX1_matches_11 : decode cX1_matches 11 = .ok (.if_icmp .ge 23, 3) := by decide +kernel
theorem dX1_matches_14 : decode cX1_matches 14 = .ok (.aload_n 0, 1) := by decide +kernel
theorem dX1_matches_15 : decode cX1_matches 15 = .ok (.iload 4, 2) := by decide +kernel
theorem dX1_matches_17 : decode cX1_matches 17 = .ok (.iload_n 1, 1) := by decide +kernel
theorem dX1_matches_18 : decode cX1_matches 18 = .ok (.iload_n 2, 1) := by decide +kernel
theorem dX1_matches_19 : decode cX1_matches 19 = .ok (.invokevirtual 35, 3) := by decide +kernel
theorem dX1_matches_22 : decode cX1_matches 22 = .ok (.ifCond .eq 6, 3) := by decide +kernel
theorem dX1_matches_25 : decode cX1_matches 25 = .ok (.iinc 3 1, 3) := by decide +kernel
theorem dX1_matches_28 : decode cX1_matches 28 = .ok (.iinc 4 1, 3) := by decide +kernel
theorem dX1_matches_31 : decode cX1_matches 31 = .ok (.goto (-26), 3) := by decide +kernel
theorem dX1_matches_34 : decode cX1_matches 34 = .ok (.iload_n 3, 1) := by decide +kernel
theorem dX1_matches_35 : decode cX1_matches 35 = .ok (.ireturn, 1) := by decide +kernel
theorem dX1_rateOf_0 : decode cX1_rateOf 0 = .ok (.iconst 0, 1) := by decide +kernel
theorem dX1_rateOf_1 : decode cX1_rateOf 1 = .ok (.istore_n 3, 1) := by decide +kernel
theorem dX1_rateOf_2 : decode cX1_rateOf 2 = .ok (.iload_n 3, 1) := by decide +kernel
theorem dX1_rateOf_3 : decode cX1_rateOf 3 = .ok (.aload_n 0, 1) := by decide +kernel
theorem dX1_rateOf_4 : decode cX1_rateOf 4 = .ok (.getfield 27, 3) := by decide +kernel
theorem dX1_rateOf_7 : decode cX1_rateOf 7 = .ok (.if_icmp .ge 26, 3) := by decide +kernel
theorem dX1_rateOf_10 : decode cX1_rateOf 10 = .ok (.aload_n 0, 1) := by decide +kernel
theorem dX1_rateOf_11 : decode cX1_rateOf 11 = .ok (.iload_n 3, 1) := by decide +kernel
theorem dX1_rateOf_12 : decode cX1_rateOf 12 = .ok (.iload_n 1, 1) := by decide +kernel
theorem dX1_rateOf_13 : decode cX1_rateOf 13 = .ok (.iload_n 2, 1) := by decide +kernel
theorem dX1_rateOf_14 : decode cX1_rateOf 14 = .ok (.invokevirtual 35, 3) := by decide +kernel
theorem dX1_rateOf_17 : decode cX1_rateOf 17 = .ok (.ifCond .eq 10, 3) := by decide +kernel
theorem dX1_rateOf_20 : decode cX1_rateOf 20 = .ok (.aload_n 0, 1) := by decide +kernel
theorem dX1_rateOf_21 : decode cX1_rateOf 21 = .ok (.getfield 24, 3) := by decide +kernel
theorem dX1_rateOf_24 : decode cX1_rateOf 24 = .ok (.iload_n 3, 1) := by decide +kernel
theorem dX1_rateOf_25 : decode cX1_rateOf 25 = .ok (.iaload, 1) := by decide +kernel
theorem dX1_rateOf_26 : decode cX1_rateOf 26 = .ok (.ireturn, 1) := by decide +kernel
theorem dX1_rateOf_27 : decode cX1_rateOf 27 = .ok (.iinc 3 1, 3) := by decide +kernel
theorem dX1_rateOf_30 : decode cX1_rateOf 30 = .ok (.goto (-28), 3) := by decide +kernel
theorem dX1_rateOf_33 : decode cX1_rateOf 33 = .ok (.iconst 0, 1) := by decide +kernel
theorem dX1_rateOf_34 : decode cX1_rateOf 34 = .ok (.ireturn, 1) := by decide +kernel
theorem dX1_isMatch_0 : decode cX1_isMatch 0 = .ok (.aload_n 0, 1) := by decide +kernel
theorem dX1_isMatch_1 : decode cX1_isMatch 1 = .ok (.getfield 9, 3) := by decide +kernel
theorem dX1_isMatch_4 : decode cX1_isMatch 4 = .ok (.iload_n 1, 1) := by decide +kernel
theorem dX1_isMatch_5 : decode cX1_isMatch 5 = .ok (.iaload, 1) := by decide +kernel
theorem dX1_isMatch_6 : decode cX1_isMatch 6 = .ok (.iload_n 2, 1) := by decide +kernel
theorem dX1_isMatch_7 : decode cX1_isMatch 7 = .ok (.if_icmp .gt 37, 3) := by decide +kernel
theorem dX1_isMatch_10 : decode cX1_isMatch 10 = .ok (.iload_n 2, 1) := by decide +kernel
theorem dX1_isMatch_11 : decode cX1_isMatch 11 = .ok (.aload_n 0, 1) := by decide +kernel
theorem dX1_isMatch_12 : decode cX1_isMatch 12 = .ok (.getfield 15, 3) := by decide +kernel
theorem dX1_isMatch_15 : decode cX1_isMatch 15 = .ok (.iload_n 1, 1) := by decide +kernel
theorem dX1_isMatch_16 : decode cX1_isMatch 16 = .ok (.iaload, 1) := by decide +kernel
theorem dX1_isMatch_17 : decode cX1_isMatch 17 = .ok (.if_icmp .gt 27, 3) := by decide +kernel
theorem dX1_isMatch_20 : decode cX1_isMatch 20 = .ok (.aload_n 0, 1) := by decide +kernel
theorem dX1_isMatch_21 : decode cX1_isMatch 21 = .ok (.getfield 18, 3) := by decide +kernel
theorem dX1_isMatch_24 : decode cX1_isMatch 24 = .ok (.iload_n 1, 1) := by decide +kernel
theorem dX1_isMatch_25 : decode cX1_isMatch 25 = .ok (.iaload, 1) := by decide +kernel
theorem dX1_isMatch_26 : decode cX1_isMatch 26 = .ok (.iload_n 3, 1) := by decide +kernel
theorem dX1_isMatch_27 : decode cX1_isMatch 27 = .ok (.if_icmp .gt 17, 3) := by decide +kernel
theorem dX1_isMatch_30 : decode cX1_isMatch 30 = .ok (.iload_n 3, 1) := by decide +kernel
theorem dX1_isMatch_31 : decode cX1_isMatch 31 = .ok (.aload_n 0, 1) := by decide +kernel
theorem dX1_isMatch_32 : decode cX1_isMatch 32 = .ok (.getfield 21, 3) := by decide +kernel
theorem dX1_isMatch_35 : decode cX1_isMatch 35 = .ok (.iload_n 1, 1) := by decide +kernel
theorem dX1_isMatch_36 : decode cX1_isMatch 36 = .ok (.iaload, 1) := by decide +kernel
theorem dX1_isMatch_37 : decode cX1_isMatch 37 = .ok (.if_icmp .gt 7, 3) := by decide +kernel
theorem dX1_isMatch_40 : decode cX1_isMatch 40 = .ok (.iconst 1, 1) := by decide +kernel
theorem dX1_isMatch_41 : decode cX1_isMatch 41 = .ok (.goto 4, 3) := by decide +kernel
theorem dX1_isMatch_44 : decode cX1_isMatch 44 = .ok (.iconst 0, 1) := by decide +kernel
theorem dX1_isMatch_45 : decode cX1_isMatch 45 = .ok (.ireturn, 1) := by decide +kernel
