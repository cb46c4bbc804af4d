theorem dX5_runs_9 : decode cX5_runs 9 = .ok (.aload_n 0, 1) := by decide +kernel
theorem dX5_runs_10 : decode cX5_runs 10 = .ok (.getfield 34, 3) := by decide +kernel
theorem dX5_runs_13 : decode cX5_runs 13 = .ok (.iconst 3, 1) := by decide +kernel
theorem dX5_runs_14 : decode cX5_runs 14 = .ok (.iaload, 1) := by decide +kernel
theorem dX5_runs_15 : decode cX5_runs 15 = .ok (.ifCond .lt 18, 3) := by decide +kernel
theorem dX5_runs_18 : decode cX5_runs 18 = .ok (.aload_n 0, 1) := by decide +kernel
theorem dX5_runs_19 : decode cX5_runs 19 = .ok (.getfield 19, 3) := by decide +kernel
theorem dX5_runs_22 : decode cX5_runs 22 = .ok (.aload_n 0, 1) := by decide +kernel
theorem dX5_runs_23 : decode cX5_runs 23 = .ok (.getfield 34, 3) := by decide +kernel
theorem dX5_runs_26 : decode cX5_runs 26 = .ok (.iconst 3, 1) := by decide +kernel
theorem dX5_runs_27 : decode cX5_runs 27 = .ok (.iaload, 1) := by decide +kernel
theorem dX5_runs_28 : decode cX5_runs 28 = .ok (.iaload, 1) := by decide +kernel
theorem dX5_runs_29 : decode cX5_runs 29 = .ok (.iconst 3, 1) := by decide +kernel
theorem dX5_runs_30 : decode cX5_runs 30 = .ok (.if_icmp .ne 7, 3) := by decide +kernel
theorem dX5_runs_33 : decode cX5_runs 33 = .ok (.iconst 1, 1) := by decide +kernel
theorem dX5_runs_34 : decode cX5_runs 34 = .ok (.goto 4, 3) := by decide +kernel
theorem dX5_runs_37 : decode cX5_runs 37 = .ok (.iconst 0, 1) := by decide +kernel
theorem dX5_runs_38 : decode cX5_runs 38 = .ok (.ireturn, 1) := by decide +kernel
set_option maxRecDepth 20000 in
theorem ggX5_inForce_X5_inTerm : GoodIn wsX5_inForce wsX5_inTerm := goodIn_r _ [5, 6, 7, 22, 23, 24, 25, 26, 27, 28, 29, 30, 31, 32, 33, 34, 35, 36, 37, 38, 39, 40, 41, 42, 43, 44, 45, 46, 47, 48, 49, 50, 51, 52] (by decide +kernel) (by decide +kernel)
set_option maxRecDepth 20000 in
theorem gX5_inForce_X5_inTerm : GoodIn wsX5_inForce (wsV RX5 118 RX5 yX5_inTerm wsX5_inTerm) := goodIn_app (goodIn_of _ (by decide +kernel)) ggX5_inForce_X5_inTerm
set_option maxRecDepth 20000 in
theorem ggX5_inForce_X5_look : GoodIn wsX5_inForce wsX5_look := goodIn_r _ [11, 12, 13, 14, 15, 16, 17, 22, 23, 24, 25, 26, 27, 28, 29, 30, 31, 32, 33, 34, 35, 36, 37, 38, 39, 40, 41, 42, 43, 44, 45, 46, 47, 48, 49, 50, 51, 52] (by decide +kernel) (by decide +kernel)
set_option maxRecDepth 20000 in
theorem gX5_inForce_X5_look : GoodIn wsX5_inForce (wsV RX5 114 RX5 yX5_look wsX5_look) := goodIn_app (goodIn_of _ (by decide +kernel)) ggX5_inForce_X5_look
set_option maxRecDepth 20000 in
theorem ggX5_inForce_X5_runs : GoodIn wsX5_inForce wsX5_runs := goodIn_r _ [21, 12, 16, 22, 23, 24, 25, 26, 27, 28, 29, 30, 31, 32, 33, 34, 35, 36, 37, 38, 39, 40, 41, 42, 43, 44, 45, 46, 47, 48, 49, 50, 51, 52] (by decide +kernel) (by decide +kernel)
set_option maxRecDepth 20000 in
theorem gX5_inForce_X5_runs : GoodIn wsX5_inForce (wsV RX5 122 RX5 yX5_runs wsX5_runs) := goodIn_app (goodIn_of _ (by decide +kernel)) ggX5_inForce_X5_runs
theorem dX5_inForce_0 : decode cX5_inForce 0 = .ok (.aload_n 0, 1) := by decide +kernel
theorem dX5_inForce_1 : decode cX5_inForce 1 = .ok (.iload_n 1, 1) := by decide +kernel
theorem dX5_inForce_2 : decode cX5_inForce 2 = .ok (.iload_n 2, 1) := by decide +kernel
theorem dX5_inForce_3 : decode cX5_inForce 3 = .ok (.invokevirtual 118, 3) := by decide +kernel
theorem dX5_inForce_6 : decode cX5_inForce 6 = .ok (.ifCond .ne 5, 3) := by decide +kernel
theorem dX5_inForce_9 : decode cX5_inForce 9 = .ok (.iconst 0, 1) := by decide +kernel
theorem dX5_inForce_10 : decode cX5_inForce 10 = .ok (.ireturn, 1) := by decide +kernel
theorem dX5_inForce_11 : decode cX5_inForce 11 = .ok (.aload_n 0, 1) := by decide +kernel
theorem dX5_inForce_12 : decode cX5_inForce 12 = .ok (.iload_n 1, 1) := by decide +kernel
theorem dX5_inForce_13 : decode cX5_inForce 13 = .ok (.iload_n 2, 1) := by decide +kernel
theorem dX5_inForce_14 : decode cX5_inForce 14 = .ok (.iload_n 3, 1) := by decide +kernel
theorem dX5_inForce_15 : decode cX5_inForce 15 = .ok (.invokevirtual 114, 3) := by decide +kernel
theorem dX5_inForce_18 : decode cX5_inForce 18 = .ok (.aload_n 0, 1) := by decide +kernel
theorem dX5_inForce_19 : decode cX5_inForce 19 = .ok (.invokevirtual 122, 3) := by decide +kernel
theorem dX5_inForce_22 : decode cX5_inForce 22 = .ok (.ireturn, 1) := by decide +kernel
set_option maxRecDepth 20000 in
theorem ggX5_charge_X5_look : GoodIn wsX5_charge wsX5_look := goodIn_r _ [5, 6, 7, 8, 9, 10, 11, 32, 33, 34, 35, 36, 37, 38, 39, 40, 41, 42, 43, 44, 45, 46, 47, 48, 49, 50, 51, 52, 53, 54, 55, 56, 57, 58, 59, 60, 61, 62] (by decide +kernel) (by decide +kernel)
set_option maxRecDepth 20000 in
theorem gX5_charge_X5_look : GoodIn wsX5_charge (wsV RX5 114 RX5 yX5_look wsX5_look) := goodIn_app (goodIn_of _ (by decide +kernel)) ggX5_charge_X5_look
set_option maxRecDepth 20000 in
theorem ggX5_charge_X5_runs : GoodIn wsX5_charge wsX5_runs := goodIn_r _ [15, 6, 10, 32, 33, 34, 35, 36, 37, 38, 39, 40, 41, 42, 43, 44, 45, 46, 47, 48, 49, 50, 51, 52, 53, 54, 55, 56, 57, 58, 59, 60, 61, 62] (by decide +kernel) (by decide +kernel)
set_option maxRecDepth 20000 in
theorem gX5_charge_X5_runs : GoodIn wsX5_charge (wsV RX5 122 RX5 yX5_runs wsX5_runs) := goodIn_app (goodIn_of _ (by decide +kernel)) ggX5_charge_X5_runs
set_option maxRecDepth 20000 in
theorem ggX5_charge_X5_known : GoodIn wsX5_charge wsX5_known := goodIn_r _ [19, 6, 10, 20, 21, 32, 33, 34, 35, 36, 37, 38, 39, 40, 41, 42, 43, 44, 45, 46, 47, 48, 49, 50, 51, 52, 53, 54, 55, 56, 57, 58, 59, 60, 61, 62] (by decide +kernel) (by decide +kernel)
set_option maxRecDepth 20000 in
theorem gX5_charge_X5_known : GoodIn wsX5_charge (wsV RX5 126 RX5 yX5_known wsX5_known) := goodIn_app (goodIn_of _ (by decide +kernel)) ggX5_charge_X5_known
set_option maxRecDepth 20000 in
theorem ggX5_charge_X5_rate : GoodIn wsX5_charge wsX5_rate := goodIn_r _ [25, 26, 27, 28, 29, 30, 4, 31, 32, 33, 34, 35, 36, 37, 38, 39, 40, 41, 42, 43, 44, 45, 46, 47, 48, 49, 50, 51, 52, 53, 54, 55, 56, 57, 58, 59, 60, 61, 62] (by decide +kernel) (by decide +kernel)
set_option maxRecDepth 20000 in
theorem gX5_charge_X5_rate : GoodIn wsX5_charge (wsV RX5 130 RX5 yX5_rate wsX5_rate) := goodIn_app (goodIn_of _ (by decide +kernel)) ggX5_charge_X5_rate
theorem dX5_charge_0 : decode cX5_charge 0 = .ok (.aload_n 0, 1) := by decide +kernel
theorem dX5_charge_1 : decode cX5_charge 1 = .ok (.iload_n 1, 1) := by decide +kernel
theorem dX5_charge_2 : decode cX5_charge 2 = .ok (.iload_n 2, 1) := by decide +kernel
theorem dX5_charge_3 : decode cX5_charge 3 = .ok (.iload_n 3, 1) := by decide +kernel
theorem dX5_charge_4 : decode cX5_charge 4 = .ok (.invokevirtual 114, 3) := by decide +kernel
theorem dX5_charge_7 : decode cX5_charge 7 = .ok (.aload_n 0, 1) := by decide +kernel
theorem dX5_charge_8 : decode cX5_charge 8 = .ok (.invokevirtual 122, 3) := by decide +kernel
theorem dX5_charge_11 : decode cX5_charge 11 = .ok (.ifCond .eq 26, 3) := by decide +kernel
theorem dX5_charge_14 : decode cX5_charge 14 = .ok (.aload_n 0, 1) := by decide +kernel
theorem dX5_charge_15 : decode cX5_charge 15 = .ok (.iconst 2, 1) := by decide +kernel
theorem dX5_charge_16 : decode cX5_charge 16 = .ok (.invokevirtual 126, 3) := by decide +kernel
theorem dX5_charge_19 : decode cX5_charge 19 = .ok (.aload_n 0, 1) := by decide +kernel
theorem dX5_charge_20 : decode cX5_charge 20 = .ok (.aload_n 0, 1) := by decide +kernel
theorem dX5_charge_21 : decode cX5_charge 21 = .ok (.iconst 0, 1) := by decide +kernel
theorem dX5_charge_22 : decode cX5_charge 22 = .ok (.invokevirtual 126, 3) := by decide +kernel
theorem dX5_charge_25 : decode cX5_charge 25 = .ok (.aload_n 0, 1) := by decide +kernel
theorem dX5_charge_26 : decode cX5_charge 26 = .ok (.iconst 1, 1) := by decide +kernel
theorem dX5_charge_27 : decode cX5_charge 27 = .ok (.invokevirtual 126, 3) := by decide +kernel
theorem dX5_charge_30 : decode cX5_charge 30 = .ok (.invokevirtual 130, 3) := by decide +kernel
theorem dX5_charge_33 : decode cX5_charge 33 = .ok (.imul, 1) := by decide +kernel
theorem dX5_charge_34 : decode cX5_charge 34 = .ok (.goto 4, 3) := by decide +kernel
theorem dX5_charge_37 : decode cX5_charge 37 = .ok (.iconst 0, 1) := by decide +kernel
theorem dX5_charge_38 : decode cX5_charge 38 = .ok (.ireturn, 1) := by decide +kernel
set_option maxRecDepth 20000 in
theorem ggX5_charges_X5_charge : GoodIn wsX5_charges wsX5_charge := goodIn_r _ [7, 8, 9, 10, 6, 11, 12, 13, 14, 15, 16, 17, 18, 19, 20, 21, 22, 23, 24, 25, 26, 27, 28, 29, 30, 31, 32, 33, 34, 35, 36, 37, 38, 39, 40, 41, 42, 43, 44, 45, 46, 47, 48, 49, 50, 51, 52, 53, 54, 55, 56, 57, 58, 59, 60, 61, 62, 63, 64, 65, 66, 67, 68] (by decide +kernel) (by decide +kernel)
set_option maxRecDepth 20000 in
theorem gX5_charges_X5_charge : GoodIn wsX5_charges (wsV RX5 134 RX5 yX5_charge wsX5_charge) := goodIn_app (goodIn_of _ (by decide +kernel)) ggX5_charges_X5_charge
theorem dX5_charges_0 : decode cX5_charges 0 = .ok (.iconst 0, 1) := by decide +kernel
theorem dX5_charges_1 : decode cX5_charges 1 = .ok (.istore 4, 2) := by decide +kernel
theorem dX5_charges_3 : decode cX5_charges 3 = .ok (.aload_n 0, 1) := by decide +kernel
theorem dX5_charges_4 : decode cX5_charges 4 = .ok (.getfield 13, 3) := by decide +kernel
theorem dX5_charges_7 : decode cX5_charges 7 = .ok (.iload_n 1, 1) := by decide +kernel
theorem dX5_charges_8 : decode cX5_charges 8 = .ok (.iaload, 1) := by decide +kernel
theorem dX5_charges_9 : decode cX5_charges 9 = .ok (.istore 5, 2) := by decide +kernel
theorem dX5_charges_11 : decode cX5_charges 11 = .ok (.iload 5, 2) := by decide +kernel
theorem dX5_charges_13 : decode cX5_charges 13 = .ok (.aload_n 0, 1) := by decide +kernel
theorem dX5_charges_14 : decode cX5_charges 14 = .ok (.getfield 16, 3) := by decide +kernel
theorem dX5_charges_17 : decode cX5_charges 17 = .ok (.iload_n 1, 1) := by decide +kernel
theorem dX5_charges_18 : decode cX5_charges 18 = .ok (.iaload, 1) := by decide +kernel
theorem dX5_charges_19 : decode cX5_charges 19 = .ok (.if_icmp .gt 28, 3) := by decide +kernel
theorem dX5_charges_22 : decode cX5_charges 22 = .ok (.iload 5, 2) := by decide +kernel
theorem dX5_charges_24 : decode cX5_charges 24 = .ok (.iload_n 2, 1) := by decide +kernel
theorem dX5_charges_25 : decode cX5_charges 25 = .ok (.if_icmp .ge 22, 3) := by decide +kernel
theorem dX5_charges_28 : decode cX5_charges 28 = .ok (.iload 4, 2) := by decide +kernel
theorem dX5_charges_30 : decode cX5_charges 30 = .ok (.aload_n 0, 1) := by decide +kernel
theorem dX5_charges_31 : decode cX5_charges 31 = .ok (.iload_n 1, 1) := by decide +kernel
theorem dX5_charges_32 : decode cX5_charges 32 = .ok (.iload 5, 2) := by decide +kernel
theorem dX5_charges_34 : decode cX5_charges 34 = .ok (.iload_n 3, 1) := by decide +kernel
theorem dX5_charges_35 : decode cX5_charges 35 = .ok (.invokevirtual 134, 3) := by decide +kernel
theorem dX5_charges_38 : decode cX5_charges 38 = .ok (.iadd, 1) := by decide +kernel
theorem dX5_charges_39 : decode cX5_charges 39 = .ok (.istore 4, 2) := by decide +kernel
theorem dX5_charges_41 : decode cX5_charges 41 = .ok (.iinc 5 1, 3) := by decide +kernel
theorem dX5_charges_44 : decode cX5_charges 44 = .ok (.goto (-33), 3) := by decide +kernel
theorem dX5_charges_47 : decode cX5_charges 47 = .ok (.iload 4, 2) := by decide +kernel
theorem dX5_charges_49 : decode cX5_charges 49 = .ok (.sipush 1000, 3) := by decide +kernel
theorem dX5_charges_52 : decode cX5_charges 52 = .ok (.idiv, 1) := by decide +kernel
theorem dX5_charges_53 : decode cX5_charges 53 = .ok (.ireturn, 1) := by decide +kernel
theorem dX5_drafted_0 : decode cX5_drafted 0 = .ok (.iload_n 1, 1) := by decide +kernel
theorem dX5_drafted_1 : decode cX5_drafted 1 = .ok (.ifCond .ne 4, 3) := by decide +kernel
theorem dX5_drafted_4 : decode cX5_drafted 4 = .ok (.return_, 1) := by decide +kernel
theorem dX5_drafted_5 : decode cX5_drafted 5 = .ok (.aload_n 0, 1) := by decide +kernel
theorem dX5_drafted_6 : decode cX5_drafted 6 = .ok (.getfield 46, 3) := by decide +kernel
theorem dX5_drafted_9 : decode cX5_drafted 9 = .ok (.aload_n 0, 1) := by decide +kernel
theorem dX5_drafted_10 : decode cX5_drafted 10 = .ok (.getfield 138, 3) := by decide +kernel
theorem dX5_drafted_13 : decode cX5_drafted 13 = .ok (.iload_n 1, 1) := by decide +kernel
theorem dX5_drafted_14 : decode cX5_drafted 14 = .ok (.ifCond .le 7, 3) := by decide +kernel
theorem dX5_drafted_17 : decode cX5_drafted 17 = .ok (.iload_n 2, 1) := by decide +kernel
theorem dX5_drafted_18 : decode cX5_drafted 18 = .ok (.goto 4, 3) := by decide +kernel
theorem dX5_drafted_21 : decode cX5_drafted 21 = .ok (.iload_n 3, 1) := by decide +kernel
theorem dX5_drafted_22 : decode cX5_drafted 22 = .ok (.iastore, 1) := by decide +kernel
theorem dX5_drafted_23 : decode cX5_drafted 23 = .ok (.aload_n 0, 1) := by decide +kernel
theorem dX5_drafted_24 : decode cX5_drafted 24 = .ok (.getfield 49, 3) := by decide +kernel
theorem dX5_drafted_27 : decode cX5_drafted 27 = .ok (.aload_n 0, 1) := by decide +kernel
theorem dX5_drafted_28 : decode cX5_drafted 28 = .ok (.getfield 138, 3) := by decide +kernel
theorem dX5_drafted_31 : decode cX5_drafted 31 = .ok (.iload_n 1, 1) := by decide +kernel
theorem dX5_drafted_32 : decode cX5_drafted 32 = .ok (.ifCond .le 7, 3) := by decide +kernel
theorem dX5_drafted_35 : decode cX5_drafted 35 = .ok (.iload_n 3, 1) := by decide +kernel
theorem dX5_drafted_36 : decode cX5_drafted 36 = .ok (.goto 4, 3) := by decide +kernel
theorem dX5_drafted_39 : decode cX5_drafted 39 = .ok (.iload_n 2, 1) := by decide +kernel
theorem dX5_drafted_40 : decode cX5_drafted 40 = .ok (.iastore, 1) := by decide +kernel
theorem dX5_drafted_41 : decode cX5_drafted 41 = .ok (.aload_n 0, 1) := by decide +kernel
theorem dX5_drafted_42 : decode cX5_drafted 42 = .ok (.getfield 52, 3) := by decide +kernel
theorem dX5_drafted_45 : decode cX5_drafted 45 = .ok (.aload_n 0, 1) := by decide +kernel
theorem dX5_drafted_46 : decode cX5_drafted 46 = .ok (.getfield 138, 3) := by decide +kernel
theorem dX5_drafted_49 : decode cX5_drafted 49 = .ok (.iload_n 1, 1) := by decide +kernel
theorem dX5_drafted_50 : decode cX5_drafted 50 = .ok (.ifCond .le 7, 3) := by decide +kernel
theorem dX5_drafted_53 : decode cX5_drafted 53 = .ok (.iload_n 1, 1) := by decide +kernel
theorem dX5_drafted_54 : decode cX5_drafted 54 = .ok (.goto 5, 3) := by decide +kernel
theorem dX5_drafted_57 : decode cX5_drafted 57 = .ok (.iload_n 1, 1) := by decide +kernel
theorem dX5_drafted_58 : decode cX5_drafted 58 = .ok (.ineg, 1) := by decide +kernel
theorem dX5_drafted_59 : decode cX5_drafted 59 = .ok (.iastore, 1) := by decide +kernel
theorem dX5_drafted_60 : decode cX5_drafted 60 = .ok (.aload_n 0, 1) := by decide +kernel
theorem dX5_drafted_61 : decode cX5_drafted 61 = .ok (.dup, 1) := by decide +kernel
theorem dX5_drafted_62 : decode cX5_drafted 62 = .ok (.getfield 138, 3) := by decide +kernel
theorem dX5_drafted_65 : decode cX5_drafted 65 = .ok (.iconst 1, 1) := by decide +kernel
theorem dX5_drafted_66 : decode cX5_drafted 66 = .ok (.iadd, 1) := by decide +kernel
theorem dX5_drafted_67 : decode cX5_drafted 67 = .ok (.putfield 138, 3) := by decide +kernel
theorem dX5_drafted_70 : decode cX5_drafted 70 = .ok (.return_, 1) := by decide +kernel
theorem dX5_posts_0 : decode cX5_posts 0 = .ok (.aload_n 0, 1) := by decide +kernel
theorem dX5_posts_1 : decode cX5_posts 1 = .ok (.getfield 141, 3) := by decide +kernel
theorem dX5_posts_4 : decode cX5_posts 4 = .ok (.aload_n 0, 1) := by decide +kernel
theorem dX5_posts_5 : decode cX5_posts 5 = .ok (.getfield 138, 3) := by decide +kernel
theorem dX5_posts_8 : decode cX5_posts 8 = .ok (.iadd, 1) := by decide +kernel
theorem dX5_posts_9 : decode cX5_posts 9 = .ok (.bipush 90, 2) := by decide +kernel
theorem dX5_posts_11 : decode cX5_posts 11 = .ok (.if_icmp .le 5, 3) := by decide +kernel
theorem dX5_posts_14 : decode cX5_posts 14 = .ok (.iconst 0, 1) := by decide +kernel
theorem dX5_posts_15 : decode cX5_posts 15 = .ok (.ireturn, 1) := by decide +kernel
theorem dX5_posts_16 : decode cX5_posts 16 = .ok (.iconst 0, 1) := by decide +kernel
theorem dX5_posts_17 : decode cX5_posts 17 = .ok (.istore_n 1, 1) := by decide +kernel
theorem dX5_posts_18 : decode cX5_posts 18 = .ok (.iload_n 1, 1) := by decide +kernel
theorem dX5_posts_19 : decode cX5_posts 19 = .ok (.aload_n 0, 1) := by decide +kernel
theorem dX5_posts_20 : decode cX5_posts 20 = .ok (.getfield 138, 3) := by decide +kernel
theorem dX5_posts_23 : decode cX5_posts 23 = .ok (.if_icmp .ge 64, 3) := by decide +kernel
theorem dX5_posts_26 : decode cX5_posts 26 = .ok (.aload_n 0, 1) := by decide +kernel
theorem dX5_posts_27 : decode cX5_posts 27 = .ok (.getfield 37, 3) := by decide +kernel
theorem dX5_posts_30 : decode cX5_posts 30 = .ok (.aload_n 0, 1) := by decide +kernel
theorem dX5_posts_31 : decode cX5_posts 31 = .ok (.getfield 141, 3) := by decide +kernel
theorem dX5_posts_34 : decode cX5_posts 34 = .ok (.aload_n 0, 1) := by decide +kernel
theorem dX5_posts_35 : decode cX5_posts 35 = .ok (.getfield 46, 3) := by decide +kernel
theorem dX5_posts_38 : decode cX5_posts 38 = .ok (.iload_n 1, 1) := by decide +kernel
theorem dX5_posts_39 : decode cX5_posts 39 = .ok (.iaload, 1) := by decide +kernel
theorem dX5_posts_40 : decode cX5_posts 40 = .ok (.iastore, 1) := by decide +kernel
theorem dX5_posts_41 : decode cX5_posts 41 = .ok (.aload_n 0, 1) := by decide +kernel
theorem dX5_posts_42 : decode cX5_posts 42 = .ok (.getfield 40, 3) := by decide +kernel
theorem dX5_posts_45 : decode cX5_posts 45 = .ok (.aload_n 0, 1) := by decide +kernel
theorem dX5_posts_46 : decode cX5_posts 46 = .ok (.getfield 141, 3) := by decide +kernel
theorem dX5_posts_49 : decode cX5_posts 49 = .ok (.aload_n 0, 1) := by decide +kernel
theorem dX5_posts_50 : decode cX5_posts 50 = .ok (.getfield 49, 3) := by decide +kernel
theorem dX5_posts_53 : decode cX5_posts 53 = .ok (.iload_n 1, 1) := by decide +kernel
theorem dX5_posts_54 : decode cX5_posts 54 = .ok (.iaload, 1) := by decide +kernel
theorem dX5_posts_55 : decode cX5_posts 55 = .ok (.iastore, 1) := by decide +kernel
theorem dX5_posts_56 : decode cX5_posts 56 = .ok (.aload_n 0, 1) := by decide +kernel
theorem dX5_posts_57 : decode cX5_posts 57 = .ok (.getfield 43, 3) := by decide +kernel
theorem dX5_posts_60 : decode cX5_posts 60 = .ok (.aload_n 0, 1) := by decide +kernel
theorem dX5_posts_61 : decode cX5_posts 61 = .ok (.getfield 141, 3) := by decide +kernel
theorem dX5_posts_64 : decode cX5_posts 64 = .ok (.aload_n 0, 1) := by decide +kernel
theorem dX5_posts_65 : decode cX5_posts 65 = .ok (.getfield 52, 3) := by decide +kernel
theorem dX5_posts_68 : decode cX5_posts 68 = .ok (.iload_n 1, 1) := by decide +kernel
theorem dX5_posts_69 : decode cX5_posts 69 = .ok (.iaload, 1) := by decide +kernel
theorem dX5_posts_70 : decode cX5_posts 70 = .ok (.iastore, 1) := by decide +kernel
theorem dX5_posts_71 : decode cX5_posts 71 = .ok (.aload_n 0, 1) := by decide +kernel
theorem dX5_posts_72 : decode cX5_posts 72 = .ok (.dup, 1) := by decide +kernel
theorem dX5_posts_73 : decode cX5_posts 73 = .ok (.getfield 141, 3) := by decide +kernel
theorem dX5_posts_76 : decode cX5_posts 76 = .ok (.iconst 1, 1) := by decide +kernel
theorem dX5_posts_77 : decode cX5_posts 77 = .ok (.iadd, 1) := by decide +kernel
theorem dX5_posts_78 : decode cX5_posts 78 = .ok (.putfield 141, 3) := by decide +kernel
theorem dX5_posts_81 : decode cX5_posts 81 = .ok (.iinc 1 1, 3) := by decide +kernel
theorem dX5_posts_84 : decode cX5_posts 84 = .ok (.goto (-66), 3) := by decide +kernel
theorem dX5_posts_87 : decode cX5_posts 87 = .ok (.iconst 1, 1) := by decide +kernel
theorem dX5_posts_88 : decode cX5_posts 88 = .ok (.ireturn, 1) := by decide +kernel
set_option maxRecDepth 20000 in
theorem ggX5_books_X5_charges : GoodIn wsX5_books wsX5_charges := goodIn_r _ [9, 10, 11, 12, 13, 14, 8, 15, 16, 17, 18, 19, 20, 2, 1, 21, 22, 23, 24, 25, 26, 27, 28, 29, 30, 31, 32, 33, 34, 35, 36, 37, 38, 39, 40, 41, 42, 43, 62, 63, 64, 65, 66, 67, 68, 69, 70, 71, 72, 73, 74, 75, 76, 77, 78, 79, 80, 81, 82, 83, 84, 85, 86, 87, 88, 89, 90, 91, 92] (by decide +kernel) (by decide +kernel)
set_option maxRecDepth 20000 in
theorem gX5_books_X5_charges : GoodIn wsX5_books (wsV RX5 144 RX5 yX5_charges wsX5_charges) := goodIn_app (goodIn_of _ (by decide +kernel)) ggX5_books_X5_charges
set_option maxRecDepth 20000 in
theorem ggX5_books_X5_drafted : GoodIn wsX5_books wsX5_drafted := goodIn_r _ [47, 48, 3, 49, 50, 62, 63, 64, 65, 66, 67, 68, 69, 70, 71, 72, 73, 74, 75, 76, 77, 78, 79, 80, 81, 82, 83, 84, 85, 86, 87, 88, 89, 90, 91, 92] (by decide +kernel) (by decide +kernel)
set_option maxRecDepth 20000 in
theorem gX5_books_X5_drafted : GoodIn wsX5_books (wsV RX5 147 RX5 yX5_drafted wsX5_drafted) := goodIn_app (goodIn_of _ (by decide +kernel)) ggX5_books_X5_drafted
set_option maxRecDepth 20000 in
theorem ggX5_books_X5_down : GoodIn wsX5_books wsX5_down := goodIn_r _ [53] (by decide +kernel) (by decide +kernel)
set_option maxRecDepth 20000 in
theorem gX5_books_X5_down : GoodIn wsX5_books (va_wsS RX5 150 yX5_down wsX5_down) := goodIn_app (goodIn_of _ (by decide +kernel)) ggX5_books_X5_down
set_option maxRecDepth 20000 in
theorem ggX5_books_X5_posts : GoodIn wsX5_books wsX5_posts := goodIn_r _ [57, 58, 3, 59, 48, 60, 49, 61, 50, 62, 63, 64, 65, 66, 67, 68, 69, 70, 71, 72, 73, 74, 75, 76, 77, 78, 79, 80, 81, 82, 83, 84, 85, 86, 87, 88, 89, 90, 91, 92] (by decide +kernel) (by decide +kernel)
set_option maxRecDepth 20000 in
theorem gX5_books_X5_posts : GoodIn wsX5_books (wsV RX5 153 RX5 yX5_posts wsX5_posts) := goodIn_app (goodIn_of _ (by decide +kernel)) ggX5_books_X5_posts
theorem dX5_books_0 : decode cX5_books 0 = .ok (.aload_n 0, 1) := by decide +kernel
theorem dX5_books_1 : decode cX5_books 1 = .ok (.getfield 22, 3) := by decide +kernel
theorem dX5_books_4 : decode cX5_books 4 = .ok (.aload_n 0, 1) := by decide +kernel
theorem dX5_books_5 : decode cX5_books 5 = .ok (.getfield 110, 3) := by decide +kernel
theorem dX5_books_8 : decode cX5_books 8 = .ok (.iaload, 1) := by decide +kernel
theorem dX5_books_9 : decode cX5_books 9 = .ok (.istore_n 2, 1) := by decide +kernel
theorem dX5_books_10 : decode cX5_books 10 = .ok (.aload_n 0, 1) := by decide +kernel
theorem dX5_books_11 : decode cX5_books 11 = .ok (.dup, 1) := by decide +kernel
theorem dX5_books_12 : decode cX5_books 12 = .ok (.getfield 110, 3) := by decide +kernel
theorem dX5_books_15 : decode cX5_books 15 = .ok (.iconst 1, 1) := by decide +kernel
theorem dX5_books_16 : decode cX5_books 16 = .ok (.iadd, 1) := by decide +kernel
theorem dX5_books_17 : decode cX5_books 17 = .ok (.putfield 110, 3) := by decide +kernel
theorem dX5_books_20 : decode cX5_books 20 = .ok (.aload_n 0, 1) := by decide +kernel
theorem dX5_books_21 : decode cX5_books 21 = .ok (.iload_n 2, 1) := by decide +kernel
theorem dX5_books_22 : decode cX5_books 22 = .ok (.sipush 1000, 3) := by decide +kernel
theorem dX5_books_25 : decode cX5_books 25 = .ok (.aload_n 0, 1) := by decide +kernel
theorem dX5_books_26 : decode cX5_books 26 = .ok (.getfield 110, 3) := by decide +kernel
theorem dX5_books_29 : decode cX5_books 29 = .ok (.iconst 1, 1) := by decide +kernel
theorem dX5_books_30 : decode cX5_books 30 = .ok (.isub, 1) := by decide +kernel
theorem dX5_books_31 : decode cX5_books 31 = .ok (.invokevirtual 144, 3) := by decide +kernel
theorem dX5_books_34 : decode cX5_books 34 = .ok (.aload_n 0, 1) := by decide +kernel
theorem dX5_books_35 : decode cX5_books 35 = .ok (.iload_n 2, 1) := by decide +kernel
theorem dX5_books_36 : decode cX5_books 36 = .ok (.sipush 1000, 3) := by decide +kernel
theorem dX5_books_39 : decode cX5_books 39 = .ok (.aload_n 0, 1) := by decide +kernel
theorem dX5_books_40 : decode cX5_books 40 = .ok (.getfield 110, 3) := by decide +kernel
theorem dX5_books_43 : decode cX5_books 43 = .ok (.iconst 2, 1) := by decide +kernel
theorem dX5_books_44 : decode cX5_books 44 = .ok (.isub, 1) := by decide +kernel
theorem dX5_books_45 : decode cX5_books 45 = .ok (.invokevirtual 144, 3) := by decide +kernel
theorem dX5_books_48 : decode cX5_books 48 = .ok (.isub, 1) := by decide +kernel
theorem dX5_books_49 : decode cX5_books 49 = .ok (.istore_n 3, 1) := by decide +kernel
theorem dX5_books_50 : decode cX5_books 50 = .ok (.aload_n 0, 1) := by decide +kernel
theorem dX5_books_51 : decode cX5_books 51 = .ok (.iconst 0, 1) := by decide +kernel
theorem dX5_books_52 : decode cX5_books 52 = .ok (.putfield 138, 3) := by decide +kernel
theorem dX5_books_55 : decode cX5_books 55 = .ok (.aload_n 0, 1) := by decide +kernel
theorem dX5_books_56 : decode cX5_books 56 = .ok (.iload_n 3, 1) := by decide +kernel
theorem dX5_books_57 : decode cX5_books 57 = .ok (.iconst 0, 1) := by decide +kernel
theorem dX5_books_58 : decode cX5_books 58 = .ok (.iconst 1, 1) := by decide +kernel
theorem dX5_books_59 : decode cX5_books 59 = .ok (.invokevirtual 147, 3) := by decide +kernel
theorem dX5_books_62 : decode cX5_books 62 = .ok (.aload_n 0, 1) := by decide +kernel
theorem dX5_books_63 : decode cX5_books 63 = .ok (.iload_n 3, 1) := by decide +kernel
theorem dX5_books_64 : decode cX5_books 64 = .ok (.aload_n 0, 1) := by decide +kernel
theorem dX5_books_65 : decode cX5_books 65 = .ok (.getfield 92, 3) := by decide +kernel
theorem dX5_books_68 : decode cX5_books 68 = .ok (.imul, 1) := by decide +kernel
theorem dX5_books_69 : decode cX5_books 69 = .ok (.bipush 100, 2) := by decide +kernel
theorem dX5_books_71 : decode cX5_books 71 = .ok (.invokestatic 150, 3) := by decide +kernel
theorem dX5_books_74 : decode cX5_books 74 = .ok (.iconst 3, 1) := by decide +kernel
theorem dX5_books_75 : decode cX5_books 75 = .ok (.iconst 2, 1) := by decide +kernel
theorem dX5_books_76 : decode cX5_books 76 = .ok (.invokevirtual 147, 3) := by decide +kernel
theorem dX5_books_79 : decode cX5_books 79 = .ok (.iload_n 1, 1) := by decide +kernel
theorem dX5_books_80 : decode cX5_books 80 = .ok (.ifCond .eq 19, 3) := by decide +kernel
theorem dX5_books_83 : decode cX5_books 83 = .ok (.iload_n 3, 1) := by decide +kernel
theorem dX5_books_84 : decode cX5_books 84 = .ok (.ifCond .ge 15, 3) := by decide +kernel
theorem dX5_books_87 : decode cX5_books 87 = .ok (.aload_n 0, 1) := by decide +kernel
theorem dX5_books_88 : decode cX5_books 88 = .ok (.iload_n 3, 1) := by decide +kernel
theorem dX5_books_89 : decode cX5_books 89 = .ok (.ineg, 1) := by decide +kernel
theorem dX5_books_90 : decode cX5_books 90 = .ok (.bipush 10, 2) := by decide +kernel
theorem dX5_books_92 : decode cX5_books 92 = .ok (.idiv, 1) := by decide +kernel
theorem dX5_books_93 : decode cX5_books 93 = .ok (.bipush 6, 2) := by decide +kernel
theorem dX5_books_95 : decode cX5_books 95 = .ok (.iconst 1, 1) := by decide +kernel
theorem dX5_books_96 : decode cX5_books 96 = .ok (.invokevirtual 147, 3) := by decide +kernel
theorem dX5_books_99 : decode cX5_books 99 = .ok (.aload_n 0, 1) := by decide +kernel
theorem dX5_books_100 : decode cX5_books 100 = .ok (.invokevirtual 153, 3) := by decide +kernel
theorem dX5_books_103 : decode cX5_books 103 = .ok (.ifCond .eq 10, 3) := by decide +kernel
theorem dX5_books_106 : decode cX5_books 106 = .ok (.aload_n 0, 1) := by decide +kernel
theorem dX5_books_107 : decode cX5_books 107 = .ok (.getfield 110, 3) := by decide +kernel
theorem dX5_books_110 : decode cX5_books 110 = .ok (.iconst 1, 1) := by decide +kernel
theorem dX5_books_111 : decode cX5_books 111 = .ok (.isub, 1) := by decide +kernel
theorem dX5_books_112 : decode cX5_books 112 = .ok (.ireturn, 1) := by decide +kernel
theorem dX5_books_113 : decode cX5_books 113 = .ok (.aload_n 0, 1) := by decide +kernel
theorem dX5_books_114 : decode cX5_books 114 = .ok (.dup, 1) := by decide +kernel
theorem dX5_books_115 : decode cX5_books 115 = .ok (.getfield 110, 3) := by decide +kernel
theorem dX5_books_118 : decode cX5_books 118 = .ok (.iconst 1, 1) := by decide +kernel
theorem dX5_books_119 : decode cX5_books 119 = .ok (.isub, 1) := by decide +kernel
theorem dX5_books_120 : decode cX5_books 120 = .ok (.putfield 110, 3) := by decide +kernel
theorem dX5_books_123 : decode cX5_books 123 = .ok (.iconst (-1), 1) := by decide +kernel
theorem dX5_books_124 : decode cX5_books 124 = .ok (.ireturn, 1) := by decide +kernel
theorem dX5_lay_0 : decode cX5_lay 0 = .ok (.aload_n 0, 1) := by decide +kernel
theorem dX5_lay_1 : decode cX5_lay 1 = .ok (.getfield 19, 3) := by decide +kernel
theorem dX5_lay_4 : decode cX5_lay 4 = .ok (.aload_n 0, 1) := by decide +kernel
theorem dX5_lay_5 : decode cX5_lay 5 = .ok (.getfield 110, 3) := by decide +kernel
theorem dX5_lay_8 : decode cX5_lay 8 = .ok (.iload_n 1, 1) := by decide +kernel
theorem dX5_lay_9 : decode cX5_lay 9 = .ok (.iastore, 1) := by decide +kernel
theorem dX5_lay_10 : decode cX5_lay 10 = .ok (.aload_n 0, 1) := by decide +kernel
theorem dX5_lay_11 : decode cX5_lay 11 = .ok (.getfield 22, 3) := by decide +kernel
theorem dX5_lay_14 : decode cX5_lay 14 = .ok (.aload_n 0, 1) := by decide +kernel
theorem dX5_lay_15 : decode cX5_lay 15 = .ok (.getfield 110, 3) := by decide +kernel
theorem dX5_lay_18 : decode cX5_lay 18 = .ok (.iload_n 2, 1) := by decide +kernel
theorem dX5_lay_19 : decode cX5_lay 19 = .ok (.iastore, 1) := by decide +kernel
theorem dX5_lay_20 : decode cX5_lay 20 = .ok (.aload_n 0, 1) := by decide +kernel
theorem dX5_lay_21 : decode cX5_lay 21 = .ok (.getfield 25, 3) := by decide +kernel
theorem dX5_lay_24 : decode cX5_lay 24 = .ok (.aload_n 0, 1) := by decide +kernel
theorem dX5_lay_25 : decode cX5_lay 25 = .ok (.getfield 110, 3) := by decide +kernel
theorem dX5_lay_28 : decode cX5_lay 28 = .ok (.iload_n 3, 1) := by decide +kernel
theorem dX5_lay_29 : decode cX5_lay 29 = .ok (.iastore, 1) := by decide +kernel
theorem dX5_lay_30 : decode cX5_lay 30 = .ok (.aload_n 0, 1) := by decide +kernel
theorem dX5_lay_31 : decode cX5_lay 31 = .ok (.getfield 28, 3) := by decide +kernel
theorem dX5_lay_34 : decode cX5_lay 34 = .ok (.aload_n 0, 1) := by decide +kernel
theorem dX5_lay_35 : decode cX5_lay 35 = .ok (.getfield 110, 3) := by decide +kernel
theorem dX5_lay_38 : decode cX5_lay 38 = .ok (.iload 4, 2) := by decide +kernel
theorem dX5_lay_40 : decode cX5_lay 40 = .ok (.iastore, 1) := by decide +kernel
theorem dX5_lay_41 : decode cX5_lay 41 = .ok (.aload_n 0, 1) := by decide +kernel
theorem dX5_lay_42 : decode cX5_lay 42 = .ok (.getfield 31, 3) := by decide +kernel
theorem dX5_lay_45 : decode cX5_lay 45 = .ok (.aload_n 0, 1) := by decide +kernel
theorem dX5_lay_46 : decode cX5_lay 46 = .ok (.getfield 110, 3) := by decide +kernel
theorem dX5_lay_49 : decode cX5_lay 49 = .ok (.iload 5, 2) := by decide +kernel
theorem dX5_lay_51 : decode cX5_lay 51 = .ok (.iastore, 1) := by decide +kernel
theorem dX5_lay_52 : decode cX5_lay 52 = .ok (.return_, 1) := by decide +kernel
set_option maxRecDepth 20000 in
theorem ggX5_isValue_X5_outside : GoodIn wsX5_isValue wsX5_outside := goodIn_r _ [4] (by decide +kernel) (by decide +kernel)
set_option maxRecDepth 20000 in
theorem gX5_isValue_X5_outside : GoodIn wsX5_isValue (va_wsS RX5 71 yX5_outside wsX5_outside) := goodIn_app (goodIn_of _ (by decide +kernel)) ggX5_isValue_X5_outside
theorem dX5_isValue_0 : decode cX5_isValue 0 = .ok (.iload_n 0, 1) := by decide +kernel
theorem dX5_isValue_1 : decode cX5_isValue 1 = .ok (.ifCond .ne 21, 3) := by decide +kernel
theorem dX5_isValue_4 : decode cX5_isValue 4 = .ok (.iload_n 1, 1) := by decide +kernel
theorem dX5_isValue_5 : decode cX5_isValue 5 = .ok (.iconst 0, 1) := by decide +kernel
theorem dX5_isValue_6 : decode cX5_isValue 6 = .ok (.bipush 49, 2) := by decide +kernel
theorem dX5_isValue_8 : decode cX5_isValue 8 = .ok (.invokestatic 71, 3) := by decide +kernel
theorem dX5_isValue_11 : decode cX5_isValue 11 = .ok (.ifCond .ne 7, 3) := by decide +kernel
theorem dX5_isValue_14 : decode cX5_isValue 14 = .ok (.iconst 1, 1) := by decide +kernel
theorem dX5_isValue_15 : decode cX5_isValue 15 = .ok (.goto 46, 3) := by decide +kernel
theorem dX5_isValue_18 : decode cX5_isValue 18 = .ok (.iconst 0, 1) := by decide +kernel
theorem dX5_isValue_19 : decode cX5_isValue 19 = .ok (.goto 42, 3) := by decide +kernel
theorem dX5_isValue_22 : decode cX5_isValue 22 = .ok (.iload_n 0, 1) := by decide +kernel
theorem dX5_isValue_23 : decode cX5_isValue 23 = .ok (.iconst 1, 1) := by decide +kernel
theorem dX5_isValue_24 : decode cX5_isValue 24 = .ok (.if_icmp .ne 21, 3) := by decide +kernel
theorem dX5_isValue_27 : decode cX5_isValue 27 = .ok (.iload_n 1, 1) := by decide +kernel
theorem dX5_isValue_28 : decode cX5_isValue 28 = .ok (.iconst 0, 1) := by decide +kernel
theorem dX5_isValue_29 : decode cX5_isValue 29 = .ok (.bipush 9, 2) := by decide +kernel
theorem dX5_isValue_31 : decode cX5_isValue 31 = .ok (.invokestatic 71, 3) := by decide +kernel
theorem dX5_isValue_34 : decode cX5_isValue 34 = .ok (.ifCond .ne 7, 3) := by decide +kernel
theorem dX5_isValue_37 : decode cX5_isValue 37 = .ok (.iconst 1, 1) := by decide +kernel
theorem dX5_isValue_38 : decode cX5_isValue 38 = .ok (.goto 23, 3) := by decide +kernel
theorem dX5_isValue_41 : decode cX5_isValue 41 = .ok (.iconst 0, 1) := by decide +kernel
theorem dX5_isValue_42 : decode cX5_isValue 42 = .ok (.goto 19, 3) := by decide +kernel
theorem dX5_isValue_45 : decode cX5_isValue 45 = .ok (.iload_n 1, 1) := by decide +kernel
theorem dX5_isValue_46 : decode cX5_isValue 46 = .ok (.iconst 1, 1) := by decide +kernel
theorem dX5_isValue_47 : decode cX5_isValue 47 = .ok (.sipush 999, 3) := by decide +kernel
theorem dX5_isValue_50 : decode cX5_isValue 50 = .ok (.invokestatic 71, 3) := by decide +kernel
theorem dX5_isValue_53 : decode cX5_isValue 53 = .ok (.ifCond .ne 7, 3) := by decide +kernel
theorem dX5_isValue_56 : decode cX5_isValue 56 = .ok (.iconst 1, 1) := by decide +kernel
theorem dX5_isValue_57 : decode cX5_isValue 57 = .ok (.goto 4, 3) := by decide +kernel
theorem dX5_isValue_60 : decode cX5_isValue 60 = .ok (.iconst 0, 1) := by decide +kernel
theorem dX5_isValue_61 : decode cX5_isValue 61 = .ok (.ireturn, 1) := by decide +kernel
set_option maxRecDepth 20000 in
theorem ggX5_bind_X5_outside : GoodIn wsX5_bind wsX5_outside := goodIn_r _ [10] (by decide +kernel) (by decide +kernel)
set_option maxRecDepth 20000 in
theorem gX5_bind_X5_outside : GoodIn wsX5_bind (va_wsS RX5 71 yX5_outside wsX5_outside) := goodIn_app (goodIn_of _ (by decide +kernel)) ggX5_bind_X5_outside
set_option maxRecDepth 20000 in
theorem ggX5_bind_X5_isValue : GoodIn wsX5_bind wsX5_isValue := goodIn_r _ [13, 7, 8, 9, 10] (by decide +kernel) (by decide +kernel)
set_option maxRecDepth 20000 in
theorem gX5_bind_X5_isValue : GoodIn wsX5_bind (va_wsS RX5 156 yX5_isValue wsX5_isValue) := goodIn_app (goodIn_of _ (by decide +kernel)) ggX5_bind_X5_isValue
set_option maxRecDepth 20000 in
theorem ggX5_bind_X5_flaw : GoodIn wsX5_bind wsX5_flaw := goodIn_r _ [17, 18, 19, 20, 21, 9, 22, 23, 89, 90, 91, 92, 93, 94, 95, 96, 97, 98, 99, 100, 101, 102, 103, 104, 105, 106, 107, 108, 109, 110, 111, 112, 113, 114, 115, 116, 117, 118, 119] (by decide +kernel) (by decide +kernel)
set_option maxRecDepth 20000 in
theorem gX5_bind_X5_flaw : GoodIn wsX5_bind (wsV RX5 88 RX5 yX5_flaw wsX5_flaw) := goodIn_app (goodIn_of _ (by decide +kernel)) ggX5_bind_X5_flaw
set_option maxRecDepth 20000 in
theorem ggX5_bind_X5_fails : GoodIn wsX5_bind wsX5_fails := goodIn_r _ [27, 6, 89, 90, 91, 92, 93, 94, 95, 96, 97, 98, 99, 100, 101, 102, 103, 104, 105, 106, 107, 108, 109, 110, 111, 112, 113, 114, 115, 116, 117, 118, 119] (by decide +kernel) (by decide +kernel)
set_option maxRecDepth 20000 in
theorem gX5_bind_X5_fails : GoodIn wsX5_bind (wsV RX5 81 RX5 yX5_fails wsX5_fails) := goodIn_app (goodIn_of _ (by decide +kernel)) ggX5_bind_X5_fails
set_option maxRecDepth 20000 in
theorem ggX5_bind_X5_least : GoodIn wsX5_bind wsX5_least := goodIn_r _ [30] (by decide +kernel) (by decide +kernel)
set_option maxRecDepth 20000 in
theorem gX5_bind_X5_least : GoodIn wsX5_bind (va_wsS RX5 159 yX5_least wsX5_least) := goodIn_app (goodIn_of _ (by decide +kernel)) ggX5_bind_X5_least
set_option maxRecDepth 20000 in
theorem ggX5_bind_X5_lay : GoodIn wsX5_bind wsX5_lay := goodIn_r _ [34, 35, 2, 36, 37, 38, 39, 89, 90, 91, 92, 93, 94, 95, 96, 97, 98, 99, 100, 101, 102, 103, 104, 105, 106, 107, 108, 109, 110, 111, 112, 113, 114, 115, 116, 117, 118, 119] (by decide +kernel) (by decide +kernel)
set_option maxRecDepth 20000 in
theorem gX5_bind_X5_lay : GoodIn wsX5_bind (wsV RX5 162 RX5 yX5_lay wsX5_lay) := goodIn_app (goodIn_of _ (by decide +kernel)) ggX5_bind_X5_lay
set_option maxRecDepth 20000 in
theorem ggX5_bind_X5_books : GoodIn wsX5_bind wsX5_books := goodIn_r _ [43, 36, 2, 44, 45, 46, 47, 48, 9, 49, 3, 4, 50, 51, 52, 53, 54, 55, 56, 57, 58, 37, 35, 38, 59, 60, 61, 62, 63, 64, 65, 66, 39, 5, 67, 68, 69, 70, 18, 23, 19, 20, 21, 22, 71, 72, 73, 74, 75, 76, 77, 78, 79, 80, 81, 82, 83, 84, 85, 86, 87, 88, 89, 90, 91, 92, 93, 94, 95, 96, 97, 98, 99, 100, 101, 102, 103, 104, 105, 106, 107, 108, 109, 110, 111, 112, 113, 114, 115, 116, 117, 118, 119] (by decide +kernel) (by decide +kernel)
set_option maxRecDepth 20000 in
theorem gX5_bind_X5_books : GoodIn wsX5_bind (wsV RX5 166 RX5 yX5_books wsX5_books) := goodIn_app (goodIn_of _ (by decide +kernel)) ggX5_bind_X5_books
theorem dX5_bind_0 : decode cX5_bind 0 = .ok (.iload_n 1, 1) := by decide +kernel
theorem dX5_bind_1 : decode cX5_bind 1 = .ok (.iconst 0, 1) := by decide +kernel
theorem dX5_bind_2 : decode cX5_bind 2 = .ok (.sipush 999, 3) := by decide +kernel
theorem dX5_bind_5 : decode cX5_bind 5 = .ok (.invokestatic 71, 3) := by decide +kernel
theorem dX5_bind_8 : decode cX5_bind 8 = .ok (.ifCond .ne 40, 3) := by decide +kernel
theorem dX5_bind_11 : decode cX5_bind 11 = .ok (.iload_n 2, 1) := by decide +kernel
theorem dX5_bind_12 : decode cX5_bind 12 = .ok (.iconst 1, 1) := by decide +kernel
theorem dX5_bind_13 : decode cX5_bind 13 = .ok (.sipush 200, 3) := by decide +kernel
theorem dX5_bind_16 : decode cX5_bind 16 = .ok (.invokestatic 71, 3) := by decide +kernel
theorem dX5_bind_19 : decode cX5_bind 19 = .ok (.ifCond .ne 29, 3) := by decide +kernel
theorem dX5_bind_22 : decode cX5_bind 22 = .ok (.iconst 0, 1) := by decide +kernel
theorem dX5_bind_23 : decode cX5_bind 23 = .ok (.iload_n 3, 1) := by decide +kernel
theorem dX5_bind_24 : decode cX5_bind 24 = .ok (.invokestatic 156, 3) := by decide +kernel
theorem dX5_bind_27 : decode cX5_bind 27 = .ok (.ifCond .eq 21, 3) := by decide +kernel
theorem dX5_bind_30 : decode cX5_bind 30 = .ok (.iconst 1, 1) := by decide +kernel
theorem dX5_bind_31 : decode cX5_bind 31 = .ok (.iload 4, 2) := by decide +kernel
theorem dX5_bind_33 : decode cX5_bind 33 = .ok (.invokestatic 156, 3) := by decide +kernel
theorem dX5_bind_36 : decode cX5_bind 36 = .ok (.ifCond .eq 12, 3) := by decide +kernel
theorem dX5_bind_39 : decode cX5_bind 39 = .ok (.iconst 2, 1) := by decide +kernel
theorem dX5_bind_40 : decode cX5_bind 40 = .ok (.iload 5, 2) := by decide +kernel
theorem dX5_bind_42 : decode cX5_bind 42 = .ok (.invokestatic 156, 3) := by decide +kernel
theorem dX5_bind_45 : decode cX5_bind 45 = .ok (.ifCond .ne 7, 3) := by decide +kernel
theorem dX5_bind_48 : decode cX5_bind 48 = .ok (.iconst 1, 1) := by decide +kernel
theorem dX5_bind_49 : decode cX5_bind 49 = .ok (.goto 4, 3) := by decide +kernel
theorem dX5_bind_52 : decode cX5_bind 52 = .ok (.iconst 0, 1) := by decide +kernel
theorem dX5_bind_53 : decode cX5_bind 53 = .ok (.istore 6, 2) := by decide +kernel
theorem dX5_bind_55 : decode cX5_bind 55 = .ok (.aload_n 0, 1) := by decide +kernel
theorem dX5_bind_56 : decode cX5_bind 56 = .ok (.aload_n 0, 1) := by decide +kernel
theorem dX5_bind_57 : decode cX5_bind 57 = .ok (.invokevirtual 88, 3) := by decide +kernel
theorem dX5_bind_60 : decode cX5_bind 60 = .ok (.ifCond .ge 21, 3) := by decide +kernel
theorem dX5_bind_63 : decode cX5_bind 63 = .ok (.aload_n 0, 1) := by decide +kernel
theorem dX5_bind_64 : decode cX5_bind 64 = .ok (.getfield 75, 3) := by decide +kernel
theorem dX5_bind_67 : decode cX5_bind 67 = .ok (.bipush 6, 2) := by decide +kernel
theorem dX5_bind_69 : decode cX5_bind 69 = .ok (.if_icmp .eq 12, 3) := by decide +kernel
theorem dX5_bind_72 : decode cX5_bind 72 = .ok (.aload_n 0, 1) := by decide +kernel
theorem dX5_bind_73 : decode cX5_bind 73 = .ok (.getfield 110, 3) := by decide +kernel
theorem dX5_bind_76 : decode cX5_bind 76 = .ok (.bipush 40, 2) := by decide +kernel
theorem dX5_bind_78 : decode cX5_bind 78 = .ok (.if_icmp .ne 7, 3) := by decide +kernel
theorem dX5_bind_81 : decode cX5_bind 81 = .ok (.iconst 1, 1) := by decide +kernel
theorem dX5_bind_82 : decode cX5_bind 82 = .ok (.goto 4, 3) := by decide +kernel
theorem dX5_bind_85 : decode cX5_bind 85 = .ok (.iconst 0, 1) := by decide +kernel
theorem dX5_bind_86 : decode cX5_bind 86 = .ok (.iload 6, 2) := by decide +kernel
theorem dX5_bind_88 : decode cX5_bind 88 = .ok (.iconst 0, 1) := by decide +kernel
theorem dX5_bind_89 : decode cX5_bind 89 = .ok (.invokevirtual 81, 3) := by decide +kernel
theorem dX5_bind_92 : decode cX5_bind 92 = .ok (.ifCond .eq 5, 3) := by decide +kernel
theorem dX5_bind_95 : decode cX5_bind 95 = .ok (.iconst 0, 1) := by decide +kernel
theorem dX5_bind_96 : decode cX5_bind 96 = .ok (.ireturn, 1) := by decide +kernel
theorem dX5_bind_97 : decode cX5_bind 97 = .ok (.aload_n 0, 1) := by decide +kernel
theorem dX5_bind_98 : decode cX5_bind 98 = .ok (.getfield 13, 3) := by decide +kernel
theorem dX5_bind_101 : decode cX5_bind 101 = .ok (.aload_n 0, 1) := by decide +kernel
theorem dX5_bind_102 : decode cX5_bind 102 = .ok (.getfield 75, 3) := by decide +kernel
theorem dX5_bind_105 : decode cX5_bind 105 = .ok (.iload_n 1, 1) := by decide +kernel
theorem dX5_bind_106 : decode cX5_bind 106 = .ok (.iastore, 1) := by decide +kernel
theorem dX5_bind_107 : decode cX5_bind 107 = .ok (.aload_n 0, 1) := by decide +kernel
theorem dX5_bind_108 : decode cX5_bind 108 = .ok (.getfield 16, 3) := by decide +kernel
theorem dX5_bind_111 : decode cX5_bind 111 = .ok (.aload_n 0, 1) := by decide +kernel
theorem dX5_bind_112 : decode cX5_bind 112 = .ok (.getfield 75, 3) := by decide +kernel
theorem dX5_bind_115 : decode cX5_bind 115 = .ok (.sipush 999, 3) := by decide +kernel
theorem dX5_bind_118 : decode cX5_bind 118 = .ok (.iload_n 1, 1) := by decide +kernel
theorem dX5_bind_119 : decode cX5_bind 119 = .ok (.iload_n 2, 1) := by decide +kernel
theorem dX5_bind_120 : decode cX5_bind 120 = .ok (.iadd, 1) := by decide +kernel
theorem dX5_bind_121 : decode cX5_bind 121 = .ok (.iconst 1, 1) := by decide +kernel
theorem dX5_bind_122 : decode cX5_bind 122 = .ok (.isub, 1) := by decide +kernel
theorem dX5_bind_123 : decode cX5_bind 123 = .ok (.invokestatic 159, 3) := by decide +kernel
theorem dX5_bind_126 : decode cX5_bind 126 = .ok (.iastore, 1) := by decide +kernel
theorem dX5_bind_127 : decode cX5_bind 127 = .ok (.aload_n 0, 1) := by decide +kernel
theorem dX5_bind_128 : decode cX5_bind 128 = .ok (.iconst 0, 1) := by decide +kernel
theorem dX5_bind_129 : decode cX5_bind 129 = .ok (.aload_n 0, 1) := by decide +kernel
theorem dX5_bind_130 : decode cX5_bind 130 = .ok (.getfield 75, 3) := by decide +kernel
theorem dX5_bind_133 : decode cX5_bind 133 = .ok (.iload_n 1, 1) := by decide +kernel
theorem dX5_bind_134 : decode cX5_bind 134 = .ok (.iconst 0, 1) := by decide +kernel
theorem dX5_bind_135 : decode cX5_bind 135 = .ok (.ldc 113, 2) := by decide +kernel
theorem dX5_bind_137 : decode cX5_bind 137 = .ok (.iload_n 3, 1) := by decide +kernel
theorem dX5_bind_138 : decode cX5_bind 138 = .ok (.imul, 1) := by decide +kernel
theorem dX5_bind_139 : decode cX5_bind 139 = .ok (.sipush 1000, 3) := by decide +kernel
theorem dX5_bind_142 : decode cX5_bind 142 = .ok (.iload 4, 2) := by decide +kernel
theorem dX5_bind_144 : decode cX5_bind 144 = .ok (.imul, 1) := by decide +kernel
theorem dX5_bind_145 : decode cX5_bind 145 = .ok (.iadd, 1) := by decide +kernel
theorem dX5_bind_146 : decode cX5_bind 146 = .ok (.iload 5, 2) := by decide +kernel
theorem dX5_bind_148 : decode cX5_bind 148 = .ok (.iadd, 1) := by decide +kernel
theorem dX5_bind_149 : decode cX5_bind 149 = .ok (.invokevirtual 162, 3) := by decide +kernel
theorem dX5_bind_152 : decode cX5_bind 152 = .ok (.aload_n 0, 1) := by decide +kernel
theorem dX5_bind_153 : decode cX5_bind 153 = .ok (.dup, 1) := by decide +kernel
theorem dX5_bind_154 : decode cX5_bind 154 = .ok (.getfield 75, 3) := by decide +kernel
theorem dX5_bind_157 : decode cX5_bind 157 = .ok (.iconst 1, 1) := by decide +kernel
theorem dX5_bind_158 : decode cX5_bind 158 = .ok (.iadd, 1) := by decide +kernel
theorem dX5_bind_159 : decode cX5_bind 159 = .ok (.putfield 75, 3) := by decide +kernel
theorem dX5_bind_162 : decode cX5_bind 162 = .ok (.aload_n 0, 1) := by decide +kernel
theorem dX5_bind_163 : decode cX5_bind 163 = .ok (.iconst 0, 1) := by decide +kernel
theorem dX5_bind_164 : decode cX5_bind 164 = .ok (.invokevirtual 166, 3) := by decide +kernel
theorem dX5_bind_167 : decode cX5_bind 167 = .ok (.ifCond .ge 20, 3) := by decide +kernel
theorem dX5_bind_170 : decode cX5_bind 170 = .ok (.aload_n 0, 1) := by decide +kernel
theorem dX5_bind_171 : decode cX5_bind 171 = .ok (.dup, 1) := by decide +kernel
theorem dX5_bind_172 : decode cX5_bind 172 = .ok (.getfield 75, 3) := by decide +kernel
theorem dX5_bind_175 : decode cX5_bind 175 = .ok (.iconst 1, 1) := by decide +kernel
theorem dX5_bind_176 : decode cX5_bind 176 = .ok (.isub, 1) := by decide +kernel
theorem dX5_bind_177 : decode cX5_bind 177 = .ok (.putfield 75, 3) := by decide +kernel
theorem dX5_bind_180 : decode cX5_bind 180 = .ok (.aload_n 0, 1) := by decide +kernel
theorem dX5_bind_181 : decode cX5_bind 181 = .ok (.iconst 3, 1) := by decide +kernel
theorem dX5_bind_182 : decode cX5_bind 182 = .ok (.putfield 68, 3) := by decide +kernel
theorem dX5_bind_185 : decode cX5_bind 185 = .ok (.iconst 0, 1) := by decide +kernel
theorem dX5_bind_186 : decode cX5_bind 186 = .ok (.ireturn, 1) := by decide +kernel
theorem dX5_bind_187 : decode cX5_bind 187 = .ok (.aload_n 0, 1) := by decide +kernel
theorem dX5_bind_188 : decode cX5_bind 188 = .ok (.getfield 75, 3) := by decide +kernel
theorem dX5_bind_191 : decode cX5_bind 191 = .ok (.iconst 1, 1) := by decide +kernel
theorem dX5_bind_192 : decode cX5_bind 192 = .ok (.isub, 1) := by decide +kernel
theorem dX5_bind_193 : decode cX5_bind 193 = .ok (.ireturn, 1) := by decide +kernel
set_option maxRecDepth 20000 in
theorem ggX5_bookedOr_X5_books : GoodIn wsX5_bookedOr wsX5_books := goodIn_r _ [6, 7, 8, 9, 10, 11, 12, 13, 5, 14, 15, 16, 17, 18, 19, 20, 21, 22, 23, 24, 25, 26, 27, 28, 29, 30, 31, 32, 33, 34, 35, 36, 37, 38, 39, 40, 41, 42, 43, 44, 45, 46, 47, 48, 49, 50, 51, 52, 53, 54, 55, 56, 57, 58, 59, 60, 61, 62, 63, 64, 65, 66, 67, 68, 69, 70, 71, 72, 73, 74, 75, 76, 77, 78, 79, 80, 81, 82, 83, 84, 85, 86, 87, 88, 89, 90, 91, 92, 93, 94, 95, 96, 97] (by decide +kernel) (by decide +kernel)
set_option maxRecDepth 20000 in
theorem gX5_bookedOr_X5_books : GoodIn wsX5_bookedOr (wsV RX5 166 RX5 yX5_books wsX5_books) := goodIn_app (goodIn_of _ (by decide +kernel)) ggX5_bookedOr_X5_books
theorem dX5_bookedOr_0 : decode cX5_bookedOr 0 = .ok (.aload_n 0, 1) := by decide +kernel
theorem dX5_bookedOr_1 : decode cX5_bookedOr 1 = .ok (.iload_n 1, 1) := by decide +kernel
theorem dX5_bookedOr_2 : decode cX5_bookedOr 2 = .ok (.invokevirtual 166, 3) := by decide +kernel
theorem dX5_bookedOr_5 : decode cX5_bookedOr 5 = .ok (.istore_n 2, 1) := by decide +kernel
theorem dX5_bookedOr_6 : decode cX5_bookedOr 6 = .ok (.aload_n 0, 1) := by decide +kernel
theorem dX5_bookedOr_7 : decode cX5_bookedOr 7 = .ok (.iload_n 2, 1) := by decide +kernel
theorem dX5_bookedOr_8 : decode cX5_bookedOr 8 = .ok (.ifCond .ge 7, 3) := by decide +kernel
theorem dX5_bookedOr_11 : decode cX5_bookedOr 11 = .ok (.iconst 4, 1) := by decide +kernel
theorem dX5_bookedOr_12 : decode cX5_bookedOr 12 = .ok (.goto 4, 3) := by decide +kernel
theorem dX5_bookedOr_15 : decode cX5_bookedOr 15 = .ok (.iconst 0, 1) := by decide +kernel
theorem dX5_bookedOr_16 : decode cX5_bookedOr 16 = .ok (.putfield 68, 3) := by decide +kernel
theorem dX5_bookedOr_19 : decode cX5_bookedOr 19 = .ok (.iload_n 2, 1) := by decide +kernel
theorem dX5_bookedOr_20 : decode cX5_bookedOr 20 = .ok (.ifCond .ge 7, 3) := by decide +kernel
theorem dX5_bookedOr_23 : decode cX5_bookedOr 23 = .ok (.iconst 0, 1) := by decide +kernel
theorem dX5_bookedOr_24 : decode cX5_bookedOr 24 = .ok (.goto 4, 3) := by decide +kernel
theorem dX5_bookedOr_27 : decode cX5_bookedOr 27 = .ok (.iload_n 2, 1) := by decide +kernel
theorem dX5_bookedOr_28 : decode cX5_bookedOr 28 = .ok (.ireturn, 1) := by decide +kernel
set_option maxRecDepth 20000 in
theorem ggX5_change_X5_isPolicy : GoodIn wsX5_change wsX5_isPolicy := goodIn_r _ [6, 7, 98, 99, 100, 101, 102, 103, 104, 105, 106, 107, 108, 109, 110, 111, 112, 113, 114, 115, 116, 117, 118, 119, 120, 121, 122, 123, 124, 125, 126, 127, 128] (by decide +kernel) (by decide +kernel)
set_option maxRecDepth 20000 in
theorem gX5_change_X5_isPolicy : GoodIn wsX5_change (wsV RX5 170 RX5 yX5_isPolicy wsX5_isPolicy) := goodIn_app (goodIn_of _ (by decide +kernel)) ggX5_change_X5_isPolicy
set_option maxRecDepth 20000 in
theorem ggX5_change_X5_outside : GoodIn wsX5_change wsX5_outside := goodIn_r _ [10] (by decide +kernel) (by decide +kernel)
set_option maxRecDepth 20000 in
theorem gX5_change_X5_outside : GoodIn wsX5_change (va_wsS RX5 71 yX5_outside wsX5_outside) := goodIn_app (goodIn_of _ (by decide +kernel)) ggX5_change_X5_outside
set_option maxRecDepth 20000 in
theorem ggX5_change_X5_inTerm : GoodIn wsX5_change wsX5_inTerm := goodIn_r _ [14, 15, 16, 98, 99, 100, 101, 102, 103, 104, 105, 106, 107, 108, 109, 110, 111, 112, 113, 114, 115, 116, 117, 118, 119, 120, 121, 122, 123, 124, 125, 126, 127, 128] (by decide +kernel) (by decide +kernel)
set_option maxRecDepth 20000 in
theorem gX5_change_X5_inTerm : GoodIn wsX5_change (wsV RX5 118 RX5 yX5_inTerm wsX5_inTerm) := goodIn_app (goodIn_of _ (by decide +kernel)) ggX5_change_X5_inTerm
set_option maxRecDepth 20000 in
theorem ggX5_change_X5_isValue : GoodIn wsX5_change wsX5_isValue := goodIn_r _ [19, 8, 9, 5, 10] (by decide +kernel) (by decide +kernel)
set_option maxRecDepth 20000 in
theorem gX5_change_X5_isValue : GoodIn wsX5_change (va_wsS RX5 156 yX5_isValue wsX5_isValue) := goodIn_app (goodIn_of _ (by decide +kernel)) ggX5_change_X5_isValue
set_option maxRecDepth 20000 in
theorem ggX5_change_X5_inForce : GoodIn wsX5_change wsX5_inForce := goodIn_r _ [23, 11, 12, 13, 5, 14, 15, 16, 24, 25, 26, 27, 28, 1, 29, 30, 31, 32, 33, 34, 35, 36, 98, 99, 100, 101, 102, 103, 104, 105, 106, 107, 108, 109, 110, 111, 112, 113, 114, 115, 116, 117, 118, 119, 120, 121, 122, 123, 124, 125, 126, 127, 128] (by decide +kernel) (by decide +kernel)
set_option maxRecDepth 20000 in
theorem gX5_change_X5_inForce : GoodIn wsX5_change (wsV RX5 174 RX5 yX5_inForce wsX5_inForce) := goodIn_app (goodIn_of _ (by decide +kernel)) ggX5_change_X5_inForce
set_option maxRecDepth 20000 in
theorem ggX5_change_X5_fails : GoodIn wsX5_change wsX5_fails := goodIn_r _ [40, 41, 98, 99, 100, 101, 102, 103, 104, 105, 106, 107, 108, 109, 110, 111, 112, 113, 114, 115, 116, 117, 118, 119, 120, 121, 122, 123, 124, 125, 126, 127, 128] (by decide +kernel) (by decide +kernel)
set_option maxRecDepth 20000 in
theorem gX5_change_X5_fails : GoodIn wsX5_change (wsV RX5 81 RX5 yX5_fails wsX5_fails) := goodIn_app (goodIn_of _ (by decide +kernel)) ggX5_change_X5_fails
set_option maxRecDepth 20000 in
theorem ggX5_change_X5_lay : GoodIn wsX5_change wsX5_lay := goodIn_r _ [45, 31, 1, 29, 30, 32, 46, 98, 99, 100, 101, 102, 103, 104, 105, 106, 107, 108, 109, 110, 111, 112, 113, 114, 115, 116, 117, 118, 119, 120, 121, 122, 123, 124, 125, 126, 127, 128] (by decide +kernel) (by decide +kernel)
set_option maxRecDepth 20000 in
theorem gX5_change_X5_lay : GoodIn wsX5_change (wsV RX5 162 RX5 yX5_lay wsX5_lay) := goodIn_app (goodIn_of _ (by decide +kernel)) ggX5_change_X5_lay
set_option maxRecDepth 20000 in
theorem ggX5_change_X5_bookedOr : GoodIn wsX5_change wsX5_bookedOr := goodIn_r _ [50, 41, 51, 52, 53, 5, 54, 29, 1, 55, 56, 57, 58, 59, 60, 15, 16, 61, 62, 63, 64, 24, 25, 26, 27, 28, 30, 31, 32, 33, 34, 35, 36, 65, 66, 67, 68, 46, 69, 70, 71, 72, 73, 74, 75, 76, 77, 78, 79, 80, 81, 82, 83, 84, 85, 86, 87, 88, 89, 90, 91, 92, 93, 94, 95, 96, 97, 98, 99, 100, 101, 102, 103, 104, 105, 106, 107, 108, 109, 110, 111, 112, 113, 114, 115, 116, 117, 118, 119, 120, 121, 122, 123, 124, 125, 126, 127, 128] (by decide +kernel) (by decide +kernel)
set_option maxRecDepth 20000 in
theorem gX5_change_X5_bookedOr : GoodIn wsX5_change (wsV RX5 177 RX5 yX5_bookedOr wsX5_bookedOr) := goodIn_app (goodIn_of _ (by decide +kernel)) ggX5_change_X5_bookedOr
theorem dX5_change_0 : decode cX5_change 0 = .ok (.aload_n 0, 1) := by decide +kernel
theorem dX5_change_1 : decode cX5_change 1 = .ok (.iload_n 1, 1) := by decide +kernel
theorem dX5_change_2 : decode cX5_change 2 = .ok (.invokevirtual 170, 3) := by decide +kernel
theorem dX5_change_5 : decode cX5_change 5 = .ok (.ifCond .eq 12, 3) := by decide +kernel
theorem dX5_change_8 : decode cX5_change 8 = .ok (.iload_n 3, 1) := by decide +kernel
theorem dX5_change_9 : decode cX5_change 9 = .ok (.iconst 0, 1) := by decide +kernel
theorem dX5_change_10 : decode cX5_change 10 = .ok (.iconst 2, 1) := by decide +kernel
theorem dX5_change_11 : decode cX5_change 11 = .ok (.invokestatic 71, 3) := by decide +kernel
theorem dX5_change_14 : decode cX5_change 14 = .ok (.ifCond .eq 7, 3) := by decide +kernel
theorem dX5_change_17 : decode cX5_change 17 = .ok (.iconst 1, 1) := by decide +kernel
theorem dX5_change_18 : decode cX5_change 18 = .ok (.goto 4, 3) := by decide +kernel
theorem dX5_change_21 : decode cX5_change 21 = .ok (.iconst 0, 1) := by decide +kernel
theorem dX5_change_22 : decode cX5_change 22 = .ok (.istore 5, 2) := by decide +kernel
theorem dX5_change_24 : decode cX5_change 24 = .ok (.aload_n 0, 1) := by decide +kernel
theorem dX5_change_25 : decode cX5_change 25 = .ok (.iload 5, 2) := by decide +kernel
theorem dX5_change_27 : decode cX5_change 27 = .ok (.iload 5, 2) := by decide +kernel
theorem dX5_change_29 : decode cX5_change 29 = .ok (.ifCond .ne 25, 3) := by decide +kernel
theorem dX5_change_32 : decode cX5_change 32 = .ok (.aload_n 0, 1) := by decide +kernel
theorem dX5_change_33 : decode cX5_change 33 = .ok (.iload_n 1, 1) := by decide +kernel
theorem dX5_change_34 : decode cX5_change 34 = .ok (.iload_n 2, 1) := by decide +kernel
theorem dX5_change_35 : decode cX5_change 35 = .ok (.invokevirtual 118, 3) := by decide +kernel
theorem dX5_change_38 : decode cX5_change 38 = .ok (.ifCond .eq 12, 3) := by decide +kernel
theorem dX5_change_41 : decode cX5_change 41 = .ok (.iload_n 3, 1) := by decide +kernel
theorem dX5_change_42 : decode cX5_change 42 = .ok (.iload 4, 2) := by decide +kernel
theorem dX5_change_44 : decode cX5_change 44 = .ok (.invokestatic 156, 3) := by decide +kernel
theorem dX5_change_47 : decode cX5_change 47 = .ok (.ifCond .ne 7, 3) := by decide +kernel
theorem dX5_change_50 : decode cX5_change 50 = .ok (.iconst 1, 1) := by decide +kernel
theorem dX5_change_51 : decode cX5_change 51 = .ok (.goto 4, 3) := by decide +kernel
theorem dX5_change_54 : decode cX5_change 54 = .ok (.iconst 0, 1) := by decide +kernel
theorem dX5_change_55 : decode cX5_change 55 = .ok (.iload 5, 2) := by decide +kernel
theorem dX5_change_57 : decode cX5_change 57 = .ok (.ifCond .ne 27, 3) := by decide +kernel
theorem dX5_change_60 : decode cX5_change 60 = .ok (.aload_n 0, 1) := by decide +kernel
theorem dX5_change_61 : decode cX5_change 61 = .ok (.iload_n 1, 1) := by decide +kernel
theorem dX5_change_62 : decode cX5_change 62 = .ok (.iload_n 2, 1) := by decide +kernel
theorem dX5_change_63 : decode cX5_change 63 = .ok (.bipush 99, 2) := by decide +kernel
theorem dX5_change_65 : decode cX5_change 65 = .ok (.invokevirtual 174, 3) := by decide +kernel
theorem dX5_change_68 : decode cX5_change 68 = .ok (.ifCond .eq 12, 3) := by decide +kernel
theorem dX5_change_71 : decode cX5_change 71 = .ok (.aload_n 0, 1) := by decide +kernel
theorem dX5_change_72 : decode cX5_change 72 = .ok (.getfield 110, 3) := by decide +kernel
theorem dX5_change_75 : decode cX5_change 75 = .ok (.bipush 40, 2) := by decide +kernel
theorem dX5_change_77 : decode cX5_change 77 = .ok (.if_icmp .ne 7, 3) := by decide +kernel
theorem dX5_change_80 : decode cX5_change 80 = .ok (.iconst 1, 1) := by decide +kernel
theorem dX5_change_81 : decode cX5_change 81 = .ok (.goto 4, 3) := by decide +kernel
theorem dX5_change_84 : decode cX5_change 84 = .ok (.iconst 0, 1) := by decide +kernel
theorem dX5_change_85 : decode cX5_change 85 = .ok (.invokevirtual 81, 3) := by decide +kernel
theorem dX5_change_88 : decode cX5_change 88 = .ok (.ifCond .eq 5, 3) := by decide +kernel
theorem dX5_change_91 : decode cX5_change 91 = .ok (.iconst 0, 1) := by decide +kernel
theorem dX5_change_92 : decode cX5_change 92 = .ok (.ireturn, 1) := by decide +kernel
theorem dX5_change_93 : decode cX5_change 93 = .ok (.aload_n 0, 1) := by decide +kernel
theorem dX5_change_94 : decode cX5_change 94 = .ok (.iconst 1, 1) := by decide +kernel
theorem dX5_change_95 : decode cX5_change 95 = .ok (.iload_n 1, 1) := by decide +kernel
theorem dX5_change_96 : decode cX5_change 96 = .ok (.iload_n 2, 1) := by decide +kernel
theorem dX5_change_97 : decode cX5_change 97 = .ok (.iload_n 3, 1) := by decide +kernel
theorem dX5_change_98 : decode cX5_change 98 = .ok (.iload 4, 2) := by decide +kernel
theorem dX5_change_100 : decode cX5_change 100 = .ok (.invokevirtual 162, 3) := by decide +kernel
theorem dX5_change_103 : decode cX5_change 103 = .ok (.aload_n 0, 1) := by decide +kernel
theorem dX5_change_104 : decode cX5_change 104 = .ok (.iconst 0, 1) := by decide +kernel
theorem dX5_change_105 : decode cX5_change 105 = .ok (.invokevirtual 177, 3) := by decide +kernel
theorem dX5_change_108 : decode cX5_change 108 = .ok (.ireturn, 1) := by decide +kernel
set_option maxRecDepth 20000 in
theorem ggX5_turns_X5_isPolicy : GoodIn wsX5_turns wsX5_isPolicy := goodIn_r _ [6, 7, 92, 93, 94, 95, 96, 97, 98, 99, 100, 101, 102, 103, 104, 105, 106, 107, 108, 109, 110, 111, 112, 113, 114, 115, 116, 117, 118, 119, 120, 121, 122] (by decide +kernel) (by decide +kernel)
set_option maxRecDepth 20000 in
theorem gX5_turns_X5_isPolicy : GoodIn wsX5_turns (wsV RX5 170 RX5 yX5_isPolicy wsX5_isPolicy) := goodIn_app (goodIn_of _ (by decide +kernel)) ggX5_turns_X5_isPolicy
set_option maxRecDepth 20000 in
theorem ggX5_turns_X5_inTerm : GoodIn wsX5_turns wsX5_inTerm := goodIn_r _ [11, 12, 13, 92, 93, 94, 95, 96, 97, 98, 99, 100, 101, 102, 103, 104, 105, 106, 107, 108, 109, 110, 111, 112, 113, 114, 115, 116, 117, 118, 119, 120, 121, 122] (by decide +kernel) (by decide +kernel)
set_option maxRecDepth 20000 in
theorem gX5_turns_X5_inTerm : GoodIn wsX5_turns (wsV RX5 118 RX5 yX5_inTerm wsX5_inTerm) := goodIn_app (goodIn_of _ (by decide +kernel)) ggX5_turns_X5_inTerm
set_option maxRecDepth 20000 in
theorem ggX5_turns_X5_inForce : GoodIn wsX5_turns wsX5_inForce := goodIn_r _ [17, 8, 9, 10, 5, 11, 12, 13, 18, 19, 20, 21, 22, 1, 23, 24, 25, 26, 27, 28, 29, 30, 92, 93, 94, 95, 96, 97, 98, 99, 100, 101, 102, 103, 104, 105, 106, 107, 108, 109, 110, 111, 112, 113, 114, 115, 116, 117, 118, 119, 120, 121, 122] (by decide +kernel) (by decide +kernel)
set_option maxRecDepth 20000 in
theorem gX5_turns_X5_inForce : GoodIn wsX5_turns (wsV RX5 174 RX5 yX5_inForce wsX5_inForce) := goodIn_app (goodIn_of _ (by decide +kernel)) ggX5_turns_X5_inForce
set_option maxRecDepth 20000 in
theorem ggX5_turns_X5_fails : GoodIn wsX5_turns wsX5_fails := goodIn_r _ [34, 35, 92, 93, 94, 95, 96, 97, 98, 99, 100, 101, 102, 103, 104, 105, 106, 107, 108, 109, 110, 111, 112, 113, 114, 115, 116, 117, 118, 119, 120, 121, 122] (by decide +kernel) (by decide +kernel)
set_option maxRecDepth 20000 in
theorem gX5_turns_X5_fails : GoodIn wsX5_turns (wsV RX5 81 RX5 yX5_fails wsX5_fails) := goodIn_app (goodIn_of _ (by decide +kernel)) ggX5_turns_X5_fails
set_option maxRecDepth 20000 in
theorem ggX5_turns_X5_lay : GoodIn wsX5_turns wsX5_lay := goodIn_r _ [39, 25, 1, 23, 24, 26, 40, 92, 93, 94, 95, 96, 97, 98, 99, 100, 101, 102, 103, 104, 105, 106, 107, 108, 109, 110, 111, 112, 113, 114, 115, 116, 117, 118, 119, 120, 121, 122] (by decide +kernel) (by decide +kernel)
set_option maxRecDepth 20000 in
theorem gX5_turns_X5_lay : GoodIn wsX5_turns (wsV RX5 162 RX5 yX5_lay wsX5_lay) := goodIn_app (goodIn_of _ (by decide +kernel)) ggX5_turns_X5_lay
set_option maxRecDepth 20000 in
theorem ggX5_turns_X5_bookedOr : GoodIn wsX5_turns wsX5_bookedOr := goodIn_r _ [44, 35, 45, 46, 47, 5, 48, 23, 1, 49, 50, 51, 52, 53, 54, 12, 13, 55, 56, 57, 58, 18, 19, 20, 21, 22, 24, 25, 26, 27, 28, 29, 30, 59, 60, 61, 62, 40, 63, 64, 65, 66, 67, 68, 69, 70, 71, 72, 73, 74, 75, 76, 77, 78, 79, 80, 81, 82, 83, 84, 85, 86, 87, 88, 89, 90, 91, 92, 93, 94, 95, 96, 97, 98, 99, 100, 101, 102, 103, 104, 105, 106, 107, 108, 109, 110, 111, 112, 113, 114, 115, 116, 117, 118, 119, 120, 121, 122] (by decide +kernel) (by decide +kernel)
set_option maxRecDepth 20000 in
theorem gX5_turns_X5_bookedOr : GoodIn wsX5_turns (wsV RX5 177 RX5 yX5_bookedOr wsX5_bookedOr) := goodIn_app (goodIn_of _ (by decide +kernel)) ggX5_turns_X5_bookedOr
theorem dX5_turns_0 : decode cX5_turns 0 = .ok (.aload_n 0, 1) := by decide +kernel
theorem dX5_turns_1 : decode cX5_turns 1 = .ok (.iload_n 2, 1) := by decide +kernel
theorem dX5_turns_2 : decode cX5_turns 2 = .ok (.invokevirtual 170, 3) := by decide +kernel
theorem dX5_turns_5 : decode cX5_turns 5 = .ok (.istore 5, 2) := by decide +kernel
theorem dX5_turns_7 : decode cX5_turns 7 = .ok (.aload_n 0, 1) := by decide +kernel
theorem dX5_turns_8 : decode cX5_turns 8 = .ok (.iload 5, 2) := by decide +kernel
theorem dX5_turns_10 : decode cX5_turns 10 = .ok (.ifCond .ne 7, 3) := by decide +kernel
theorem dX5_turns_13 : decode cX5_turns 13 = .ok (.iconst 1, 1) := by decide +kernel
theorem dX5_turns_14 : decode cX5_turns 14 = .ok (.goto 4, 3) := by decide +kernel
theorem dX5_turns_17 : decode cX5_turns 17 = .ok (.iconst 0, 1) := by decide +kernel
theorem dX5_turns_18 : decode cX5_turns 18 = .ok (.iload 5, 2) := by decide +kernel
theorem dX5_turns_20 : decode cX5_turns 20 = .ok (.ifCond .eq 16, 3) := by decide +kernel
theorem dX5_turns_23 : decode cX5_turns 23 = .ok (.aload_n 0, 1) := by decide +kernel
theorem dX5_turns_24 : decode cX5_turns 24 = .ok (.iload_n 2, 1) := by decide +kernel
theorem dX5_turns_25 : decode cX5_turns 25 = .ok (.iload_n 3, 1) := by decide +kernel
theorem dX5_turns_26 : decode cX5_turns 26 = .ok (.invokevirtual 118, 3) := by decide +kernel
theorem dX5_turns_29 : decode cX5_turns 29 = .ok (.ifCond .ne 7, 3) := by decide +kernel
theorem dX5_turns_32 : decode cX5_turns 32 = .ok (.iconst 1, 1) := by decide +kernel
theorem dX5_turns_33 : decode cX5_turns 33 = .ok (.goto 4, 3) := by decide +kernel
theorem dX5_turns_36 : decode cX5_turns 36 = .ok (.iconst 0, 1) := by decide +kernel
theorem dX5_turns_37 : decode cX5_turns 37 = .ok (.iload 5, 2) := by decide +kernel
theorem dX5_turns_39 : decode cX5_turns 39 = .ok (.ifCond .eq 37, 3) := by decide +kernel
theorem dX5_turns_42 : decode cX5_turns 42 = .ok (.aload_n 0, 1) := by decide +kernel
theorem dX5_turns_43 : decode cX5_turns 43 = .ok (.iload_n 2, 1) := by decide +kernel
theorem dX5_turns_44 : decode cX5_turns 44 = .ok (.iload_n 3, 1) := by decide +kernel
theorem dX5_turns_45 : decode cX5_turns 45 = .ok (.bipush 99, 2) := by decide +kernel
theorem dX5_turns_47 : decode cX5_turns 47 = .ok (.invokevirtual 174, 3) := by decide +kernel
theorem dX5_turns_50 : decode cX5_turns 50 = .ok (.iload_n 1, 1) := by decide +kernel
theorem dX5_turns_51 : decode cX5_turns 51 = .ok (.iconst 3, 1) := by decide +kernel
theorem dX5_turns_52 : decode cX5_turns 52 = .ok (.if_icmp .ne 7, 3) := by decide +kernel
theorem dX5_turns_55 : decode cX5_turns 55 = .ok (.iconst 1, 1) := by decide +kernel
theorem dX5_turns_56 : decode cX5_turns 56 = .ok (.goto 4, 3) := by decide +kernel
theorem dX5_turns_59 : decode cX5_turns 59 = .ok (.iconst 0, 1) := by decide +kernel
theorem dX5_turns_60 : decode cX5_turns 60 = .ok (.if_icmp .eq 12, 3) := by decide +kernel
theorem dX5_turns_63 : decode cX5_turns 63 = .ok (.aload_n 0, 1) := by decide +kernel
theorem dX5_turns_64 : decode cX5_turns 64 = .ok (.getfield 110, 3) := by decide +kernel
theorem dX5_turns_67 : decode cX5_turns 67 = .ok (.bipush 40, 2) := by decide +kernel
theorem dX5_turns_69 : decode cX5_turns 69 = .ok (.if_icmp .ne 7, 3) := by decide +kernel
theorem dX5_turns_72 : decode cX5_turns 72 = .ok (.iconst 1, 1) := by decide +kernel
theorem dX5_turns_73 : decode cX5_turns 73 = .ok (.goto 4, 3) := by decide +kernel
theorem dX5_turns_76 : decode cX5_turns 76 = .ok (.iconst 0, 1) := by decide +kernel
theorem dX5_turns_77 : decode cX5_turns 77 = .ok (.invokevirtual 81, 3) := by decide +kernel
theorem dX5_turns_80 : decode cX5_turns 80 = .ok (.ifCond .eq 5, 3) := by decide +kernel
theorem dX5_turns_83 : decode cX5_turns 83 = .ok (.iconst 0, 1) := by decide +kernel
theorem dX5_turns_84 : decode cX5_turns 84 = .ok (.ireturn, 1) := by decide +kernel
theorem dX5_turns_85 : decode cX5_turns 85 = .ok (.aload_n 0, 1) := by decide +kernel
theorem dX5_turns_86 : decode cX5_turns 86 = .ok (.iload_n 1, 1) := by decide +kernel
theorem dX5_turns_87 : decode cX5_turns 87 = .ok (.iload_n 2, 1) := by decide +kernel
theorem dX5_turns_88 : decode cX5_turns 88 = .ok (.iload_n 3, 1) := by decide +kernel
theorem dX5_turns_89 : decode cX5_turns 89 = .ok (.iconst 0, 1) := by decide +kernel
theorem dX5_turns_90 : decode cX5_turns 90 = .ok (.iconst 0, 1) := by decide +kernel
theorem dX5_turns_91 : decode cX5_turns 91 = .ok (.invokevirtual 162, 3) := by decide +kernel
theorem dX5_turns_94 : decode cX5_turns 94 = .ok (.aload_n 0, 1) := by decide +kernel
theorem dX5_turns_95 : decode cX5_turns 95 = .ok (.iload 4, 2) := by decide +kernel
theorem dX5_turns_97 : decode cX5_turns 97 = .ok (.invokevirtual 177, 3) := by decide +kernel
theorem dX5_turns_100 : decode cX5_turns 100 = .ok (.ireturn, 1) := by decide +kernel
set_option maxRecDepth 20000 in
theorem ggX5_cancel_X5_turns : GoodIn wsX5_cancel wsX5_turns := goodIn_r _ [5, 6, 7, 8, 9, 4, 10, 11, 12, 13, 14, 15, 16, 17, 18, 19, 20, 21, 22, 23, 24, 25, 26, 27, 28, 29, 30, 31, 32, 33, 34, 35, 36, 37, 38, 39, 40, 41, 42, 43, 44, 45, 46, 47, 48, 49, 50, 51, 52, 53, 54, 55, 56, 57, 58, 59, 60, 61, 62, 63, 64, 65, 66, 67, 68, 69, 70, 71, 72, 73, 74, 75, 76, 77, 78, 79, 80, 81, 82, 83, 84, 85, 86, 87, 88, 89, 90, 91, 92, 93, 94, 95, 96, 97, 98, 99, 100, 101, 102, 103, 104, 105, 106, 107, 108, 109, 110, 111, 112, 113, 114, 115, 116, 117, 118, 119, 120, 121, 122, 123, 124, 125, 126] (by decide +kernel) (by decide +kernel)
set_option maxRecDepth 20000 in
theorem gX5_cancel_X5_turns : GoodIn wsX5_cancel (wsV RX5 180 RX5 yX5_turns wsX5_turns) := goodIn_app (goodIn_of _ (by decide +kernel)) ggX5_cancel_X5_turns
