set_option maxRecDepth 20000 in
theorem wsL_law_in0 : ∀ w ∈ wsL_law0, w ∈ lw_tbl := fun w h => (goodIn_p wsL_law0 [74, 77, 82, 109, 151, 197, 639, 256, 260, 327, 330, 349, 742, 745, 749, 738, 356, 360, 753, 231, 235, 239, 243, 757, 761, 765, 367, 769, 374, 378, 773, 385, 389, 777, 397, 401, 405, 408, 411, 414, 418, 421, 425, 429, 433, 437, 441, 445, 449, 454, 457, 460, 464, 467, 486, 490, 494, 781, 784, 787, 792, 796, 800, 804, 808, 812, 816, 820, 824, 827, 831, 502, 506, 525, 529, 534, 539, 835, 839, 843, 847, 851, 546, 855, 859, 553, 863, 560, 564, 567, 572, 576, 580, 584, 867, 871, 247, 875, 591, 595, 879, 883, 606, 887, 613, 891, 620, 895, 627, 899, 634, 903] (by decide +kernel) (by decide +kernel) w h).1
theorem wsL_law_x0 : ∀ w ∈ (vx_at0 RX4 49 "java/lang/IllegalStateException" ["java/lang/RuntimeException", "java/lang/Exception"]).filter goodWord, w ∈ lw_tbl := by decide +kernel
theorem wsL_law_x1 : ∀ w ∈ (vx_at0 RX4 59 "java/lang/IllegalArgumentException" ["java/lang/RuntimeException", "java/lang/Exception"]).filter goodWord, w ∈ lw_tbl := by decide +kernel
theorem wsL_law_x2 : ∀ w ∈ (vx_at0 RX4 194 "java/lang/UnsupportedOperationException" ["java/lang/RuntimeException", "java/lang/Exception"]).filter goodWord, w ∈ lw_tbl := by decide +kernel
theorem wsL_law_x3 : ∀ w ∈ (vx_at0 RX4 116 "java/util/NoSuchElementException" ["java/lang/RuntimeException", "java/lang/Exception"]).filter goodWord, w ∈ lw_tbl := by decide +kernel
theorem wsL_law_in : ∀ w ∈ wsL_law, w ∈ lw_tbl := fun w h => (List.mem_append.mp h).elim (fun h => (List.mem_append.mp h).elim (fun h => (List.mem_append.mp h).elim (fun h => (List.mem_append.mp h).elim (fun h => wsL_law_in0 w h) (fun h => wsL_law_x0 w h)) (fun h => wsL_law_x1 w h)) (fun h => wsL_law_x2 w h)) (fun h => wsL_law_x3 w h)
theorem inlX0 : ∀ w ∈ wsX00, w ∈ wsL_law := fun _ h => List.mem_append_left _ (List.mem_append_left _ (List.mem_append_left _ (List.mem_append_left _ (List.mem_append_left _ (List.mem_append_right _ h)))))
theorem inX0 : ∀ w ∈ wsX00, w ∈ lw_tbl := fun w h => wsL_law_in w (inlX0 w h)
theorem inlX1 : ∀ w ∈ wsX10, w ∈ wsL_law := fun _ h => List.mem_append_left _ (List.mem_append_left _ (List.mem_append_left _ (List.mem_append_left _ (List.mem_append_left _ (List.mem_append_left _ (List.mem_append_left _ (List.mem_append_left _ (List.mem_append_right _ h))))))))
theorem inX1 : ∀ w ∈ wsX10, w ∈ lw_tbl := fun w h => wsL_law_in w (inlX1 w h)
theorem inlX2 : ∀ w ∈ wsX20, w ∈ wsL_law := fun _ h => List.mem_append_left _ (List.mem_append_left _ (List.mem_append_left _ (List.mem_append_left _ (List.mem_append_left _ (List.mem_append_left _ (List.mem_append_left _ (List.mem_append_right _ h)))))))
theorem inX2 : ∀ w ∈ wsX20, w ∈ lw_tbl := fun w h => wsL_law_in w (inlX2 w h)
theorem inlX3 : ∀ w ∈ wsX30, w ∈ wsL_law := fun _ h => List.mem_append_left _ (List.mem_append_left _ (List.mem_append_left _ (List.mem_append_left _ (List.mem_append_left _ (List.mem_append_left _ (List.mem_append_right _ h))))))
theorem inX3 : ∀ w ∈ wsX30, w ∈ lw_tbl := fun w h => wsL_law_in w (inlX3 w h)
theorem inlX4 : ∀ w ∈ wsX40, w ∈ wsL_law := fun _ h => List.mem_append_left _ (List.mem_append_left _ (List.mem_append_left _ (List.mem_append_left _ (List.mem_append_left _ (List.mem_append_left _ (List.mem_append_left _ (List.mem_append_left _ (List.mem_append_left _ (List.mem_append_left _ (List.mem_append_right _ h))))))))))
theorem inX4 : ∀ w ∈ wsX40, w ∈ lw_tbl := fun w h => wsL_law_in w (inlX4 w h)
theorem inlX5 : ∀ w ∈ wsX50, w ∈ wsL_law := fun _ h => List.mem_append_left _ (List.mem_append_left _ (List.mem_append_left _ (List.mem_append_left _ (List.mem_append_left _ (List.mem_append_left _ (List.mem_append_left _ (List.mem_append_left _ (List.mem_append_left _ (List.mem_append_right _ h)))))))))
theorem inX5 : ∀ w ∈ wsX50, w ∈ lw_tbl := fun w h => wsL_law_in w (inlX5 w h)
theorem inJ9 : ∀ w ∈ wsJ90, w ∈ lw_tbl := by decide +kernel
theorem dX0_init_0 : decode cX0_init 0 = .ok (.aload_n 0, 1) := by decide +kernel
theorem dX0_init_1 : decode cX0_init 1 = .ok (.invokespecial 3, 3) := by decide +kernel
theorem dX0_init_4 : decode cX0_init 4 = .ok (.aload_n 0, 1) := by decide +kernel
theorem dX0_init_5 : decode cX0_init 5 = .ok (.sipush 270, 3) := by decide +kernel
theorem dX0_init_8 : decode cX0_init 8 = .ok (.newarray .int, 2) := by decide +kernel
theorem dX0_init_10 : decode cX0_init 10 = .ok (.putfield 9, 3) := by decide +kernel
theorem dX0_init_13 : decode cX0_init 13 = .ok (.aload_n 0, 1) := by decide +kernel
theorem dX0_init_14 : decode cX0_init 14 = .ok (.bipush 7, 2) := by decide +kernel
theorem dX0_init_16 : decode cX0_init 16 = .ok (.newarray .int, 2) := by decide +kernel
theorem dX0_init_18 : decode cX0_init 18 = .ok (.putfield 15, 3) := by decide +kernel
theorem dX0_init_21 : decode cX0_init 21 = .ok (.return_, 1) := by decide +kernel
set_option maxRecDepth 20000 in
theorem ggX0_hasRoomFor_X0_needed : GoodIn wsX0_hasRoomFor wsX0_needed := goodIn_r _ [5] (by decide +kernel) (by decide +kernel)
set_option maxRecDepth 20000 in
theorem gX0_hasRoomFor_X0_needed : GoodIn wsX0_hasRoomFor (va_wsS RX0 22 yX0_needed wsX0_needed) := goodIn_app (goodIn_of _ (by decide +kernel)) ggX0_hasRoomFor_X0_needed
theorem dX0_hasRoomFor_0 : decode cX0_hasRoomFor 0 = .ok (.aload_n 0, 1) := by decide +kernel
theorem dX0_hasRoomFor_1 : decode cX0_hasRoomFor 1 = .ok (.getfield 18, 3) := by decide +kernel
theorem dX0_hasRoomFor_4 : decode cX0_hasRoomFor 4 = .ok (.iload_n 1, 1) := by decide +kernel
theorem dX0_hasRoomFor_5 : decode cX0_hasRoomFor 5 = .ok (.invokestatic 22, 3) := by decide +kernel
theorem dX0_hasRoomFor_8 : decode cX0_hasRoomFor 8 = .ok (.iadd, 1) := by decide +kernel
theorem dX0_hasRoomFor_9 : decode cX0_hasRoomFor 9 = .ok (.iload_n 2, 1) := by decide +kernel
theorem dX0_hasRoomFor_10 : decode cX0_hasRoomFor 10 = .ok (.invokestatic 22, 3) := by decide +kernel
theorem dX0_hasRoomFor_13 : decode cX0_hasRoomFor 13 = .ok (.iadd, 1) := by decide +kernel
theorem dX0_hasRoomFor_14 : decode cX0_hasRoomFor 14 = .ok (.iload_n 3, 1) := by decide +kernel
theorem dX0_hasRoomFor_15 : decode cX0_hasRoomFor 15 = .ok (.invokestatic 22, 3) := by decide +kernel
theorem dX0_hasRoomFor_18 : decode cX0_hasRoomFor 18 = .ok (.iadd, 1) := by decide +kernel
theorem dX0_hasRoomFor_19 : decode cX0_hasRoomFor 19 = .ok (.bipush 90, 2) := by decide +kernel
theorem dX0_hasRoomFor_21 : decode cX0_hasRoomFor 21 = .ok (.if_icmp .gt 7, 3) := by decide +kernel
theorem dX0_hasRoomFor_24 : decode cX0_hasRoomFor 24 = .ok (.iconst 1, 1) := by decide +kernel
theorem dX0_hasRoomFor_25 : decode cX0_hasRoomFor 25 = .ok (.goto 4, 3) := by decide +kernel
theorem dX0_hasRoomFor_28 : decode cX0_hasRoomFor 28 = .ok (.iconst 0, 1) := by decide +kernel
theorem dX0_hasRoomFor_29 : decode cX0_hasRoomFor 29 = .ok (.ireturn, 1) := by decide +kernel
theorem dX0_needed_0 : decode cX0_needed 0 = .ok (.iload_n 0, 1) := by decide +kernel
theorem dX0_needed_1 : decode cX0_needed 1 = .ok (.ifCond .ne 7, 3) := by decide +kernel
theorem dX0_needed_4 : decode cX0_needed 4 = .ok (.iconst 0, 1) := by decide +kernel
theorem dX0_needed_5 : decode cX0_needed 5 = .ok (.goto 4, 3) := by decide +kernel
theorem dX0_needed_8 : decode cX0_needed 8 = .ok (.iconst 1, 1) := by decide +kernel
theorem dX0_needed_9 : decode cX0_needed 9 = .ok (.ireturn, 1) := by decide +kernel
set_option maxRecDepth 20000 in
theorem ggX0_post_X0_enter : GoodIn wsX0_post wsX0_enter := goodIn_r _ [5, 6, 7, 8, 9, 10, 11] (by decide +kernel) (by decide +kernel)
set_option maxRecDepth 20000 in
theorem gX0_post_X0_enter : GoodIn wsX0_post (wsV RX0 26 RX0 yX0_enter wsX0_enter) := goodIn_app (goodIn_of _ (by decide +kernel)) ggX0_post_X0_enter
theorem dX0_post_0 : decode cX0_post 0 = .ok (.iload_n 1, 1) := by decide +kernel
theorem dX0_post_1 : decode cX0_post 1 = .ok (.ifCond .le 13, 3) := by decide +kernel
theorem dX0_post_4 : decode cX0_post 4 = .ok (.aload_n 0, 1) := by decide +kernel
theorem dX0_post_5 : decode cX0_post 5 = .ok (.iload_n 1, 1) := by decide +kernel
theorem dX0_post_6 : decode cX0_post 6 = .ok (.iload_n 2, 1) := by decide +kernel
theorem dX0_post_7 : decode cX0_post 7 = .ok (.iload_n 3, 1) := by decide +kernel
theorem dX0_post_8 : decode cX0_post 8 = .ok (.invokevirtual 26, 3) := by decide +kernel
theorem dX0_post_11 : decode cX0_post 11 = .ok (.goto 15, 3) := by decide +kernel
theorem dX0_post_14 : decode cX0_post 14 = .ok (.iload_n 1, 1) := by decide +kernel
theorem dX0_post_15 : decode cX0_post 15 = .ok (.ifCond .ge 11, 3) := by decide +kernel
theorem dX0_post_18 : decode cX0_post 18 = .ok (.aload_n 0, 1) := by decide +kernel
theorem dX0_post_19 : decode cX0_post 19 = .ok (.iload_n 1, 1) := by decide +kernel
theorem dX0_post_20 : decode cX0_post 20 = .ok (.ineg, 1) := by decide +kernel
theorem dX0_post_21 : decode cX0_post 21 = .ok (.iload_n 3, 1) := by decide +kernel
theorem dX0_post_22 : decode cX0_post 22 = .ok (.iload_n 2, 1) := by decide +kernel
theorem dX0_post_23 : decode cX0_post 23 = .ok (.invokevirtual 26, 3) := by decide +kernel
theorem dX0_post_26 : decode cX0_post 26 = .ok (.return_, 1) := by decide +kernel
theorem dX0_enter_0 : decode cX0_enter 0 = .ok (.aload_n 0, 1) := by decide +kernel
theorem dX0_enter_1 : decode cX0_enter 1 = .ok (.getfield 18, 3) := by decide +kernel
theorem dX0_enter_4 : decode cX0_enter 4 = .ok (.iconst 3, 1) := by decide +kernel
theorem dX0_enter_5 : decode cX0_enter 5 = .ok (.imul, 1) := by decide +kernel
theorem dX0_enter_6 : decode cX0_enter 6 = .ok (.istore 4, 2) := by decide +kernel
theorem dX0_enter_8 : decode cX0_enter 8 = .ok (.aload_n 0, 1) := by decide +kernel
theorem dX0_enter_9 : decode cX0_enter 9 = .ok (.getfield 9, 3) := by decide +kernel
theorem dX0_enter_12 : decode cX0_enter 12 = .ok (.iload 4, 2) := by decide +kernel
theorem dX0_enter_14 : decode cX0_enter 14 = .ok (.iload_n 2, 1) := by decide +kernel
theorem dX0_enter_15 : decode cX0_enter 15 = .ok (.iastore, 1) := by decide +kernel
theorem dX0_enter_16 : decode cX0_enter 16 = .ok (.aload_n 0, 1) := by decide +kernel
theorem dX0_enter_17 : decode cX0_enter 17 = .ok (.getfield 9, 3) := by decide +kernel
theorem dX0_enter_20 : decode cX0_enter 20 = .ok (.iload 4, 2) := by decide +kernel
theorem dX0_enter_22 : decode cX0_enter 22 = .ok (.iconst 1, 1) := by decide +kernel
theorem dX0_enter_23 : decode cX0_enter 23 = .ok (.iadd, 1) := by decide +kernel
theorem dX0_enter_24 : decode cX0_enter 24 = .ok (.iload_n 3, 1) := by decide +kernel
theorem dX0_enter_25 : decode cX0_enter 25 = .ok (.iastore, 1) := by decide +kernel
theorem dX0_enter_26 : decode cX0_enter 26 = .ok (.aload_n 0, 1) := by decide +kernel
theorem dX0_enter_27 : decode cX0_enter 27 = .ok (.getfield 9, 3) := by decide +kernel
theorem dX0_enter_30 : decode cX0_enter 30 = .ok (.iload 4, 2) := by decide +kernel
theorem dX0_enter_32 : decode cX0_enter 32 = .ok (.iconst 2, 1) := by decide +kernel
theorem dX0_enter_33 : decode cX0_enter 33 = .ok (.iadd, 1) := by decide +kernel
theorem dX0_enter_34 : decode cX0_enter 34 = .ok (.iload_n 1, 1) := by decide +kernel
theorem dX0_enter_35 : decode cX0_enter 35 = .ok (.iastore, 1) := by decide +kernel
theorem dX0_enter_36 : decode cX0_enter 36 = .ok (.aload_n 0, 1) := by decide +kernel
theorem dX0_enter_37 : decode cX0_enter 37 = .ok (.dup, 1) := by decide +kernel
theorem dX0_enter_38 : decode cX0_enter 38 = .ok (.getfield 18, 3) := by decide +kernel
theorem dX0_enter_41 : decode cX0_enter 41 = .ok (.iconst 1, 1) := by decide +kernel
theorem dX0_enter_42 : decode cX0_enter 42 = .ok (.iadd, 1) := by decide +kernel
theorem dX0_enter_43 : decode cX0_enter 43 = .ok (.putfield 18, 3) := by decide +kernel
theorem dX0_enter_46 : decode cX0_enter 46 = .ok (.aload_n 0, 1) := by decide +kernel
theorem dX0_enter_47 : decode cX0_enter 47 = .ok (.getfield 15, 3) := by decide +kernel
theorem dX0_enter_50 : decode cX0_enter 50 = .ok (.iload_n 2, 1) := by decide +kernel
theorem dX0_enter_51 : decode cX0_enter 51 = .ok (.dup2, 1) := by decide +kernel
theorem dX0_enter_52 : decode cX0_enter 52 = .ok (.iaload, 1) := by decide +kernel
theorem dX0_enter_53 : decode cX0_enter 53 = .ok (.iload_n 1, 1) := by decide +kernel
theorem dX0_enter_54 : decode cX0_enter 54 = .ok (.isub, 1) := by decide +kernel
theorem dX0_enter_55 : decode cX0_enter 55 = .ok (.iastore, 1) := by decide +kernel
theorem dX0_enter_56 : decode cX0_enter 56 = .ok (.aload_n 0, 1) := by decide +kernel
theorem dX0_enter_57 : decode cX0_enter 57 = .ok (.getfield 15, 3) := by decide +kernel
theorem dX0_enter_60 : decode cX0_enter 60 = .ok (.iload_n 3, 1) := by decide +kernel
theorem dX0_enter_61 : decode cX0_enter 61 = .ok (.dup2, 1) := by decide +kernel
theorem dX0_enter_62 : decode cX0_enter 62 = .ok (.iaload, 1) := by decide +kernel
theorem dX0_enter_63 : decode cX0_enter 63 = .ok (.iload_n 1, 1) := by decide +kernel
theorem dX0_enter_64 : decode cX0_enter 64 = .ok (.iadd, 1) := by decide +kernel
theorem dX0_enter_65 : decode cX0_enter 65 = .ok (.iastore, 1) := by decide +kernel
theorem dX0_enter_66 : decode cX0_enter 66 = .ok (.return_, 1) := by decide +kernel
theorem dX1_init_0 : decode cX1_init 0 = .ok (.aload_n 0, 1) := by decide +kernel
theorem dX1_init_1 : decode cX1_init 1 = .ok (.invokespecial 3, 3) := by decide +kernel
theorem dX1_init_4 : decode cX1_init 4 = .ok (.aload_n 0, 1) := by decide +kernel
theorem dX1_init_5 : decode cX1_init 5 = .ok (.bipush 8, 2) := by decide +kernel
theorem dX1_init_7 : decode cX1_init 7 = .ok (.newarray .int, 2) := by decide +kernel
theorem dX1_init_9 : decode cX1_init 9 = .ok (.putfield 9, 3) := by decide +kernel
theorem dX1_init_12 : decode cX1_init 12 = .ok (.aload_n 0, 1) := by decide +kernel
theorem dX1_init_13 : decode cX1_init 13 = .ok (.bipush 8, 2) := by decide +kernel
theorem dX1_init_15 : decode cX1_init 15 = .ok (.newarray .int, 2) := by decide +kernel
theorem dX1_init_17 : decode cX1_init 17 = .ok (.putfield 15, 3) := by decide +kernel
theorem dX1_init_20 : decode cX1_init 20 = .ok (.aload_n 0, 1) := by decide +kernel
theorem dX1_init_21 : decode cX1_init 21 = .ok (.bipush 8, 2) := by decide +kernel
theorem dX1_init_23 : decode cX1_init 23 = .ok (.newarray .int, 2) := by decide +kernel
theorem dX1_init_25 : decode cX1_init 25 = .ok (.putfield 18, 3) := by decide +kernel
theorem dX1_init_28 : decode cX1_init 28 = .ok (.aload_n 0, 1) := by decide +kernel
theorem dX1_init_29 : decode cX1_init 29 = .ok (.bipush 8, 2) := by decide +kernel
theorem dX1_init_31 : decode cX1_init 31 = .ok (.newarray .int, 2) := by decide +kernel
theorem dX1_init_33 : decode cX1_init 33 = .ok (.putfield 21, 3) := by decide +kernel
theorem dX1_init_36 : decode cX1_init 36 = .ok (.aload_n 0, 1) := by decide +kernel
theorem dX1_init_37 : decode cX1_init 37 = .ok (.bipush 8, 2) := by decide +kernel
theorem dX1_init_39 : decode cX1_init 39 = .ok (.newarray .int, 2) := by decide +kernel
theorem dX1_init_41 : decode cX1_init 41 = .ok (.putfield 24, 3) := by decide +kernel
theorem dX1_init_44 : decode cX1_init 44 = .ok (.return_, 1) := by decide +kernel
theorem dX1_add_0 : decode cX1_add 0 = .ok (.aload_n 0, 1) := by decide +kernel
theorem dX1_add_1 : decode cX1_add 1 = .ok (.getfield 9, 3) := by decide +kernel
theorem dX1_add_4 : decode cX1_add 4 = .ok (.aload_n 0, 1) := by decide +kernel
theorem dX1_add_5 : decode cX1_add 5 = .ok (.getfield 27, 3) := by decide +kernel
theorem dX1_add_8 : decode cX1_add 8 = .ok (.iload_n 1, 1) := by decide +kernel
theorem dX1_add_9 : decode cX1_add 9 = .ok (.iastore, 1) := by decide +kernel
theorem dX1_add_10 : decode cX1_add 10 = .ok (.aload_n 0, 1) := by decide +kernel
theorem dX1_add_11 : decode cX1_add 11 = .ok (.getfield 15, 3) := by decide +kernel
theorem dX1_add_14 : decode cX1_add 14 = .ok (.aload_n 0, 1) := by decide +kernel
theorem dX1_add_15 : decode cX1_add 15 = .ok (.getfield 27, 3) := by decide +kernel
theorem dX1_add_18 : decode cX1_add 18 = .ok (.iload_n 2, 1) := by decide +kernel
theorem dX1_add_19 : decode cX1_add 19 = .ok (.iastore, 1) := by decide +kernel
theorem dX1_add_20 : decode cX1_add 20 = .ok (.aload_n 0, 1) := by decide +kernel
theorem dX1_add_21 : decode cX1_add 21 = .ok (.getfield 18, 3) := by decide +kernel
theorem dX1_add_24 : decode cX1_add 24 = .ok (.aload_n 0, 1) := by decide +kernel
theorem dX1_add_25 : decode cX1_add 25 = .ok (.getfield 27, 3) := by decide +kernel
theorem dX1_add_28 : decode cX1_add 28 = .ok (.iload_n 3, 1) := by decide +kernel
theorem dX1_add_29 : decode cX1_add 29 = .ok (.iastore, 1) := by decide +kernel
theorem dX1_add_30 : decode cX1_add 30 = .ok (.aload_n 0, 1) := by decide +kernel
theorem dX1_add_31 : decode cX1_add 31 = .ok (.getfield 21, 3) := by decide +kernel
theorem dX1_add_34 : decode cX1_add 34 = .ok (.aload_n 0, 1) := by decide +kernel
theorem dX1_add_35 : decode cX1_add 35 = .ok (.getfield 27, 3) := by decide +kernel
theorem dX1_add_38 : decode cX1_add 38 = .ok (.iload 4, 2) := by decide +kernel
theorem dX1_add_40 : decode cX1_add 40 = .ok (.iastore, 1) := by decide +kernel
theorem dX1_add_41 : decode cX1_add 41 = .ok (.aload_n 0, 1) := by decide +kernel
theorem dX1_add_42 : decode cX1_add 42 = .ok (.getfield 24, 3) := by decide +kernel
theorem dX1_add_45 : decode cX1_add 45 = .ok (.aload_n 0, 1) := by decide +kernel
theorem dX1_add_46 : decode cX1_add 46 = .ok (.getfield 27, 3) := by decide +kernel
theorem dX1_add_49 : decode cX1_add 49 = .ok (.iload 5, 2) := by decide +kernel
theorem dX1_add_51 : decode cX1_add 51 = .ok (.iastore, 1) := by decide +kernel
theorem dX1_add_52 : decode cX1_add 52 = .ok (.aload_n 0, 1) := by decide +kernel
theorem dX1_add_53 : decode cX1_add 53 = .ok (.dup, 1) := by decide +kernel
theorem dX1_add_54 : decode cX1_add 54 = .ok (.getfield 27, 3) := by decide +kernel
theorem dX1_add_57 : decode cX1_add 57 = .ok (.iconst 1, 1) := by decide +kernel
theorem dX1_add_58 : decode cX1_add 58 = .ok (.iadd, 1) := by decide +kernel
theorem dX1_add_59 : decode cX1_add 59 = .ok (.putfield 27, 3) := by decide +kernel
theorem dX1_add_62 : decode cX1_add 62 = .ok (.aload_n 0, 1) := by decide +kernel
theorem dX1_add_63 : decode cX1_add 63 = .ok (.getfield 27, 3) := by decide +kernel
theorem dX1_add_66 : decode cX1_add 66 = .ok (.iconst 1, 1) := by decide +kernel
theorem dX1_add_67 : decode cX1_add 67 = .ok (.isub, 1) := by decide +kernel
theorem dX1_add_68 : decode cX1_add 68 = .ok (.ireturn, 1) := by decide +kernel
theorem dX1_dropLatest_0 : decode cX1_dropLatest 0 = .ok (.aload_n 0, 1) := by decide +kernel
theorem dX1_dropLatest_1 : decode cX1_dropLatest 1 = .ok (.dup, 1) := by decide +kernel
theorem dX1_dropLatest_2 : decode cX1_dropLatest 2 = .ok (.getfield 27, 3) := by decide +kernel
theorem dX1_dropLatest_5 : decode cX1_dropLatest 5 = .ok (.iconst 1, 1) := by decide +kernel
theorem dX1_dropLatest_6 : decode cX1_dropLatest 6 = .ok (.isub, 1) := by decide +kernel
theorem dX1_dropLatest_7 : decode cX1_dropLatest 7 = .ok (.putfield 27, 3) := by decide +kernel
theorem dX1_dropLatest_10 : decode cX1_dropLatest 10 = .ok (.return_, 1) := by decide +kernel
set_option maxRecDepth 20000 in
theorem ggX1_firstFault_X1_matches : GoodIn wsX1_firstFault wsX1_matches := goodIn_r _ [5, 6, 7, 8, 9, 4, 10, 11, 12, 13, 14, 15, 16, 17, 18, 19, 20] (by decide +kernel) (by decide +kernel)
set_option maxRecDepth 20000 in
theorem gX1_firstFault_X1_matches : GoodIn wsX1_firstFault (wsV RX1 31 RX1 yX1_matches wsX1_matches) := goodIn_app (goodIn_of _ (by decide +kernel)) ggX1_firstFault_X1_matches
theorem dX1_firstFault_0 : decode cX1_firstFault 0 = .ok (.iconst 0, 1) := by decide +kernel
theorem dX1_firstFault_1 : decode cX1_firstFault 1 = .ok (.istore_n 1, 1) := by decide +kernel
theorem dX1_firstFault_2 : decode cX1_firstFault 2 = .ok (.iload_n 1, 1) := by decide +kernel
theorem dX1_firstFault_3 : decode cX1_firstFault 3 = .ok (.bipush 49, 2) := by decide +kernel
theorem dX1_firstFault_5 : decode cX1_firstFault 5 = .ok (.if_icmp .gt 40, 3) := by decide +kernel
theorem dX1_firstFault_8 : decode cX1_firstFault 8 = .ok (.iconst 0, 1) := by decide +kernel
theorem dX1_firstFault_9 : decode cX1_firstFault 9 = .ok (.istore_n 2, 1) := by decide +kernel
theorem dX1_firstFault_10 : decode cX1_firstFault 10 = .ok (.iload_n 2, 1) := by decide +kernel
theorem dX1_firstFault_11 : decode cX1_firstFault 11 = .ok (.bipush 9, 2) := by decide +kernel
theorem dX1_firstFault_13 : decode cX1_firstFault 13 = .ok (.if_icmp .gt 26, 3) := by decide +kernel
theorem dX1_firstFault_16 : decode cX1_firstFault 16 = .ok (.aload_n 0, 1) := by decide +kernel
theorem dX1_firstFault_17 : decode cX1_firstFault 17 = .ok (.iload_n 1, 1) := by decide +kernel
theorem dX1_firstFault_18 : decode cX1_firstFault 18 = .ok (.iload_n 2, 1) := by decide +kernel
theorem dX1_firstFault_19 : decode cX1_firstFault 19 = .ok (.invokevirtual 31, 3) := by decide +kernel
theorem dX1_firstFault_22 : decode cX1_firstFault 22 = .ok (.iconst 1, 1) := by decide +kernel
theorem dX1_firstFault_23 : decode cX1_firstFault 23 = .ok (.if_icmp .eq 10, 3) := by decide +kernel
theorem dX1_firstFault_26 : decode cX1_firstFault 26 = .ok (.bipush 10, 2) := by decide +kernel
theorem dX1_firstFault_28 : decode cX1_firstFault 28 = .ok (.iload_n 1, 1) := by decide +kernel
theorem dX1_firstFault_29 : decode cX1_firstFault 29 = .ok (.imul, 1) := by decide +kernel
theorem dX1_firstFault_30 : decode cX1_firstFault 30 = .ok (.iload_n 2, 1) := by decide +kernel
theorem dX1_firstFault_31 : decode cX1_firstFault 31 = .ok (.iadd, 1) := by decide +kernel
theorem dX1_firstFault_32 : decode cX1_firstFault 32 = .ok (.ireturn, 1) := by decide +kernel
theorem dX1_firstFault_33 : decode cX1_firstFault 33 = .ok (.iinc 2 1, 3) := by decide +kernel
theorem dX1_firstFault_36 : decode cX1_firstFault 36 = .ok (.goto (-26), 3) := by decide +kernel
theorem dX1_firstFault_39 : decode cX1_firstFault 39 = .ok (.iinc 1 1, 3) := by decide +kernel
theorem dX1_firstFault_42 : decode cX1_firstFault 42 = .ok (.goto (-40), 3) := by decide +kernel
theorem dX1_firstFault_45 : decode cX1_firstFault 45 = .ok (.iconst (-1), 1) := by decide +kernel
theorem dX1_firstFault_46 : decode cX1_firstFault 46 = .ok (.ireturn, 1) := by decide +kernel
set_option maxRecDepth 20000 in
theorem ggX1_matches_X1_isMatch : GoodIn wsX1_matches wsX1_isMatch := goodIn_r _ [6, 7, 8, 9, 10, 11, 12, 13, 14, 15, 16] (by decide +kernel) (by decide +kernel)
set_option maxRecDepth 20000 in
theorem gX1_matches_X1_isMatch : GoodIn wsX1_matches (wsV RX1 35 RX1 yX1_isMatch wsX1_isMatch) := goodIn_app (goodIn_of _ (by decide +kernel)) ggX1_matches_X1_isMatch
theorem dX1_matches_0 : decode cX1_matches 0 = .ok (.iconst 0, 1) := by decide +kernel
theorem dX1_matches_1 : decode cX1_matches 1 = .ok (.istore_n 3, 1) := by decide +kernel
theorem dX1_matches_2 : decode cX1_matches 2 = .ok (.iconst 0, 1) := by decide +kernel
theorem dX1_matches_3 : decode cX1_matches 3 = .ok (.istore 4, 2) := by decide +kernel
theorem dX1_matches_5 : decode cX1_matches 5 = .ok (.iload 4, 2) := by decide +kernel
theorem dX1_matches_7 : decode cX1_matches 7 = .ok (.aload_n 0, 1) := by decide +kernel
theorem dX1_matches_8 : decode cX1_matches 8 = .ok (.getfield 27, 3) := by decide +kernel
theorem dX1_matches_11 : decode cX1_matches 11 = .ok (.if_icmp .ge 23, 3) := by decide +kernel
theorem dX1_matches_14 : decode cX1_matches 14 = .ok (.aload_n 0, 1) := by decide +kernel
theorem dX1_matches_15 : decode cX1_matches 15 = .ok (.iload 4, 2) := by decide +kernel
theorem dX1_matches_17 : decode cX1_matches 17 = .ok (.iload_n 1, 1) := by decide +kernel
theorem dX1_matches_18 : decode cX1_matches 18 = .ok (.iload_n 2, 1) := by decide +kernel
theorem dX1_matches_19 : decode cX1_matches 19 = .ok (.invokevirtual 35, 3) := by decide +kernel
theorem dX1_matches_22 : decode cX1_matches 22 = .ok (.ifCond .eq 6, 3) := by decide +kernel
theorem dX1_matches_25 : decode cX1_matches 25 = .ok (.iinc 3 1, 3) := by decide +kernel
theorem dX1_matches_28 : decode cX1_matches 28 = .ok (.iinc 4 1, 3) := by decide +kernel
theorem dX1_matches_31 : decode cX1_matches 31 = .ok (.goto (-26), 3) := by decide +kernel
theorem dX1_matches_34 : decode cX1_matches 34 = .ok (.iload_n 3, 1) := by decide +kernel
theorem dX1_matches_35 : decode cX1_matches 35 = .ok (.ireturn, 1) := by decide +kernel
set_option maxRecDepth 20000 in
theorem ggX1_rateOf_X1_isMatch : GoodIn wsX1_rateOf wsX1_isMatch := goodIn_r _ [7, 8, 9, 10, 11, 12, 13, 14, 15, 16, 17] (by decide +kernel) (by decide +kernel)
set_option maxRecDepth 20000 in
theorem gX1_rateOf_X1_isMatch : GoodIn wsX1_rateOf (wsV RX1 35 RX1 yX1_isMatch wsX1_isMatch) := goodIn_app (goodIn_of _ (by decide +kernel)) ggX1_rateOf_X1_isMatch
theorem dX1_rateOf_0 : decode cX1_rateOf 0 = .ok (.iconst 0, 1) := by decide +kernel
theorem dX1_rateOf_1 : decode cX1_rateOf 1 = .ok (.istore_n 3, 1) := by decide +kernel
theorem dX1_rateOf_2 : decode cX1_rateOf 2 = .ok (.iload_n 3, 1) := by decide +kernel
theorem dX1_rateOf_3 : decode cX1_rateOf 3 = .ok (.aload_n 0, 1) := by decide +kernel
theorem dX1_rateOf_4 : decode cX1_rateOf 4 = .ok (.getfield 27, 3) := by decide +kernel
theorem dX1_rateOf_7 : decode cX1_rateOf 7 = .ok (.if_icmp .ge 26, 3) := by decide +kernel
theorem dX1_rateOf_10 : decode cX1_rateOf 10 = .ok (.aload_n 0, 1) := by decide +kernel
theorem dX1_rateOf_11 : decode cX1_rateOf 11 = .ok (.iload_n 3, 1) := by decide +kernel
theorem dX1_rateOf_12 : decode cX1_rateOf 12 = .ok (.iload_n 1, 1) := by decide +kernel
theorem dX1_rateOf_13 : decode cX1_rateOf 13 = .ok (.iload_n 2, 1) := by decide +kernel
theorem dX1_rateOf_14 : decode cX1_rateOf 14 = .ok (.invokevirtual 35, 3) := by decide +kernel
theorem dX1_rateOf_17 : decode cX1_rateOf 17 = .ok (.ifCond .eq 10, 3) := by decide +kernel
theorem dX1_rateOf_20 : decode cX1_rateOf 20 = .ok (.aload_n 0, 1) := by decide +kernel
theorem dX1_rateOf_21 : decode cX1_rateOf 21 = .ok (.getfield 24, 3) := by decide +kernel
theorem dX1_rateOf_24 : decode cX1_rateOf 24 = .ok (.iload_n 3, 1) := by decide +kernel
theorem dX1_rateOf_25 : decode cX1_rateOf 25 = .ok (.iaload, 1) := by decide +kernel
theorem dX1_rateOf_26 : decode cX1_rateOf 26 = .ok (.ireturn, 1) := by decide +kernel
theorem dX1_rateOf_27 : decode cX1_rateOf 27 = .ok (.iinc 3 1, 3) := by decide +kernel
theorem dX1_rateOf_30 : decode cX1_rateOf 30 = .ok (.goto (-28), 3) := by decide +kernel
theorem dX1_rateOf_33 : decode cX1_rateOf 33 = .ok (.iconst 0, 1) := by decide +kernel
theorem dX1_rateOf_34 : decode cX1_rateOf 34 = .ok (.ireturn, 1) := by decide +kernel
theorem dX1_isMatch_0 : decode cX1_isMatch 0 = .ok (.aload_n 0, 1) := by decide +kernel
theorem dX1_isMatch_1 : decode cX1_isMatch 1 = .ok (.getfield 9, 3) := by decide +kernel
theorem dX1_isMatch_4 : decode cX1_isMatch 4 = .ok (.iload_n 1, 1) := by decide +kernel
theorem dX1_isMatch_5 : decode cX1_isMatch 5 = .ok (.iaload, 1) := by decide +kernel
theorem dX1_isMatch_6 : decode cX1_isMatch 6 = .ok (.iload_n 2, 1) := by decide +kernel
theorem dX1_isMatch_7 : decode cX1_isMatch 7 = .ok (.if_icmp .gt 37, 3) := by decide +kernel
theorem dX1_isMatch_10 : decode cX1_isMatch 10 = .ok (.iload_n 2, 1) := by decide +kernel
theorem dX1_isMatch_11 : decode cX1_isMatch 11 = .ok (.aload_n 0, 1) := by decide +kernel
theorem dX1_isMatch_12 : decode cX1_isMatch 12 = .ok (.getfield 15, 3) := by decide +kernel
theorem dX1_isMatch_15 : decode cX1_isMatch 15 = .ok (.iload_n 1, 1) := by decide +kernel
theorem dX1_isMatch_16 : decode cX1_isMatch 16 = .ok (.iaload, 1) := by decide +kernel
theorem dX1_isMatch_17 : decode cX1_isMatch 17 = .ok (.if_icmp .gt 27, 3) := by decide +kernel
theorem dX1_isMatch_20 : decode cX1_isMatch 20 = .ok (.aload_n 0, 1) := by decide +kernel
theorem dX1_isMatch_21 : decode cX1_isMatch 21 = .ok (.getfield 18, 3) := by decide +kernel
theorem dX1_isMatch_24 : decode cX1_isMatch 24 = .ok (.iload_n 1, 1) := by decide +kernel
theorem dX1_isMatch_25 : decode cX1_isMatch 25 = .ok (.iaload, 1) := by decide +kernel
theorem dX1_isMatch_26 : decode cX1_isMatch 26 = .ok (.iload_n 3, 1) := by decide +kernel
theorem dX1_isMatch_27 : decode cX1_isMatch 27 = .ok (.if_icmp .gt 17, 3) := by decide +kernel
theorem dX1_isMatch_30 : decode cX1_isMatch 30 = .ok (.iload_n 3, 1) := by decide +kernel
theorem dX1_isMatch_31 : decode cX1_isMatch 31 = .ok (.aload_n 0, 1) := by decide +kernel
theorem dX1_isMatch_32 : decode cX1_isMatch 32 = .ok (.getfield 21, 3) := by decide +kernel
theorem dX1_isMatch_35 : decode cX1_isMatch 35 = .ok (.iload_n 1, 1) := by decide +kernel
theorem dX1_isMatch_36 : decode cX1_isMatch 36 = .ok (.iaload, 1) := by decide +kernel
theorem dX1_isMatch_37 : decode cX1_isMatch 37 = .ok (.if_icmp .gt 7, 3) := by decide +kernel
theorem dX1_isMatch_40 : decode cX1_isMatch 40 = .ok (.iconst 1, 1) := by decide +kernel
theorem dX1_isMatch_41 : decode cX1_isMatch 41 = .ok (.goto 4, 3) := by decide +kernel
theorem dX1_isMatch_44 : decode cX1_isMatch 44 = .ok (.iconst 0, 1) := by decide +kernel
theorem dX1_isMatch_45 : decode cX1_isMatch 45 = .ok (.ireturn, 1) := by decide +kernel
theorem dX2_init_0 : decode cX2_init 0 = .ok (.aload_n 0, 1) := by decide +kernel
theorem dX2_init_1 : decode cX2_init 1 = .ok (.invokespecial 3, 3) := by decide +kernel
theorem dX2_init_4 : decode cX2_init 4 = .ok (.aload_n 0, 1) := by decide +kernel
theorem dX2_init_5 : decode cX2_init 5 = .ok (.bipush 6, 2) := by decide +kernel
theorem dX2_init_7 : decode cX2_init 7 = .ok (.newarray .int, 2) := by decide +kernel
theorem dX2_init_9 : decode cX2_init 9 = .ok (.putfield 9, 3) := by decide +kernel
theorem dX2_init_12 : decode cX2_init 12 = .ok (.aload_n 0, 1) := by decide +kernel
theorem dX2_init_13 : decode cX2_init 13 = .ok (.bipush 6, 2) := by decide +kernel
theorem dX2_init_15 : decode cX2_init 15 = .ok (.newarray .int, 2) := by decide +kernel
theorem dX2_init_17 : decode cX2_init 17 = .ok (.putfield 15, 3) := by decide +kernel
theorem dX2_init_20 : decode cX2_init 20 = .ok (.aload_n 0, 1) := by decide +kernel
theorem dX2_init_21 : decode cX2_init 21 = .ok (.bipush 6, 2) := by decide +kernel
theorem dX2_init_23 : decode cX2_init 23 = .ok (.newarray .int, 2) := by decide +kernel
theorem dX2_init_25 : decode cX2_init 25 = .ok (.putfield 18, 3) := by decide +kernel
theorem dX2_init_28 : decode cX2_init 28 = .ok (.aload_n 0, 1) := by decide +kernel
theorem dX2_init_29 : decode cX2_init 29 = .ok (.bipush 24, 2) := by decide +kernel
theorem dX2_init_31 : decode cX2_init 31 = .ok (.newarray .int, 2) := by decide +kernel
theorem dX2_init_33 : decode cX2_init 33 = .ok (.putfield 21, 3) := by decide +kernel
theorem dX2_init_36 : decode cX2_init 36 = .ok (.aload_n 0, 1) := by decide +kernel
theorem dX2_init_37 : decode cX2_init 37 = .ok (.bipush 40, 2) := by decide +kernel
theorem dX2_init_39 : decode cX2_init 39 = .ok (.newarray .int, 2) := by decide +kernel
theorem dX2_init_41 : decode cX2_init 41 = .ok (.putfield 24, 3) := by decide +kernel
theorem dX2_init_44 : decode cX2_init 44 = .ok (.aload_n 0, 1) := by decide +kernel
theorem dX2_init_45 : decode cX2_init 45 = .ok (.bipush 40, 2) := by decide +kernel
theorem dX2_init_47 : decode cX2_init 47 = .ok (.newarray .int, 2) := by decide +kernel
theorem dX2_init_49 : decode cX2_init 49 = .ok (.putfield 27, 3) := by decide +kernel
theorem dX2_init_52 : decode cX2_init 52 = .ok (.aload_n 0, 1) := by decide +kernel
theorem dX2_init_53 : decode cX2_init 53 = .ok (.bipush 40, 2) := by decide +kernel
theorem dX2_init_55 : decode cX2_init 55 = .ok (.newarray .int, 2) := by decide +kernel
theorem dX2_init_57 : decode cX2_init 57 = .ok (.putfield 30, 3) := by decide +kernel
theorem dX2_init_60 : decode cX2_init 60 = .ok (.aload_n 0, 1) := by decide +kernel
theorem dX2_init_61 : decode cX2_init 61 = .ok (.bipush 40, 2) := by decide +kernel
theorem dX2_init_63 : decode cX2_init 63 = .ok (.newarray .int, 2) := by decide +kernel
theorem dX2_init_65 : decode cX2_init 65 = .ok (.putfield 33, 3) := by decide +kernel
theorem dX2_init_68 : decode cX2_init 68 = .ok (.aload_n 0, 1) := by decide +kernel
theorem dX2_init_69 : decode cX2_init 69 = .ok (.aload_n 1, 1) := by decide +kernel
theorem dX2_init_70 : decode cX2_init 70 = .ok (.putfield 36, 3) := by decide +kernel
theorem dX2_init_73 : decode cX2_init 73 = .ok (.return_, 1) := by decide +kernel
theorem dX2_isFull_0 : decode cX2_isFull 0 = .ok (.aload_n 0, 1) := by decide +kernel
theorem dX2_isFull_1 : decode cX2_isFull 1 = .ok (.getfield 40, 3) := by decide +kernel
theorem dX2_isFull_4 : decode cX2_isFull 4 = .ok (.bipush 40, 2) := by decide +kernel
theorem dX2_isFull_6 : decode cX2_isFull 6 = .ok (.if_icmp .ne 7, 3) := by decide +kernel
theorem dX2_isFull_9 : decode cX2_isFull 9 = .ok (.iconst 1, 1) := by decide +kernel
theorem dX2_isFull_10 : decode cX2_isFull 10 = .ok (.goto 4, 3) := by decide +kernel
theorem dX2_isFull_13 : decode cX2_isFull 13 = .ok (.iconst 0, 1) := by decide +kernel
theorem dX2_isFull_14 : decode cX2_isFull 14 = .ok (.ireturn, 1) := by decide +kernel
set_option maxRecDepth 20000 in
theorem ggX2_pencilBind_X2_pencil : GoodIn wsX2_pencilBind wsX2_pencil := goodIn_r _ [15, 16, 9, 17, 18, 19, 20, 21, 22, 23, 24, 25, 26, 27, 28, 29, 30] (by decide +kernel) (by decide +kernel)
set_option maxRecDepth 20000 in
theorem gX2_pencilBind_X2_pencil : GoodIn wsX2_pencilBind (wsV RX2 53 RX2 yX2_pencil wsX2_pencil) := goodIn_app (goodIn_of _ (by decide +kernel)) ggX2_pencilBind_X2_pencil
theorem dX2_pencilBind_0 : decode cX2_pencilBind 0 = .ok (.aload_n 0, 1) := by decide +kernel
theorem dX2_pencilBind_1 : decode cX2_pencilBind 1 = .ok (.getfield 9, 3) := by decide +kernel
theorem dX2_pencilBind_4 : decode cX2_pencilBind 4 = .ok (.aload_n 0, 1) := by decide +kernel
theorem dX2_pencilBind_5 : decode cX2_pencilBind 5 = .ok (.getfield 44, 3) := by decide +kernel
theorem dX2_pencilBind_8 : decode cX2_pencilBind 8 = .ok (.iload_n 1, 1) := by decide +kernel
theorem dX2_pencilBind_9 : decode cX2_pencilBind 9 = .ok (.iastore, 1) := by decide +kernel
theorem dX2_pencilBind_10 : decode cX2_pencilBind 10 = .ok (.aload_n 0, 1) := by decide +kernel
theorem dX2_pencilBind_11 : decode cX2_pencilBind 11 = .ok (.getfield 15, 3) := by decide +kernel
theorem dX2_pencilBind_14 : decode cX2_pencilBind 14 = .ok (.aload_n 0, 1) := by decide +kernel
theorem dX2_pencilBind_15 : decode cX2_pencilBind 15 = .ok (.getfield 44, 3) := by decide +kernel
theorem dX2_pencilBind_18 : decode cX2_pencilBind 18 = .ok (.iload_n 1, 1) := by decide +kernel
theorem dX2_pencilBind_19 : decode cX2_pencilBind 19 = .ok (.iload_n 2, 1) := by decide +kernel
theorem dX2_pencilBind_20 : decode cX2_pencilBind 20 = .ok (.iadd, 1) := by decide +kernel
theorem dX2_pencilBind_21 : decode cX2_pencilBind 21 = .ok (.sipush 1000, 3) := by decide +kernel
theorem dX2_pencilBind_24 : decode cX2_pencilBind 24 = .ok (.invokestatic 47, 3) := by decide +kernel
theorem dX2_pencilBind_27 : decode cX2_pencilBind 27 = .ok (.iastore, 1) := by decide +kernel
theorem dX2_pencilBind_28 : decode cX2_pencilBind 28 = .ok (.aload_n 0, 1) := by decide +kernel
theorem dX2_pencilBind_29 : decode cX2_pencilBind 29 = .ok (.getfield 18, 3) := by decide +kernel
theorem dX2_pencilBind_32 : decode cX2_pencilBind 32 = .ok (.aload_n 0, 1) := by decide +kernel
theorem dX2_pencilBind_33 : decode cX2_pencilBind 33 = .ok (.getfield 44, 3) := by decide +kernel
theorem dX2_pencilBind_36 : decode cX2_pencilBind 36 = .ok (.aload_n 0, 1) := by decide +kernel
theorem dX2_pencilBind_37 : decode cX2_pencilBind 37 = .ok (.getfield 40, 3) := by decide +kernel
theorem dX2_pencilBind_40 : decode cX2_pencilBind 40 = .ok (.iastore, 1) := by decide +kernel
theorem dX2_pencilBind_41 : decode cX2_pencilBind 41 = .ok (.aload_n 0, 1) := by decide +kernel
theorem dX2_pencilBind_42 : decode cX2_pencilBind 42 = .ok (.getfield 44, 3) := by decide +kernel
theorem dX2_pencilBind_45 : decode cX2_pencilBind 45 = .ok (.iconst 4, 1) := by decide +kernel
theorem dX2_pencilBind_46 : decode cX2_pencilBind 46 = .ok (.imul, 1) := by decide +kernel
theorem dX2_pencilBind_47 : decode cX2_pencilBind 47 = .ok (.istore 6, 2) := by decide +kernel
theorem dX2_pencilBind_49 : decode cX2_pencilBind 49 = .ok (.aload_n 0, 1) := by decide +kernel
theorem dX2_pencilBind_50 : decode cX2_pencilBind 50 = .ok (.getfield 21, 3) := by decide +kernel
theorem dX2_pencilBind_53 : decode cX2_pencilBind 53 = .ok (.iload 6, 2) := by decide +kernel
theorem dX2_pencilBind_55 : decode cX2_pencilBind 55 = .ok (.iconst 0, 1) := by decide +kernel
theorem dX2_pencilBind_56 : decode cX2_pencilBind 56 = .ok (.iadd, 1) := by decide +kernel
theorem dX2_pencilBind_57 : decode cX2_pencilBind 57 = .ok (.iload_n 3, 1) := by decide +kernel
theorem dX2_pencilBind_58 : decode cX2_pencilBind 58 = .ok (.iastore, 1) := by decide +kernel
theorem dX2_pencilBind_59 : decode cX2_pencilBind 59 = .ok (.aload_n 0, 1) := by decide +kernel
theorem dX2_pencilBind_60 : decode cX2_pencilBind 60 = .ok (.getfield 21, 3) := by decide +kernel
theorem dX2_pencilBind_63 : decode cX2_pencilBind 63 = .ok (.iload 6, 2) := by decide +kernel
theorem dX2_pencilBind_65 : decode cX2_pencilBind 65 = .ok (.iconst 1, 1) := by decide +kernel
theorem dX2_pencilBind_66 : decode cX2_pencilBind 66 = .ok (.iadd, 1) := by decide +kernel
theorem dX2_pencilBind_67 : decode cX2_pencilBind 67 = .ok (.iload 4, 2) := by decide +kernel
theorem dX2_pencilBind_69 : decode cX2_pencilBind 69 = .ok (.iastore, 1) := by decide +kernel
theorem dX2_pencilBind_70 : decode cX2_pencilBind 70 = .ok (.aload_n 0, 1) := by decide +kernel
theorem dX2_pencilBind_71 : decode cX2_pencilBind 71 = .ok (.getfield 21, 3) := by decide +kernel
theorem dX2_pencilBind_74 : decode cX2_pencilBind 74 = .ok (.iload 6, 2) := by decide +kernel
theorem dX2_pencilBind_76 : decode cX2_pencilBind 76 = .ok (.iconst 2, 1) := by decide +kernel
theorem dX2_pencilBind_77 : decode cX2_pencilBind 77 = .ok (.iadd, 1) := by decide +kernel
theorem dX2_pencilBind_78 : decode cX2_pencilBind 78 = .ok (.iload 5, 2) := by decide +kernel
theorem dX2_pencilBind_80 : decode cX2_pencilBind 80 = .ok (.iastore, 1) := by decide +kernel
theorem dX2_pencilBind_81 : decode cX2_pencilBind 81 = .ok (.aload_n 0, 1) := by decide +kernel
theorem dX2_pencilBind_82 : decode cX2_pencilBind 82 = .ok (.getfield 21, 3) := by decide +kernel
theorem dX2_pencilBind_85 : decode cX2_pencilBind 85 = .ok (.iload 6, 2) := by decide +kernel
theorem dX2_pencilBind_87 : decode cX2_pencilBind 87 = .ok (.iconst 3, 1) := by decide +kernel
theorem dX2_pencilBind_88 : decode cX2_pencilBind 88 = .ok (.iadd, 1) := by decide +kernel
theorem dX2_pencilBind_89 : decode cX2_pencilBind 89 = .ok (.iconst 1, 1) := by decide +kernel
theorem dX2_pencilBind_90 : decode cX2_pencilBind 90 = .ok (.iastore, 1) := by decide +kernel
theorem dX2_pencilBind_91 : decode cX2_pencilBind 91 = .ok (.aload_n 0, 1) := by decide +kernel
theorem dX2_pencilBind_92 : decode cX2_pencilBind 92 = .ok (.aload_n 0, 1) := by decide +kernel
theorem dX2_pencilBind_93 : decode cX2_pencilBind 93 = .ok (.getfield 44, 3) := by decide +kernel
theorem dX2_pencilBind_96 : decode cX2_pencilBind 96 = .ok (.iload_n 1, 1) := by decide +kernel
theorem dX2_pencilBind_97 : decode cX2_pencilBind 97 = .ok (.iconst (-1), 1) := by decide +kernel
theorem dX2_pencilBind_98 : decode cX2_pencilBind 98 = .ok (.iconst 0, 1) := by decide +kernel
theorem dX2_pencilBind_99 : decode cX2_pencilBind 99 = .ok (.invokevirtual 53, 3) := by decide +kernel
theorem dX2_pencilBind_102 : decode cX2_pencilBind 102 = .ok (.return_, 1) := by decide +kernel
theorem dX2_confirmBind_0 : decode cX2_confirmBind 0 = .ok (.aload_n 0, 1) := by decide +kernel
theorem dX2_confirmBind_1 : decode cX2_confirmBind 1 = .ok (.dup, 1) := by decide +kernel
theorem dX2_confirmBind_2 : decode cX2_confirmBind 2 = .ok (.getfield 44, 3) := by decide +kernel
theorem dX2_confirmBind_5 : decode cX2_confirmBind 5 = .ok (.iconst 1, 1) := by decide +kernel
theorem dX2_confirmBind_6 : decode cX2_confirmBind 6 = .ok (.iadd, 1) := by decide +kernel
theorem dX2_confirmBind_7 : decode cX2_confirmBind 7 = .ok (.putfield 44, 3) := by decide +kernel
theorem dX2_confirmBind_10 : decode cX2_confirmBind 10 = .ok (.aload_n 0, 1) := by decide +kernel
theorem dX2_confirmBind_11 : decode cX2_confirmBind 11 = .ok (.dup, 1) := by decide +kernel
theorem dX2_confirmBind_12 : decode cX2_confirmBind 12 = .ok (.getfield 40, 3) := by decide +kernel
theorem dX2_confirmBind_15 : decode cX2_confirmBind 15 = .ok (.iconst 1, 1) := by decide +kernel
theorem dX2_confirmBind_16 : decode cX2_confirmBind 16 = .ok (.iadd, 1) := by decide +kernel
theorem dX2_confirmBind_17 : decode cX2_confirmBind 17 = .ok (.putfield 40, 3) := by decide +kernel
theorem dX2_confirmBind_20 : decode cX2_confirmBind 20 = .ok (.return_, 1) := by decide +kernel
theorem dX2_pencil_0 : decode cX2_pencil 0 = .ok (.aload_n 0, 1) := by decide +kernel
theorem dX2_pencil_1 : decode cX2_pencil 1 = .ok (.getfield 24, 3) := by decide +kernel
theorem dX2_pencil_4 : decode cX2_pencil 4 = .ok (.aload_n 0, 1) := by decide +kernel
theorem dX2_pencil_5 : decode cX2_pencil 5 = .ok (.getfield 40, 3) := by decide +kernel
theorem dX2_pencil_8 : decode cX2_pencil 8 = .ok (.iload_n 1, 1) := by decide +kernel
theorem dX2_pencil_9 : decode cX2_pencil 9 = .ok (.iastore, 1) := by decide +kernel
theorem dX2_pencil_10 : decode cX2_pencil 10 = .ok (.aload_n 0, 1) := by decide +kernel
theorem dX2_pencil_11 : decode cX2_pencil 11 = .ok (.getfield 27, 3) := by decide +kernel
theorem dX2_pencil_14 : decode cX2_pencil 14 = .ok (.aload_n 0, 1) := by decide +kernel
theorem dX2_pencil_15 : decode cX2_pencil 15 = .ok (.getfield 40, 3) := by decide +kernel
theorem dX2_pencil_18 : decode cX2_pencil 18 = .ok (.iload_n 2, 1) := by decide +kernel
theorem dX2_pencil_19 : decode cX2_pencil 19 = .ok (.iastore, 1) := by decide +kernel
theorem dX2_pencil_20 : decode cX2_pencil 20 = .ok (.aload_n 0, 1) := by decide +kernel
theorem dX2_pencil_21 : decode cX2_pencil 21 = .ok (.getfield 30, 3) := by decide +kernel
theorem dX2_pencil_24 : decode cX2_pencil 24 = .ok (.aload_n 0, 1) := by decide +kernel
theorem dX2_pencil_25 : decode cX2_pencil 25 = .ok (.getfield 40, 3) := by decide +kernel
theorem dX2_pencil_28 : decode cX2_pencil 28 = .ok (.iload_n 3, 1) := by decide +kernel
theorem dX2_pencil_29 : decode cX2_pencil 29 = .ok (.iastore, 1) := by decide +kernel
theorem dX2_pencil_30 : decode cX2_pencil 30 = .ok (.aload_n 0, 1) := by decide +kernel
theorem dX2_pencil_31 : decode cX2_pencil 31 = .ok (.getfield 33, 3) := by decide +kernel
theorem dX2_pencil_34 : decode cX2_pencil 34 = .ok (.aload_n 0, 1) := by decide +kernel
theorem dX2_pencil_35 : decode cX2_pencil 35 = .ok (.getfield 40, 3) := by decide +kernel
theorem dX2_pencil_38 : decode cX2_pencil 38 = .ok (.iload 4, 2) := by decide +kernel
theorem dX2_pencil_40 : decode cX2_pencil 40 = .ok (.iastore, 1) := by decide +kernel
theorem dX2_pencil_41 : decode cX2_pencil 41 = .ok (.return_, 1) := by decide +kernel
theorem dX2_confirm_0 : decode cX2_confirm 0 = .ok (.aload_n 0, 1) := by decide +kernel
theorem dX2_confirm_1 : decode cX2_confirm 1 = .ok (.dup, 1) := by decide +kernel
theorem dX2_confirm_2 : decode cX2_confirm 2 = .ok (.getfield 40, 3) := by decide +kernel
theorem dX2_confirm_5 : decode cX2_confirm 5 = .ok (.iconst 1, 1) := by decide +kernel
theorem dX2_confirm_6 : decode cX2_confirm 6 = .ok (.iadd, 1) := by decide +kernel
theorem dX2_confirm_7 : decode cX2_confirm 7 = .ok (.putfield 40, 3) := by decide +kernel
theorem dX2_confirm_10 : decode cX2_confirm 10 = .ok (.aload_n 0, 1) := by decide +kernel
theorem dX2_confirm_11 : decode cX2_confirm 11 = .ok (.getfield 40, 3) := by decide +kernel
theorem dX2_confirm_14 : decode cX2_confirm 14 = .ok (.iconst 1, 1) := by decide +kernel
theorem dX2_confirm_15 : decode cX2_confirm 15 = .ok (.isub, 1) := by decide +kernel
theorem dX2_confirm_16 : decode cX2_confirm 16 = .ok (.ireturn, 1) := by decide +kernel
theorem dX2_countedAsOf_0 : decode cX2_countedAsOf 0 = .ok (.iconst 0, 1) := by decide +kernel
theorem dX2_countedAsOf_1 : decode cX2_countedAsOf 1 = .ok (.iload_n 1, 1) := by decide +kernel
theorem dX2_countedAsOf_2 : decode cX2_countedAsOf 2 = .ok (.aload_n 0, 1) := by decide +kernel
theorem dX2_countedAsOf_3 : decode cX2_countedAsOf 3 = .ok (.getfield 40, 3) := by decide +kernel
theorem dX2_countedAsOf_6 : decode cX2_countedAsOf 6 = .ok (.iconst 1, 1) := by decide +kernel
theorem dX2_countedAsOf_7 : decode cX2_countedAsOf 7 = .ok (.isub, 1) := by decide +kernel
theorem dX2_countedAsOf_8 : decode cX2_countedAsOf 8 = .ok (.invokestatic 47, 3) := by decide +kernel
theorem dX2_countedAsOf_11 : decode cX2_countedAsOf 11 = .ok (.iconst 1, 1) := by decide +kernel
theorem dX2_countedAsOf_12 : decode cX2_countedAsOf 12 = .ok (.iadd, 1) := by decide +kernel
theorem dX2_countedAsOf_13 : decode cX2_countedAsOf 13 = .ok (.invokestatic 57, 3) := by decide +kernel
theorem dX2_countedAsOf_16 : decode cX2_countedAsOf 16 = .ok (.ireturn, 1) := by decide +kernel
theorem dX2_isBound_0 : decode cX2_isBound 0 = .ok (.aload_n 0, 1) := by decide +kernel
theorem dX2_isBound_1 : decode cX2_isBound 1 = .ok (.getfield 18, 3) := by decide +kernel
theorem dX2_isBound_4 : decode cX2_isBound 4 = .ok (.iload_n 1, 1) := by decide +kernel
theorem dX2_isBound_5 : decode cX2_isBound 5 = .ok (.iaload, 1) := by decide +kernel
theorem dX2_isBound_6 : decode cX2_isBound 6 = .ok (.iload_n 2, 1) := by decide +kernel
theorem dX2_isBound_7 : decode cX2_isBound 7 = .ok (.if_icmp .ge 7, 3) := by decide +kernel
theorem dX2_isBound_10 : decode cX2_isBound 10 = .ok (.iconst 1, 1) := by decide +kernel
theorem dX2_isBound_11 : decode cX2_isBound 11 = .ok (.goto 4, 3) := by decide +kernel
theorem dX2_isBound_14 : decode cX2_isBound 14 = .ok (.iconst 0, 1) := by decide +kernel
theorem dX2_isBound_15 : decode cX2_isBound 15 = .ok (.ireturn, 1) := by decide +kernel
theorem dX2_isInTerm_0 : decode cX2_isInTerm 0 = .ok (.aload_n 0, 1) := by decide +kernel
theorem dX2_isInTerm_1 : decode cX2_isInTerm 1 = .ok (.getfield 9, 3) := by decide +kernel
theorem dX2_isInTerm_4 : decode cX2_isInTerm 4 = .ok (.iload_n 1, 1) := by decide +kernel
theorem dX2_isInTerm_5 : decode cX2_isInTerm 5 = .ok (.iaload, 1) := by decide +kernel
theorem dX2_isInTerm_6 : decode cX2_isInTerm 6 = .ok (.iload_n 2, 1) := by decide +kernel
theorem dX2_isInTerm_7 : decode cX2_isInTerm 7 = .ok (.if_icmp .gt 17, 3) := by decide +kernel
theorem dX2_isInTerm_10 : decode cX2_isInTerm 10 = .ok (.iload_n 2, 1) := by decide +kernel
theorem dX2_isInTerm_11 : decode cX2_isInTerm 11 = .ok (.aload_n 0, 1) := by decide +kernel
theorem dX2_isInTerm_12 : decode cX2_isInTerm 12 = .ok (.getfield 15, 3) := by decide +kernel
theorem dX2_isInTerm_15 : decode cX2_isInTerm 15 = .ok (.iload_n 1, 1) := by decide +kernel
theorem dX2_isInTerm_16 : decode cX2_isInTerm 16 = .ok (.iaload, 1) := by decide +kernel
theorem dX2_isInTerm_17 : decode cX2_isInTerm 17 = .ok (.if_icmp .ge 7, 3) := by decide +kernel
theorem dX2_isInTerm_20 : decode cX2_isInTerm 20 = .ok (.iconst 1, 1) := by decide +kernel
theorem dX2_isInTerm_21 : decode cX2_isInTerm 21 = .ok (.goto 4, 3) := by decide +kernel
theorem dX2_isInTerm_24 : decode cX2_isInTerm 24 = .ok (.iconst 0, 1) := by decide +kernel
theorem dX2_isInTerm_25 : decode cX2_isInTerm 25 = .ok (.ireturn, 1) := by decide +kernel
set_option maxRecDepth 20000 in
theorem ggX2_isInForce_X2_isInTerm : GoodIn wsX2_isInForce wsX2_isInTerm := goodIn_r _ [6, 7, 8, 22, 23, 24, 25, 26, 27, 28, 29, 30, 31, 32] (by decide +kernel) (by decide +kernel)
set_option maxRecDepth 20000 in
theorem gX2_isInForce_X2_isInTerm : GoodIn wsX2_isInForce (wsV RX2 60 RX2 yX2_isInTerm wsX2_isInTerm) := goodIn_app (goodIn_of _ (by decide +kernel)) ggX2_isInForce_X2_isInTerm
set_option maxRecDepth 20000 in
theorem ggX2_isInForce_X2_valueOn : GoodIn wsX2_isInForce wsX2_valueOn := goodIn_r _ [12, 7, 13, 14, 15, 16, 17, 18, 19, 20, 21, 22, 23, 24, 25, 26, 27, 28, 29, 30, 31, 32] (by decide +kernel) (by decide +kernel)
set_option maxRecDepth 20000 in
theorem gX2_isInForce_X2_valueOn : GoodIn wsX2_isInForce (wsV RX2 64 RX2 yX2_valueOn wsX2_valueOn) := goodIn_app (goodIn_of _ (by decide +kernel)) ggX2_isInForce_X2_valueOn
theorem dX2_isInForce_0 : decode cX2_isInForce 0 = .ok (.aload_n 0, 1) := by decide +kernel
theorem dX2_isInForce_1 : decode cX2_isInForce 1 = .ok (.iload_n 1, 1) := by decide +kernel
theorem dX2_isInForce_2 : decode cX2_isInForce 2 = .ok (.iload_n 2, 1) := by decide +kernel
theorem dX2_isInForce_3 : decode cX2_isInForce 3 = .ok (.invokevirtual 60, 3) := by decide +kernel
theorem dX2_isInForce_6 : decode cX2_isInForce 6 = .ok (.ifCond .eq 22, 3) := by decide +kernel
theorem dX2_isInForce_9 : decode cX2_isInForce 9 = .ok (.aload_n 0, 1) := by decide +kernel
theorem dX2_isInForce_10 : decode cX2_isInForce 10 = .ok (.iload_n 1, 1) := by decide +kernel
theorem dX2_isInForce_11 : decode cX2_isInForce 11 = .ok (.iconst 3, 1) := by decide +kernel
theorem dX2_isInForce_12 : decode cX2_isInForce 12 = .ok (.iload_n 2, 1) := by decide +kernel
theorem dX2_isInForce_13 : decode cX2_isInForce 13 = .ok (.aload_n 0, 1) := by decide +kernel
theorem dX2_isInForce_14 : decode cX2_isInForce 14 = .ok (.getfield 40, 3) := by decide +kernel
theorem dX2_isInForce_17 : decode cX2_isInForce 17 = .ok (.invokevirtual 64, 3) := by decide +kernel
theorem dX2_isInForce_20 : decode cX2_isInForce 20 = .ok (.iconst 1, 1) := by decide +kernel
theorem dX2_isInForce_21 : decode cX2_isInForce 21 = .ok (.if_icmp .ne 7, 3) := by decide +kernel
theorem dX2_isInForce_24 : decode cX2_isInForce 24 = .ok (.iconst 1, 1) := by decide +kernel
theorem dX2_isInForce_25 : decode cX2_isInForce 25 = .ok (.goto 4, 3) := by decide +kernel
theorem dX2_isInForce_28 : decode cX2_isInForce 28 = .ok (.iconst 0, 1) := by decide +kernel
theorem dX2_isInForce_29 : decode cX2_isInForce 29 = .ok (.ireturn, 1) := by decide +kernel
set_option maxRecDepth 20000 in
theorem ggX2_valueOn_X4_isWithin : GoodIn wsX2_valueOn wsX4_isWithin := goodIn_r _ [10] (by decide +kernel) (by decide +kernel)
set_option maxRecDepth 20000 in
theorem gX2_valueOn_X4_isWithin_n68 : GoodIn wsX2_valueOn (wsX4_isWithin) := ggX2_valueOn_X4_isWithin
theorem dX2_valueOn_0 : decode cX2_valueOn 0 = .ok (.aload_n 0, 1) := by decide +kernel
theorem dX2_valueOn_1 : decode cX2_valueOn 1 = .ok (.getfield 9, 3) := by decide +kernel
theorem dX2_valueOn_4 : decode cX2_valueOn 4 = .ok (.iload_n 1, 1) := by decide +kernel
theorem dX2_valueOn_5 : decode cX2_valueOn 5 = .ok (.iaload, 1) := by decide +kernel
theorem dX2_valueOn_6 : decode cX2_valueOn 6 = .ok (.istore 5, 2) := by decide +kernel
theorem dX2_valueOn_8 : decode cX2_valueOn 8 = .ok (.aload_n 0, 1) := by decide +kernel
theorem dX2_valueOn_9 : decode cX2_valueOn 9 = .ok (.getfield 21, 3) := by decide +kernel
theorem dX2_valueOn_12 : decode cX2_valueOn 12 = .ok (.iload_n 1, 1) := by decide +kernel
theorem dX2_valueOn_13 : decode cX2_valueOn 13 = .ok (.iconst 4, 1) := by decide +kernel
theorem dX2_valueOn_14 : decode cX2_valueOn 14 = .ok (.imul, 1) := by decide +kernel
theorem dX2_valueOn_15 : decode cX2_valueOn 15 = .ok (.iload_n 2, 1) := by decide +kernel
theorem dX2_valueOn_16 : decode cX2_valueOn 16 = .ok (.iadd, 1) := by decide +kernel
theorem dX2_valueOn_17 : decode cX2_valueOn 17 = .ok (.iaload, 1) := by decide +kernel
theorem dX2_valueOn_18 : decode cX2_valueOn 18 = .ok (.istore 6, 2) := by decide +kernel
theorem dX2_valueOn_20 : decode cX2_valueOn 20 = .ok (.aload_n 0, 1) := by decide +kernel
theorem dX2_valueOn_21 : decode cX2_valueOn 21 = .ok (.getfield 18, 3) := by decide +kernel
theorem dX2_valueOn_24 : decode cX2_valueOn 24 = .ok (.iload_n 1, 1) := by decide +kernel
theorem dX2_valueOn_25 : decode cX2_valueOn 25 = .ok (.iaload, 1) := by decide +kernel
theorem dX2_valueOn_26 : decode cX2_valueOn 26 = .ok (.iconst 1, 1) := by decide +kernel
theorem dX2_valueOn_27 : decode cX2_valueOn 27 = .ok (.iadd, 1) := by decide +kernel
theorem dX2_valueOn_28 : decode cX2_valueOn 28 = .ok (.istore 7, 2) := by decide +kernel
theorem dX2_valueOn_30 : decode cX2_valueOn 30 = .ok (.iload 7, 2) := by decide +kernel
theorem dX2_valueOn_32 : decode cX2_valueOn 32 = .ok (.iload 4, 2) := by decide +kernel
theorem dX2_valueOn_34 : decode cX2_valueOn 34 = .ok (.if_icmp .ge 65, 3) := by decide +kernel
theorem dX2_valueOn_37 : decode cX2_valueOn 37 = .ok (.aload_n 0, 1) := by decide +kernel
theorem dX2_valueOn_38 : decode cX2_valueOn 38 = .ok (.getfield 24, 3) := by decide +kernel
theorem dX2_valueOn_41 : decode cX2_valueOn 41 = .ok (.iload 7, 2) := by decide +kernel
theorem dX2_valueOn_43 : decode cX2_valueOn 43 = .ok (.iaload, 1) := by decide +kernel
theorem dX2_valueOn_44 : decode cX2_valueOn 44 = .ok (.iload_n 1, 1) := by decide +kernel
theorem dX2_valueOn_45 : decode cX2_valueOn 45 = .ok (.if_icmp .ne 48, 3) := by decide +kernel
theorem dX2_valueOn_48 : decode cX2_valueOn 48 = .ok (.aload_n 0, 1) := by decide +kernel
theorem dX2_valueOn_49 : decode cX2_valueOn 49 = .ok (.getfield 30, 3) := by decide +kernel
theorem dX2_valueOn_52 : decode cX2_valueOn 52 = .ok (.iload 7, 2) := by decide +kernel
theorem dX2_valueOn_54 : decode cX2_valueOn 54 = .ok (.iaload, 1) := by decide +kernel
theorem dX2_valueOn_55 : decode cX2_valueOn 55 = .ok (.iload_n 2, 1) := by decide +kernel
theorem dX2_valueOn_56 : decode cX2_valueOn 56 = .ok (.if_icmp .ne 37, 3) := by decide +kernel
theorem dX2_valueOn_59 : decode cX2_valueOn 59 = .ok (.iload 5, 2) := by decide +kernel
theorem dX2_valueOn_61 : decode cX2_valueOn 61 = .ok (.aload_n 0, 1) := by decide +kernel
theorem dX2_valueOn_62 : decode cX2_valueOn 62 = .ok (.getfield 27, 3) := by decide +kernel
theorem dX2_valueOn_65 : decode cX2_valueOn 65 = .ok (.iload 7, 2) := by decide +kernel
theorem dX2_valueOn_67 : decode cX2_valueOn 67 = .ok (.iaload, 1) := by decide +kernel
theorem dX2_valueOn_68 : decode cX2_valueOn 68 = .ok (.iload_n 3, 1) := by decide +kernel
theorem dX2_valueOn_69 : decode cX2_valueOn 69 = .ok (.invokestatic 68, 3) := by decide +kernel
theorem dX2_valueOn_72 : decode cX2_valueOn 72 = .ok (.ifCond .eq 21, 3) := by decide +kernel
theorem dX2_valueOn_75 : decode cX2_valueOn 75 = .ok (.aload_n 0, 1) := by decide +kernel
theorem dX2_valueOn_76 : decode cX2_valueOn 76 = .ok (.getfield 27, 3) := by decide +kernel
theorem dX2_valueOn_79 : decode cX2_valueOn 79 = .ok (.iload 7, 2) := by decide +kernel
theorem dX2_valueOn_81 : decode cX2_valueOn 81 = .ok (.iaload, 1) := by decide +kernel
theorem dX2_valueOn_82 : decode cX2_valueOn 82 = .ok (.istore 5, 2) := by decide +kernel
theorem dX2_valueOn_84 : decode cX2_valueOn 84 = .ok (.aload_n 0, 1) := by decide +kernel
theorem dX2_valueOn_85 : decode cX2_valueOn 85 = .ok (.getfield 33, 3) := by decide +kernel
theorem dX2_valueOn_88 : decode cX2_valueOn 88 = .ok (.iload 7, 2) := by decide +kernel
theorem dX2_valueOn_90 : decode cX2_valueOn 90 = .ok (.iaload, 1) := by decide +kernel
theorem dX2_valueOn_91 : decode cX2_valueOn 91 = .ok (.istore 6, 2) := by decide +kernel
theorem dX2_valueOn_93 : decode cX2_valueOn 93 = .ok (.iinc 7 1, 3) := by decide +kernel
theorem dX2_valueOn_96 : decode cX2_valueOn 96 = .ok (.goto (-66), 3) := by decide +kernel
theorem dX2_valueOn_99 : decode cX2_valueOn 99 = .ok (.iload 6, 2) := by decide +kernel
theorem dX2_valueOn_101 : decode cX2_valueOn 101 = .ok (.ireturn, 1) := by decide +kernel
set_option maxRecDepth 20000 in
theorem ggX2_chargeOn_X2_valueOn : GoodIn wsX2_chargeOn wsX2_valueOn := goodIn_r _ [6, 7, 8, 9, 10, 11, 12, 13, 14, 15, 16, 31, 32, 33, 34, 35, 36, 37, 38, 39, 40, 41] (by decide +kernel) (by decide +kernel)
set_option maxRecDepth 20000 in
theorem gX2_chargeOn_X2_valueOn : GoodIn wsX2_chargeOn (wsV RX2 64 RX2 yX2_valueOn wsX2_valueOn) := goodIn_app (goodIn_of _ (by decide +kernel)) ggX2_chargeOn_X2_valueOn
set_option maxRecDepth 20000 in
theorem ggX2_chargeOn_X1_rateOf : GoodIn wsX2_chargeOn wsX1_rateOf := goodIn_r _ [20, 21, 22, 23, 24, 25, 18, 26, 27, 28, 29, 30, 42, 43, 44, 45, 46, 47] (by decide +kernel) (by decide +kernel)
set_option maxRecDepth 20000 in
theorem gX2_chargeOn_X1_rateOf_n72 : GoodIn wsX2_chargeOn (wsX1_rateOf) := ggX2_chargeOn_X1_rateOf
theorem dX2_chargeOn_0 : decode cX2_chargeOn 0 = .ok (.aload_n 0, 1) := by decide +kernel
theorem dX2_chargeOn_1 : decode cX2_chargeOn 1 = .ok (.iload_n 1, 1) := by decide +kernel
theorem dX2_chargeOn_2 : decode cX2_chargeOn 2 = .ok (.iconst 3, 1) := by decide +kernel
theorem dX2_chargeOn_3 : decode cX2_chargeOn 3 = .ok (.iload_n 2, 1) := by decide +kernel
theorem dX2_chargeOn_4 : decode cX2_chargeOn 4 = .ok (.iload_n 3, 1) := by decide +kernel
theorem dX2_chargeOn_5 : decode cX2_chargeOn 5 = .ok (.invokevirtual 64, 3) := by decide +kernel
theorem dX2_chargeOn_8 : decode cX2_chargeOn 8 = .ok (.ifCond .ne 5, 3) := by decide +kernel
theorem dX2_chargeOn_11 : decode cX2_chargeOn 11 = .ok (.iconst 0, 1) := by decide +kernel
theorem dX2_chargeOn_12 : decode cX2_chargeOn 12 = .ok (.ireturn, 1) := by decide +kernel
theorem dX2_chargeOn_13 : decode cX2_chargeOn 13 = .ok (.aload_n 0, 1) := by decide +kernel
theorem dX2_chargeOn_14 : decode cX2_chargeOn 14 = .ok (.iload_n 1, 1) := by decide +kernel
theorem dX2_chargeOn_15 : decode cX2_chargeOn 15 = .ok (.iconst 0, 1) := by decide +kernel
theorem dX2_chargeOn_16 : decode cX2_chargeOn 16 = .ok (.iload_n 2, 1) := by decide +kernel
theorem dX2_chargeOn_17 : decode cX2_chargeOn 17 = .ok (.iload_n 3, 1) := by decide +kernel
theorem dX2_chargeOn_18 : decode cX2_chargeOn 18 = .ok (.invokevirtual 64, 3) := by decide +kernel
theorem dX2_chargeOn_21 : decode cX2_chargeOn 21 = .ok (.istore 4, 2) := by decide +kernel
theorem dX2_chargeOn_23 : decode cX2_chargeOn 23 = .ok (.aload_n 0, 1) := by decide +kernel
theorem dX2_chargeOn_24 : decode cX2_chargeOn 24 = .ok (.iload_n 1, 1) := by decide +kernel
theorem dX2_chargeOn_25 : decode cX2_chargeOn 25 = .ok (.iconst 1, 1) := by decide +kernel
theorem dX2_chargeOn_26 : decode cX2_chargeOn 26 = .ok (.iload_n 2, 1) := by decide +kernel
theorem dX2_chargeOn_27 : decode cX2_chargeOn 27 = .ok (.iload_n 3, 1) := by decide +kernel
theorem dX2_chargeOn_28 : decode cX2_chargeOn 28 = .ok (.invokevirtual 64, 3) := by decide +kernel
theorem dX2_chargeOn_31 : decode cX2_chargeOn 31 = .ok (.istore 5, 2) := by decide +kernel
theorem dX2_chargeOn_33 : decode cX2_chargeOn 33 = .ok (.aload_n 0, 1) := by decide +kernel
theorem dX2_chargeOn_34 : decode cX2_chargeOn 34 = .ok (.iload_n 1, 1) := by decide +kernel
theorem dX2_chargeOn_35 : decode cX2_chargeOn 35 = .ok (.iconst 2, 1) := by decide +kernel
theorem dX2_chargeOn_36 : decode cX2_chargeOn 36 = .ok (.iload_n 2, 1) := by decide +kernel
theorem dX2_chargeOn_37 : decode cX2_chargeOn 37 = .ok (.iload_n 3, 1) := by decide +kernel
theorem dX2_chargeOn_38 : decode cX2_chargeOn 38 = .ok (.invokevirtual 64, 3) := by decide +kernel
theorem dX2_chargeOn_41 : decode cX2_chargeOn 41 = .ok (.aload_n 0, 1) := by decide +kernel
theorem dX2_chargeOn_42 : decode cX2_chargeOn 42 = .ok (.getfield 36, 3) := by decide +kernel
theorem dX2_chargeOn_45 : decode cX2_chargeOn 45 = .ok (.iload 4, 2) := by decide +kernel
theorem dX2_chargeOn_47 : decode cX2_chargeOn 47 = .ok (.iload 5, 2) := by decide +kernel
theorem dX2_chargeOn_49 : decode cX2_chargeOn 49 = .ok (.invokevirtual 72, 3) := by decide +kernel
theorem dX2_chargeOn_52 : decode cX2_chargeOn 52 = .ok (.imul, 1) := by decide +kernel
theorem dX2_chargeOn_53 : decode cX2_chargeOn 53 = .ok (.ireturn, 1) := by decide +kernel
set_option maxRecDepth 20000 in
theorem ggX2_premiumBefore_X2_isBound : GoodIn wsX2_premiumBefore wsX2_isBound := goodIn_r _ [11, 12, 48, 49, 50, 51, 52, 53, 54, 55, 56, 57, 58] (by decide +kernel) (by decide +kernel)
set_option maxRecDepth 20000 in
theorem gX2_premiumBefore_X2_isBound : GoodIn wsX2_premiumBefore (wsV RX2 77 RX2 yX2_isBound wsX2_isBound) := goodIn_app (goodIn_of _ (by decide +kernel)) ggX2_premiumBefore_X2_isBound
set_option maxRecDepth 20000 in
theorem ggX2_premiumBefore_X2_nextToldDay : GoodIn wsX2_premiumBefore wsX2_nextToldDay := goodIn_r _ [16, 1, 12, 17, 18, 2, 3, 4, 5, 48, 49, 50, 51, 52, 53, 54, 55, 56, 57, 58] (by decide +kernel) (by decide +kernel)
set_option maxRecDepth 20000 in
theorem gX2_premiumBefore_X2_nextToldDay : GoodIn wsX2_premiumBefore (wsV RX2 80 RX2 yX2_nextToldDay wsX2_nextToldDay) := goodIn_app (goodIn_of _ (by decide +kernel)) ggX2_premiumBefore_X2_nextToldDay
set_option maxRecDepth 20000 in
theorem ggX2_premiumBefore_X2_chargeOn : GoodIn wsX2_premiumBefore wsX2_chargeOn := goodIn_r _ [22, 23, 24, 25, 26, 10, 27, 6, 28, 12, 17, 29, 18, 30, 31, 32, 33, 34, 35, 36, 37, 38, 39, 40, 41, 42, 43, 44, 45, 46, 47, 48, 49, 50, 51, 52, 53, 54, 55, 56, 57, 58, 59, 60, 61, 62, 63, 64] (by decide +kernel) (by decide +kernel)
set_option maxRecDepth 20000 in
theorem gX2_premiumBefore_X2_chargeOn : GoodIn wsX2_premiumBefore (wsV RX2 84 RX2 yX2_chargeOn wsX2_chargeOn) := goodIn_app (goodIn_of _ (by decide +kernel)) ggX2_premiumBefore_X2_chargeOn
theorem dX2_premiumBefore_0 : decode cX2_premiumBefore 0 = .ok (.aload_n 0, 1) := by decide +kernel
theorem dX2_premiumBefore_1 : decode cX2_premiumBefore 1 = .ok (.iload_n 1, 1) := by decide +kernel
theorem dX2_premiumBefore_2 : decode cX2_premiumBefore 2 = .ok (.iload_n 3, 1) := by decide +kernel
theorem dX2_premiumBefore_3 : decode cX2_premiumBefore 3 = .ok (.invokevirtual 77, 3) := by decide +kernel
theorem dX2_premiumBefore_6 : decode cX2_premiumBefore 6 = .ok (.ifCond .ne 5, 3) := by decide +kernel
theorem dX2_premiumBefore_9 : decode cX2_premiumBefore 9 = .ok (.iconst 0, 1) := by decide +kernel
theorem dX2_premiumBefore_10 : decode cX2_premiumBefore 10 = .ok (.ireturn, 1) := by decide +kernel
theorem dX2_premiumBefore_11 : decode cX2_premiumBefore 11 = .ok (.iload_n 2, 1) := by decide +kernel
theorem dX2_premiumBefore_12 : decode cX2_premiumBefore 12 = .ok (.aload_n 0, 1) := by decide +kernel
theorem dX2_premiumBefore_13 : decode cX2_premiumBefore 13 = .ok (.getfield 15, 3) := by decide +kernel
theorem dX2_premiumBefore_16 : decode cX2_premiumBefore 16 = .ok (.iload_n 1, 1) := by decide +kernel
theorem dX2_premiumBefore_17 : decode cX2_premiumBefore 17 = .ok (.iaload, 1) := by decide +kernel
theorem dX2_premiumBefore_18 : decode cX2_premiumBefore 18 = .ok (.invokestatic 47, 3) := by decide +kernel
theorem dX2_premiumBefore_21 : decode cX2_premiumBefore 21 = .ok (.istore 4, 2) := by decide +kernel
theorem dX2_premiumBefore_23 : decode cX2_premiumBefore 23 = .ok (.aload_n 0, 1) := by decide +kernel
theorem dX2_premiumBefore_24 : decode cX2_premiumBefore 24 = .ok (.getfield 9, 3) := by decide +kernel
theorem dX2_premiumBefore_27 : decode cX2_premiumBefore 27 = .ok (.iload_n 1, 1) := by decide +kernel
theorem dX2_premiumBefore_28 : decode cX2_premiumBefore 28 = .ok (.iaload, 1) := by decide +kernel
theorem dX2_premiumBefore_29 : decode cX2_premiumBefore 29 = .ok (.istore 5, 2) := by decide +kernel
theorem dX2_premiumBefore_31 : decode cX2_premiumBefore 31 = .ok (.iconst 0, 1) := by decide +kernel
theorem dX2_premiumBefore_32 : decode cX2_premiumBefore 32 = .ok (.istore 6, 2) := by decide +kernel
theorem dX2_premiumBefore_34 : decode cX2_premiumBefore 34 = .ok (.iconst 0, 1) := by decide +kernel
theorem dX2_premiumBefore_35 : decode cX2_premiumBefore 35 = .ok (.istore 7, 2) := by decide +kernel
theorem dX2_premiumBefore_37 : decode cX2_premiumBefore 37 = .ok (.iload 7, 2) := by decide +kernel
theorem dX2_premiumBefore_39 : decode cX2_premiumBefore 39 = .ok (.iload_n 3, 1) := by decide +kernel
theorem dX2_premiumBefore_40 : decode cX2_premiumBefore 40 = .ok (.if_icmp .ge 54, 3) := by decide +kernel
theorem dX2_premiumBefore_43 : decode cX2_premiumBefore 43 = .ok (.iload 5, 2) := by decide +kernel
theorem dX2_premiumBefore_45 : decode cX2_premiumBefore 45 = .ok (.iload 4, 2) := by decide +kernel
theorem dX2_premiumBefore_47 : decode cX2_premiumBefore 47 = .ok (.if_icmp .ge 47, 3) := by decide +kernel
theorem dX2_premiumBefore_50 : decode cX2_premiumBefore 50 = .ok (.aload_n 0, 1) := by decide +kernel
theorem dX2_premiumBefore_51 : decode cX2_premiumBefore 51 = .ok (.iload_n 1, 1) := by decide +kernel
theorem dX2_premiumBefore_52 : decode cX2_premiumBefore 52 = .ok (.iload 5, 2) := by decide +kernel
theorem dX2_premiumBefore_54 : decode cX2_premiumBefore 54 = .ok (.iload_n 3, 1) := by decide +kernel
theorem dX2_premiumBefore_55 : decode cX2_premiumBefore 55 = .ok (.invokevirtual 80, 3) := by decide +kernel
theorem dX2_premiumBefore_58 : decode cX2_premiumBefore 58 = .ok (.iload 4, 2) := by decide +kernel
theorem dX2_premiumBefore_60 : decode cX2_premiumBefore 60 = .ok (.invokestatic 47, 3) := by decide +kernel
theorem dX2_premiumBefore_63 : decode cX2_premiumBefore 63 = .ok (.istore 8, 2) := by decide +kernel
theorem dX2_premiumBefore_65 : decode cX2_premiumBefore 65 = .ok (.iload 6, 2) := by decide +kernel
theorem dX2_premiumBefore_67 : decode cX2_premiumBefore 67 = .ok (.iload 8, 2) := by decide +kernel
theorem dX2_premiumBefore_69 : decode cX2_premiumBefore 69 = .ok (.iload 5, 2) := by decide +kernel
theorem dX2_premiumBefore_71 : decode cX2_premiumBefore 71 = .ok (.isub, 1) := by decide +kernel
theorem dX2_premiumBefore_72 : decode cX2_premiumBefore 72 = .ok (.aload_n 0, 1) := by decide +kernel
theorem dX2_premiumBefore_73 : decode cX2_premiumBefore 73 = .ok (.iload_n 1, 1) := by decide +kernel
theorem dX2_premiumBefore_74 : decode cX2_premiumBefore 74 = .ok (.iload 5, 2) := by decide +kernel
theorem dX2_premiumBefore_76 : decode cX2_premiumBefore 76 = .ok (.iload_n 3, 1) := by decide +kernel
theorem dX2_premiumBefore_77 : decode cX2_premiumBefore 77 = .ok (.invokevirtual 84, 3) := by decide +kernel
theorem dX2_premiumBefore_80 : decode cX2_premiumBefore 80 = .ok (.imul, 1) := by decide +kernel
theorem dX2_premiumBefore_81 : decode cX2_premiumBefore 81 = .ok (.iadd, 1) := by decide +kernel
theorem dX2_premiumBefore_82 : decode cX2_premiumBefore 82 = .ok (.istore 6, 2) := by decide +kernel
theorem dX2_premiumBefore_84 : decode cX2_premiumBefore 84 = .ok (.iload 8, 2) := by decide +kernel
theorem dX2_premiumBefore_86 : decode cX2_premiumBefore 86 = .ok (.istore 5, 2) := by decide +kernel
