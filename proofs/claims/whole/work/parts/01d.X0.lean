abbrev vwCl : List vw_C := [(RX0, TX0, 3), (RX1, TX1, 6), (RX2, TX2, 10), (RX3, TX3, 12), (RX4, TX4, 5), (RX5, TX5, 31)]

theorem dX0_init_0 : decode cX0_init 0 = .ok (.aload_n 0, 1) := by decide +kernel
theorem dX0_init_1 : decode cX0_init 1 = .ok (.invokespecial 3, 3) := by decide +kernel
theorem dX0_init_4 : decode cX0_init 4 = .ok (.aload_n 0, 1) := by decide +kernel
theorem dX0_init_5 : decode cX0_init 5 = .ok (.sipush 270, 3) := by decide +kernel
theorem dX0_init_8 : decode cX0_init 8 = .ok (.newarray .int, 2) := by decide +kernel
theorem dX0_init_10 : decode cX0_init 10 = .ok (.putfield 9, 3) := by decide +kernel
theorem dX0_init_13 : decode cX0_init 13 = .ok (.aload_n 0, 1) := by decide +kernel
theorem dX0_init_14 : decode cX0_init 14 = .ok (.bipush 7, 2) := by decide +kernel
theorem dX0_init_16 : decode cX0_init 16 = .ok (.newarray .int, 2) := by decide +kernel
theorem dX0_init_18 : decode cX0_init 18 = .ok (.putfield 15, 3) := by decide +kernel
theorem dX0_init_21 : decode cX0_init 21 = .ok (.return_, 1) := by decide +kernel
theorem dX0_hasRoomFor_0 : decode cX0_hasRoomFor 0 = .ok (.aload_n 0, 1) := by decide +kernel
theorem dX0_hasRoomFor_1 : decode cX0_hasRoomFor 1 = .ok (.getfield 18, 3) := by decide +kernel
theorem dX0_hasRoomFor_4 : decode cX0_hasRoomFor 4 = .ok (.iload_n 1, 1) := by decide +kernel
theorem dX0_hasRoomFor_5 : decode cX0_hasRoomFor 5 = .ok (.invokestatic 22, 3) := by decide +kernel
theorem dX0_hasRoomFor_8 : decode cX0_hasRoomFor 8 = .ok (.iadd, 1) := by decide +kernel
theorem dX0_hasRoomFor_9 : decode cX0_hasRoomFor 9 = .ok (.iload_n 2, 1) := by decide +kernel
theorem dX0_hasRoomFor_10 : decode cX0_hasRoomFor 10 = .ok (.invokestatic 22, 3) := by decide +kernel
theorem dX0_hasRoomFor_13 : decode cX0_hasRoomFor 13 = .ok (.iadd, 1) := by decide +kernel
theorem dX0_hasRoomFor_14 : decode cX0_hasRoomFor 14 = .ok (.iload_n 3, 1) := by decide +kernel
theorem dX0_hasRoomFor_15 : decode cX0_hasRoomFor 15 = .ok (.invokestatic 22, 3) := by decide +kernel
theorem dX0_hasRoomFor_18 : decode cX0_hasRoomFor 18 = .ok (.iadd, 1) := by decide +kernel
theorem dX0_hasRoomFor_19 : decode cX0_hasRoomFor 19 = .ok (.bipush 90, 2) := by decide +kernel
theorem dX0_hasRoomFor_21 : decode cX0_hasRoomFor 21 = .ok (.if_icmp .gt 7, 3) := by decide +kernel
theorem dX0_hasRoomFor_24 : decode cX0_hasRoomFor 24 = .ok (.iconst 1, 1) := by decide +kernel
theorem dX0_hasRoomFor_25 : decode cX0_hasRoomFor 25 = .ok (.goto 4, 3) := by decide +kernel
theorem dX0_hasRoomFor_28 : decode cX0_hasRoomFor 28 = .ok (.iconst 0, 1) := by decide +kernel
theorem dX0_hasRoomFor_29 : decode cX0_hasRoomFor 29 = .ok (.ireturn, 1) := by decide +kernel
theorem dX0_needed_0 : decode cX0_needed 0 = .ok (.iload_n 0, 1) := by decide +kernel
theorem dX0_needed_1 : decode cX0_needed 1 = .ok (.ifCond .ne 7, 3) := by decide +kernel
theorem dX0_needed_4 : decode cX0_needed 4 = .ok (.iconst 0, 1) := by decide +kernel
theorem dX0_needed_5 : decode cX0_needed 5 = .ok (.goto 4, 3) := by decide +kernel
theorem dX0_needed_8 : decode cX0_needed 8 = .ok (.iconst 1, 1) := by decide +kernel
theorem dX0_needed_9 : decode cX0_needed 9 = .ok (.ireturn, 1) := by decide +kernel
theorem dX0_post_0 : decode cX0_post 0 = .ok (.iload_n 1, 1) := by decide +kernel
theorem dX0_post_1 : decode cX0_post 1 = .ok (.ifCond .le 13, 3) := by decide +kernel
theorem dX0_post_4 : decode cX0_post 4 = .ok (.aload_n 0, 1) := by decide +kernel
theorem dX0_post_5 : decode cX0_post 5 = .ok (.iload_n 1, 1) := by decide +kernel
theorem dX0_post_6 : decode cX0_post 6 = .ok (.iload_n 2, 1) := by decide +kernel
theorem dX0_post_7 : decode cX0_post 7 = .ok (.iload_n 3, 1) := by decide +kernel
theorem dX0_post_8 : decode cX0_post 8 = .ok (.invokevirtual 26, 3) := by decide +kernel
theorem dX0_post_11 : decode cX0_post 11 = .ok (.goto 15, 3) := by decide +kernel
theorem dX0_post_14 : decode cX0_post 14 = .ok (.iload_n 1, 1) := by decide +kernel
theorem dX0_post_15 : decode cX0_post 15 = .ok (.ifCond .ge 11, 3) := by decide +kernel
theorem dX0_post_18 : decode cX0_post 18 = .ok (.aload_n 0, 1) := by decide +kernel
theorem dX0_post_19 : decode cX0_post 19 = .ok (.iload_n 1, 1) := by decide +kernel
theorem dX0_post_20 : decode cX0_post 20 = .ok (.ineg, 1) := by decide +kernel
theorem dX0_post_21 : decode cX0_post 21 = .ok (.iload_n 3, 1) := by decide +kernel
theorem dX0_post_22 : decode cX0_post 22 = .ok (.iload_n 2, 1) := by decide +kernel
theorem dX0_post_23 : decode cX0_post 23 = .ok (.invokevirtual 26, 3) := by decide +kernel
theorem dX0_post_26 : decode cX0_post 26 = .ok (.return_, 1) := by decide +kernel
theorem dX0_enter_0 : decode cX0_enter 0 = .ok (.aload_n 0, 1) := by decide +kernel
theorem dX0_enter_1 : decode cX0_enter 1 = .ok (.getfield 18, 3) := by decide +kernel
theorem dX0_enter_4 : decode cX0_enter 4 = .ok (.iconst 3, 1) := by decide +kernel
theorem dX0_enter_5 : decode cX0_enter 5 = .ok (.imul, 1) := by decide +kernel
theorem dX0_enter_6 : decode cX0_enter 6 = .ok (.istore 4, 2) := by decide +kernel
theorem dX0_enter_8 : decode cX0_enter 8 = .ok (.aload_n 0, 1) := by decide +kernel
theorem dX0_enter_9 : decode cX0_enter 9 = .ok (.getfield 9, 3) := by decide +kernel
theorem dX0_enter_12 : decode cX0_enter 12 = .ok (.iload 4, 2) := by decide +kernel
theorem dX0_enter_14 : decode cX0_enter 14 = .ok (.iload_n 2, 1) := by decide +kernel
theorem dX0_enter_15 : decode cX0_enter 15 = .ok (.iastore, 1) := by decide +kernel
theorem dX0_enter_16 : decode cX0_enter 16 = .ok (.aload_n 0, 1) := by decide +kernel
theorem dX0_enter_17 : decode cX0_enter 17 = .ok (.getfield 9, 3) := by decide +kernel
theorem dX0_enter_20 : decode cX0_enter 20 = .ok (.iload 4, 2) := by decide +kernel
theorem dX0_enter_22 : decode cX0_enter 22 = .ok (.iconst 1, 1) := by decide +kernel
theorem dX0_enter_23 : decode cX0_enter 23 = .ok (.iadd, 1) := by decide +kernel
theorem dX0_enter_24 : decode cX0_enter 24 = .ok (.iload_n 3, 1) := by decide +kernel
theorem dX0_enter_25 : decode cX0_enter 25 = .ok (.iastore, 1) := by decide +kernel
theorem dX0_enter_26 : decode cX0_enter 26 = .ok (.aload_n 0, 1) := by decide +kernel
theorem dX0_enter_27 : decode cX0_enter 27 = .ok (.getfield 9, 3) := by decide +kernel
theorem dX0_enter_30 : decode cX0_enter 30 = .ok (.iload 4, 2) := by decide +kernel
theorem dX0_enter_32 : decode cX0_enter 32 = .ok (.iconst 2, 1) := by decide +kernel
theorem dX0_enter_33 : decode cX0_enter 33 = .ok (.iadd, 1) := by decide +kernel
theorem dX0_enter_34 : decode cX0_enter 34 = .ok (.iload_n 1, 1) := by decide +kernel
theorem dX0_enter_35 : decode cX0_enter 35 = .ok (.iastore, 1) := by decide +kernel
theorem dX0_enter_36 : decode cX0_enter 36 = .ok (.aload_n 0, 1) := by decide +kernel
theorem dX0_enter_37 : decode cX0_enter 37 = .ok (.dup, 1) := by decide +kernel
theorem dX0_enter_38 : decode cX0_enter 38 = .ok (.getfield 18, 3) := by decide +kernel
theorem dX0_enter_41 : decode cX0_enter 41 = .ok (.iconst 1, 1) := by decide +kernel
theorem dX0_enter_42 : decode cX0_enter 42 = .ok (.iadd, 1) := by decide +kernel
theorem dX0_enter_43 : decode cX0_enter 43 = .ok (.putfield 18, 3) := by decide +kernel
theorem dX0_enter_46 : decode cX0_enter 46 = .ok (.aload_n 0, 1) := by decide +kernel
theorem dX0_enter_47 : decode cX0_enter 47 = .ok (.getfield 15, 3) := by decide +kernel
theorem dX0_enter_50 : decode cX0_enter 50 = .ok (.iload_n 2, 1) := by decide +kernel
theorem dX0_enter_51 : decode cX0_enter 51 = .ok (.dup2, 1) := by decide +kernel
theorem dX0_enter_52 : decode cX0_enter 52 = .ok (.iaload, 1) := by decide +kernel
theorem dX0_enter_53 : decode cX0_enter 53 = .ok (.iload_n 1, 1) := by decide +kernel
theorem dX0_enter_54 : decode cX0_enter 54 = .ok (.isub, 1) := by decide +kernel
theorem dX0_enter_55 : decode cX0_enter 55 = .ok (.iastore, 1) := by decide +kernel
theorem dX0_enter_56 : decode cX0_enter 56 = .ok (.aload_n 0, 1) := by decide +kernel
theorem dX0_enter_57 : decode cX0_enter 57 = .ok (.getfield 15, 3) := by decide +kernel
theorem dX0_enter_60 : decode cX0_enter 60 = .ok (.iload_n 3, 1) := by decide +kernel
theorem dX0_enter_61 : decode cX0_enter 61 = .ok (.dup2, 1) := by decide +kernel
theorem dX0_enter_62 : decode cX0_enter 62 = .ok (.iaload, 1) := by decide +kernel
theorem dX0_enter_63 : decode cX0_enter 63 = .ok (.iload_n 1, 1) := by decide +kernel
theorem dX0_enter_64 : decode cX0_enter 64 = .ok (.iadd, 1) := by decide +kernel
theorem dX0_enter_65 : decode cX0_enter 65 = .ok (.iastore, 1) := by decide +kernel
theorem dX0_enter_66 : decode cX0_enter 66 = .ok (.return_, 1) := by decide +kernel
