theorem dX2_init_0 : decode cX2_init 0 = .ok (.aload_n 0, 1) := by decide +kernel
theorem dX2_init_1 : decode cX2_init 1 = .ok (.invokespecial 3, 3) := by decide +kernel
theorem dX2_init_4 : decode cX2_init 4 = .ok (.aload_n 0, 1) := by decide +kernel
theorem dX2_init_5 : decode cX2_init 5 = .ok (.bipush 6, 2) := by decide +kernel
theorem dX2_init_7 : decode cX2_init 7 = .ok (.newarray .int, 2) := by decide +kernel
theorem dX2_init_9 : decode cX2_init 9 = .ok (.putfield 9, 3) := by decide +kernel
theorem dX2_init_12 : decode cX2_init 12 = .ok (.aload_n 0, 1) := by decide +kernel
theorem dX2_init_13 : decode cX2_init 13 = .ok (.bipush 6, 2) := by decide +kernel
theorem dX2_init_15 : decode cX2_init 15 = .ok (.newarray .int, 2) := by decide +kernel
theorem dX2_init_17 : decode cX2_init 17 = .ok (.putfield 15, 3) := by decide +kernel
theorem dX2_init_20 : decode cX2_init 20 = .ok (.aload_n 0, 1) := by decide +kernel
theorem dX2_init_21 : decode cX2_init 21 = .ok (.bipush 6, 2) := by decide +kernel
theorem dX2_init_23 : decode cX2_init 23 = .ok (.newarray .int, 2) := by decide +kernel
theorem dX2_init_25 : decode cX2_init 25 = .ok (.putfield 18, 3) := by decide +kernel
theorem dX2_init_28 : decode cX2_init 28 = .ok (.aload_n 0, 1) := by decide +kernel
theorem dX2_init_29 : decode cX2_init 29 = .ok (.bipush 24, 2) := by decide +kernel
theorem dX2_init_31 : decode cX2_init 31 = .ok (.newarray .int, 2) := by decide +kernel
theorem dX2_init_33 : decode cX2_init 33 = .ok (.putfield 21, 3) := by decide +kernel
theorem dX2_init_36 : decode cX2_init 36 = .ok (.aload_n 0, 1) := by decide +kernel
theorem dX2_init_37 : decode cX2_init 37 = .ok (.bipush 40, 2) := by decide +kernel
theorem dX2_init_39 : decode cX2_init 39 = .ok (.newarray .int, 2) := by decide +kernel
theorem dX2_init_41 : decode cX2_init 41 = .ok (.putfield 24, 3) := by decide +kernel
theorem dX2_init_44 : decode cX2_init 44 = .ok (.aload_n 0, 1) := by decide +kernel
theorem dX2_init_45 : decode cX2_init 45 = .ok (.bipush 40, 2) := by decide +kernel
theorem dX2_init_47 : decode cX2_init 47 = .ok (.newarray .int, 2) := by decide +kernel
theorem dX2_init_49 : decode cX2_init 49 = .ok (.putfield 27, 3) := by decide +kernel
theorem dX2_init_52 : decode cX2_init 52 = .ok (.aload_n 0, 1) := by decide +kernel
theorem dX2_init_53 : decode cX2_init 53 = .ok (.bipush 40, 2) := by decide +kernel
theorem dX2_init_55 : decode cX2_init 55 = .ok (.newarray .int, 2) := by decide +kernel
theorem dX2_init_57 : decode cX2_init 57 = .ok (.putfield 30, 3) := by decide +kernel
theorem dX2_init_60 : decode cX2_init 60 = .ok (.aload_n 0, 1) := by decide +kernel
theorem dX2_init_61 : decode cX2_init 61 = .ok (.bipush 40, 2) := by decide +kernel
theorem dX2_init_63 : decode cX2_init 63 = .ok (.newarray .int, 2) := by decide +kernel
theorem dX2_init_65 : decode cX2_init 65 = .ok (.putfield 33, 3) := by decide +kernel
theorem dX2_init_68 : decode cX2_init 68 = .ok (.return_, 1) := by decide +kernel
theorem dX2_isFull_0 : decode cX2_isFull 0 = .ok (.aload_n 0, 1) := by decide +kernel
theorem dX2_isFull_1 : decode cX2_isFull 1 = .ok (.getfield 36, 3) := by decide +kernel
theorem dX2_isFull_4 : decode cX2_isFull 4 = .ok (.bipush 40, 2) := by decide +kernel
theorem dX2_isFull_6 : decode cX2_isFull 6 = .ok (.if_icmp .ne 7, 3) := by decide +kernel
theorem dX2_isFull_9 : decode cX2_isFull 9 = .ok (.iconst 1, 1) := by decide +kernel
theorem dX2_isFull_10 : decode cX2_isFull 10 = .ok (.goto 4, 3) := by decide +kernel
theorem dX2_isFull_13 : decode cX2_isFull 13 = .ok (.iconst 0, 1) := by decide +kernel
theorem dX2_isFull_14 : decode cX2_isFull 14 = .ok (.ireturn, 1) := by decide +kernel
theorem dX2_pencilBind_0 : decode cX2_pencilBind 0 = .ok (.aload_n 0, 1) := by decide +kernel
theorem dX2_pencilBind_1 : decode cX2_pencilBind 1 = .ok (.getfield 9, 3) := by decide +kernel
theorem dX2_pencilBind_4 : decode cX2_pencilBind 4 = .ok (.aload_n 0, 1) := by decide +kernel
theorem dX2_pencilBind_5 : decode cX2_pencilBind 5 = .ok (.getfield 40, 3) := by decide +kernel
theorem dX2_pencilBind_8 : decode cX2_pencilBind 8 = .ok (.iload_n 1, 1) := by decide +kernel
theorem dX2_pencilBind_9 : decode cX2_pencilBind 9 = .ok (.iastore, 1) := by decide +kernel
theorem dX2_pencilBind_10 : decode cX2_pencilBind 10 = .ok (.aload_n 0, 1) := by decide +kernel
theorem dX2_pencilBind_11 : decode cX2_pencilBind 11 = .ok (.getfield 15, 3) := by decide +kernel
theorem dX2_pencilBind_14 : decode cX2_pencilBind 14 = .ok (.aload_n 0, 1) := by decide +kernel
theorem dX2_pencilBind_15 : decode cX2_pencilBind 15 = .ok (.getfield 40, 3) := by decide +kernel
theorem dX2_pencilBind_18 : decode cX2_pencilBind 18 = .ok (.iload_n 1, 1) := by decide +kernel
theorem dX2_pencilBind_19 : decode cX2_pencilBind 19 = .ok (.iload_n 2, 1) := by decide +kernel
theorem dX2_pencilBind_20 : decode cX2_pencilBind 20 = .ok (.iadd, 1) := by decide +kernel
theorem dX2_pencilBind_21 : decode cX2_pencilBind 21 = .ok (.sipush 1000, 3) := by decide +kernel
theorem dX2_pencilBind_24 : decode cX2_pencilBind 24 = .ok (.invokestatic 43, 3) := by decide +kernel
theorem dX2_pencilBind_27 : decode cX2_pencilBind 27 = .ok (.iastore, 1) := by decide +kernel
theorem dX2_pencilBind_28 : decode cX2_pencilBind 28 = .ok (.aload_n 0, 1) := by decide +kernel
theorem dX2_pencilBind_29 : decode cX2_pencilBind 29 = .ok (.getfield 18, 3) := by decide +kernel
theorem dX2_pencilBind_32 : decode cX2_pencilBind 32 = .ok (.aload_n 0, 1) := by decide +kernel
theorem dX2_pencilBind_33 : decode cX2_pencilBind 33 = .ok (.getfield 40, 3) := by decide +kernel
theorem dX2_pencilBind_36 : decode cX2_pencilBind 36 = .ok (.aload_n 0, 1) := by decide +kernel
theorem dX2_pencilBind_37 : decode cX2_pencilBind 37 = .ok (.getfield 36, 3) := by decide +kernel
theorem dX2_pencilBind_40 : decode cX2_pencilBind 40 = .ok (.iastore, 1) := by decide +kernel
theorem dX2_pencilBind_41 : decode cX2_pencilBind 41 = .ok (.aload_n 0, 1) := by decide +kernel
theorem dX2_pencilBind_42 : decode cX2_pencilBind 42 = .ok (.getfield 40, 3) := by decide +kernel
theorem dX2_pencilBind_45 : decode cX2_pencilBind 45 = .ok (.iconst 4, 1) := by decide +kernel
theorem dX2_pencilBind_46 : decode cX2_pencilBind 46 = .ok (.imul, 1) := by decide +kernel
theorem dX2_pencilBind_47 : decode cX2_pencilBind 47 = .ok (.istore 6, 2) := by decide +kernel
theorem dX2_pencilBind_49 : decode cX2_pencilBind 49 = .ok (.aload_n 0, 1) := by decide +kernel
theorem dX2_pencilBind_50 : decode cX2_pencilBind 50 = .ok (.getfield 21, 3) := by decide +kernel
theorem dX2_pencilBind_53 : decode cX2_pencilBind 53 = .ok (.iload 6, 2) := by decide +kernel
theorem dX2_pencilBind_55 : decode cX2_pencilBind 55 = .ok (.iconst 0, 1) := by decide +kernel
theorem dX2_pencilBind_56 : decode cX2_pencilBind 56 = .ok (.iadd, 1) := by decide +kernel
theorem dX2_pencilBind_57 : decode cX2_pencilBind 57 = .ok (.iload_n 3, 1) := by decide +kernel
theorem dX2_pencilBind_58 : decode cX2_pencilBind 58 = .ok (.iastore, 1) := by decide +kernel
theorem dX2_pencilBind_59 : decode cX2_pencilBind 59 = .ok (.aload_n 0, 1) := by decide +kernel
theorem dX2_pencilBind_60 : decode cX2_pencilBind 60 = .ok (.getfield 21, 3) := by decide +kernel
theorem dX2_pencilBind_63 : decode cX2_pencilBind 63 = .ok (.iload 6, 2) := by decide +kernel
theorem dX2_pencilBind_65 : decode cX2_pencilBind 65 = .ok (.iconst 1, 1) := by decide +kernel
theorem dX2_pencilBind_66 : decode cX2_pencilBind 66 = .ok (.iadd, 1) := by decide +kernel
theorem dX2_pencilBind_67 : decode cX2_pencilBind 67 = .ok (.iload 4, 2) := by decide +kernel
theorem dX2_pencilBind_69 : decode cX2_pencilBind 69 = .ok (.iastore, 1) := by decide +kernel
theorem dX2_pencilBind_70 : decode cX2_pencilBind 70 = .ok (.aload_n 0, 1) := by decide +kernel
theorem dX2_pencilBind_71 : decode cX2_pencilBind 71 = .ok (.getfield 21, 3) := by decide +kernel
theorem dX2_pencilBind_74 : decode cX2_pencilBind 74 = .ok (.iload 6, 2) := by decide +kernel
theorem dX2_pencilBind_76 : decode cX2_pencilBind 76 = .ok (.iconst 2, 1) := by decide +kernel
theorem dX2_pencilBind_77 : decode cX2_pencilBind 77 = .ok (.iadd, 1) := by decide +kernel
theorem dX2_pencilBind_78 : decode cX2_pencilBind 78 = .ok (.iload 5, 2) := by decide +kernel
theorem dX2_pencilBind_80 : decode cX2_pencilBind 80 = .ok (.iastore, 1) := by decide +kernel
theorem dX2_pencilBind_81 : decode cX2_pencilBind 81 = .ok (.aload_n 0, 1) := by decide +kernel
theorem dX2_pencilBind_82 : decode cX2_pencilBind 82 = .ok (.getfield 21, 3) := by decide +kernel
theorem dX2_pencilBind_85 : decode cX2_pencilBind 85 = .ok (.iload 6, 2) := by decide +kernel
theorem dX2_pencilBind_87 : decode cX2_pencilBind 87 = .ok (.iconst 3, 1) := by decide +kernel
theorem dX2_pencilBind_88 : decode cX2_pencilBind 88 = .ok (.iadd, 1) := by decide +kernel
theorem dX2_pencilBind_89 : decode cX2_pencilBind 89 = .ok (.iconst 1, 1) := by decide +kernel
theorem dX2_pencilBind_90 : decode cX2_pencilBind 90 = .ok (.iastore, 1) := by decide +kernel
theorem dX2_pencilBind_91 : decode cX2_pencilBind 91 = .ok (.aload_n 0, 1) := by decide +kernel
theorem dX2_pencilBind_92 : decode cX2_pencilBind 92 = .ok (.aload_n 0, 1) := by decide +kernel
theorem dX2_pencilBind_93 : decode cX2_pencilBind 93 = .ok (.getfield 40, 3) := by decide +kernel
theorem dX2_pencilBind_96 : decode cX2_pencilBind 96 = .ok (.iload_n 1, 1) := by decide +kernel
theorem dX2_pencilBind_97 : decode cX2_pencilBind 97 = .ok (.iconst (-1), 1) := by decide +kernel
theorem dX2_pencilBind_98 : decode cX2_pencilBind 98 = .ok (.iconst 0, 1) := by decide +kernel
theorem dX2_pencilBind_99 : decode cX2_pencilBind 99 = .ok (.invokevirtual 49, 3) := by decide +kernel
theorem dX2_pencilBind_102 : decode cX2_pencilBind 102 = .ok (.return_, 1) := by decide +kernel
theorem dX2_confirmBind_0 : decode cX2_confirmBind 0 = .ok (.aload_n 0, 1) := by decide +kernel
theorem dX2_confirmBind_1 : decode cX2_confirmBind 1 = .ok (.dup, 1) := by decide +kernel
theorem dX2_confirmBind_2 : decode cX2_confirmBind 2 = .ok (.getfield 40, 3) := by decide +kernel
theorem dX2_confirmBind_5 : decode cX2_confirmBind 5 = .ok (.iconst 1, 1) := by decide +kernel
theorem dX2_confirmBind_6 : decode cX2_confirmBind 6 = .ok (.iadd, 1) := by decide +kernel
theorem dX2_confirmBind_7 : decode cX2_confirmBind 7 = .ok (.putfield 40, 3) := by decide +kernel
theorem dX2_confirmBind_10 : decode cX2_confirmBind 10 = .ok (.aload_n 0, 1) := by decide +kernel
theorem dX2_confirmBind_11 : decode cX2_confirmBind 11 = .ok (.dup, 1) := by decide +kernel
theorem dX2_confirmBind_12 : decode cX2_confirmBind 12 = .ok (.getfield 36, 3) := by decide +kernel
theorem dX2_confirmBind_15 : decode cX2_confirmBind 15 = .ok (.iconst 1, 1) := by decide +kernel
theorem dX2_confirmBind_16 : decode cX2_confirmBind 16 = .ok (.iadd, 1) := by decide +kernel
theorem dX2_confirmBind_17 : decode cX2_confirmBind 17 = .ok (.putfield 36, 3) := by decide +kernel
theorem dX2_confirmBind_20 : decode cX2_confirmBind 20 = .ok (.return_, 1) := by decide +kernel
theorem dX2_pencil_0 : decode cX2_pencil 0 = .ok (.aload_n 0, 1) := by decide +kernel
theorem dX2_pencil_1 : decode cX2_pencil 1 = .ok (.getfield 24, 3) := by decide +kernel
theorem dX2_pencil_4 : decode cX2_pencil 4 = .ok (.aload_n 0, 1) := by decide +kernel
theorem dX2_pencil_5 : decode cX2_pencil 5 = .ok (.getfield 36, 3) := by decide +kernel
theorem dX2_pencil_8 : decode cX2_pencil 8 = .ok (.iload_n 1, 1) := by decide +kernel
theorem dX2_pencil_9 : decode cX2_pencil 9 = .ok (.iastore, 1) := by decide +kernel
theorem dX2_pencil_10 : decode cX2_pencil 10 = .ok (.aload_n 0, 1) := by decide +kernel
theorem dX2_pencil_11 : decode cX2_pencil 11 = .ok (.getfield 27, 3) := by decide +kernel
theorem dX2_pencil_14 : decode cX2_pencil 14 = .ok (.aload_n 0, 1) := by decide +kernel
theorem dX2_pencil_15 : decode cX2_pencil 15 = .ok (.getfield 36, 3) := by decide +kernel
theorem dX2_pencil_18 : decode cX2_pencil 18 = .ok (.iload_n 2, 1) := by decide +kernel
theorem dX2_pencil_19 : decode cX2_pencil 19 = .ok (.iastore, 1) := by decide +kernel
theorem dX2_pencil_20 : decode cX2_pencil 20 = .ok (.aload_n 0, 1) := by decide +kernel
theorem dX2_pencil_21 : decode cX2_pencil 21 = .ok (.getfield 30, 3) := by decide +kernel
theorem dX2_pencil_24 : decode cX2_pencil 24 = .ok (.aload_n 0, 1) := by decide +kernel
theorem dX2_pencil_25 : decode cX2_pencil 25 = .ok (.getfield 36, 3) := by decide +kernel
theorem dX2_pencil_28 : decode cX2_pencil 28 = .ok (.iload_n 3, 1) := by decide +kernel
theorem dX2_pencil_29 : decode cX2_pencil 29 = .ok (.iastore, 1) := by decide +kernel
theorem dX2_pencil_30 : decode cX2_pencil 30 = .ok (.aload_n 0, 1) := by decide +kernel
theorem dX2_pencil_31 : decode cX2_pencil 31 = .ok (.getfield 33, 3) := by decide +kernel
theorem dX2_pencil_34 : decode cX2_pencil 34 = .ok (.aload_n 0, 1) := by decide +kernel
theorem dX2_pencil_35 : decode cX2_pencil 35 = .ok (.getfield 36, 3) := by decide +kernel
theorem dX2_pencil_38 : decode cX2_pencil 38 = .ok (.iload 4, 2) := by decide +kernel
theorem dX2_pencil_40 : decode cX2_pencil 40 = .ok (.iastore, 1) := by decide +kernel
theorem dX2_pencil_41 : decode cX2_pencil 41 = .ok (.return_, 1) := by decide +kernel
theorem dX2_confirm_0 : decode cX2_confirm 0 = .ok (.aload_n 0, 1) := by decide +kernel
theorem dX2_confirm_1 : decode cX2_confirm 1 = .ok (.dup, 1) := by decide +kernel
theorem dX2_confirm_2 : decode cX2_confirm 2 = .ok (.getfield 36, 3) := by decide +kernel
theorem dX2_confirm_5 : decode cX2_confirm 5 = .ok (.iconst 1, 1) := by decide +kernel
theorem dX2_confirm_6 : decode cX2_confirm 6 = .ok (.iadd, 1) := by decide +kernel
theorem dX2_confirm_7 : decode cX2_confirm 7 = .ok (.putfield 36, 3) := by decide +kernel
theorem dX2_confirm_10 : decode cX2_confirm 10 = .ok (.aload_n 0, 1) := by decide +kernel
theorem dX2_confirm_11 : decode cX2_confirm 11 = .ok (.getfield 36, 3) := by decide +kernel
theorem dX2_confirm_14 : decode cX2_confirm 14 = .ok (.iconst 1, 1) := by decide +kernel
theorem dX2_confirm_15 : decode cX2_confirm 15 = .ok (.isub, 1) := by decide +kernel
theorem dX2_confirm_16 : decode cX2_confirm 16 = .ok (.ireturn, 1) := by decide +kernel
theorem dX2_countedAsOf_0 : decode cX2_countedAsOf 0 = .ok (.iconst 0, 1) := by decide +kernel
theorem dX2_countedAsOf_1 : decode cX2_countedAsOf 1 = .ok (.iload_n 1, 1) := by decide +kernel
theorem dX2_countedAsOf_2 : decode cX2_countedAsOf 2 = .ok (.aload_n 0, 1) := by decide +kernel
theorem dX2_countedAsOf_3 : decode cX2_countedAsOf 3 = .ok (.getfield 36, 3) := by decide +kernel
theorem dX2_countedAsOf_6 : decode cX2_countedAsOf 6 = .ok (.iconst 1, 1) := by decide +kernel
theorem dX2_countedAsOf_7 : decode cX2_countedAsOf 7 = .ok (.isub, 1) := by decide +kernel
theorem dX2_countedAsOf_8 : decode cX2_countedAsOf 8 = .ok (.invokestatic 43, 3) := by decide +kernel
theorem dX2_countedAsOf_11 : decode cX2_countedAsOf 11 = .ok (.iconst 1, 1) := by decide +kernel
theorem dX2_countedAsOf_12 : decode cX2_countedAsOf 12 = .ok (.iadd, 1) := by decide +kernel
theorem dX2_countedAsOf_13 : decode cX2_countedAsOf 13 = .ok (.invokestatic 53, 3) := by decide +kernel
theorem dX2_countedAsOf_16 : decode cX2_countedAsOf 16 = .ok (.ireturn, 1) := by decide +kernel
theorem dX2_isBound_0 : decode cX2_isBound 0 = .ok (.aload_n 0, 1) := by decide +kernel
theorem dX2_isBound_1 : decode cX2_isBound 1 = .ok (.getfield 18, 3) := by decide +kernel
theorem dX2_isBound_4 : decode cX2_isBound 4 = .ok (.iload_n 1, 1) := by decide +kernel
theorem dX2_isBound_5 : decode cX2_isBound 5 = .ok (.iaload, 1) := by decide +kernel
theorem dX2_isBound_6 : decode cX2_isBound 6 = .ok (.iload_n 2, 1) := by decide +kernel
theorem dX2_isBound_7 : decode cX2_isBound 7 = .ok (.if_icmp .ge 7, 3) := by decide +kernel
theorem dX2_isBound_10 : decode cX2_isBound 10 = .ok (.iconst 1, 1) := by decide +kernel
theorem dX2_isBound_11 : decode cX2_isBound 11 = .ok (.goto 4, 3) := by decide +kernel
theorem dX2_isBound_14 : decode cX2_isBound 14 = .ok (.iconst 0, 1) := by decide +kernel
theorem dX2_isBound_15 : decode cX2_isBound 15 = .ok (.ireturn, 1) := by decide +kernel
theorem dX2_isInTerm_0 : decode cX2_isInTerm 0 = .ok (.aload_n 0, 1) := by decide +kernel
theorem dX2_isInTerm_1 : decode cX2_isInTerm 1 = .ok (.getfield 9, 3) := by decide +kernel
theorem dX2_isInTerm_4 : decode cX2_isInTerm 4 = .ok (.iload_n 1, 1) := by decide +kernel
theorem dX2_isInTerm_5 : decode cX2_isInTerm 5 = .ok (.iaload, 1) := by decide +kernel
theorem dX2_isInTerm_6 : decode cX2_isInTerm 6 = .ok (.iload_n 2, 1) := by decide +kernel
theorem dX2_isInTerm_7 : decode cX2_isInTerm 7 = .ok (.if_icmp .gt 17, 3) := by decide +kernel
theorem dX2_isInTerm_10 : decode cX2_isInTerm 10 = .ok (.iload_n 2, 1) := by decide +kernel
theorem dX2_isInTerm_11 : decode cX2_isInTerm 11 = .ok (.aload_n 0, 1) := by decide +kernel
theorem dX2_isInTerm_12 : decode cX2_isInTerm 12 = .ok (.getfield 15, 3) := by decide +kernel
theorem dX2_isInTerm_15 : decode cX2_isInTerm 15 = .ok (.iload_n 1, 1) := by decide +kernel
theorem dX2_isInTerm_16 : decode cX2_isInTerm 16 = .ok (.iaload, 1) := by decide +kernel
theorem dX2_isInTerm_17 : decode cX2_isInTerm 17 = .ok (.if_icmp .ge 7, 3) := by decide +kernel
theorem dX2_isInTerm_20 : decode cX2_isInTerm 20 = .ok (.iconst 1, 1) := by decide +kernel
theorem dX2_isInTerm_21 : decode cX2_isInTerm 21 = .ok (.goto 4, 3) := by decide +kernel
theorem dX2_isInTerm_24 : decode cX2_isInTerm 24 = .ok (.iconst 0, 1) := by decide +kernel
theorem dX2_isInTerm_25 : decode cX2_isInTerm 25 = .ok (.ireturn, 1) := by decide +kernel
theorem dX2_isInForce_0 : decode cX2_isInForce 0 = .ok (.aload_n 0, 1) := by decide +kernel
theorem dX2_isInForce_1 : decode cX2_isInForce 1 = .ok (.iload_n 1, 1) := by decide +kernel
theorem dX2_isInForce_2 : decode cX2_isInForce 2 = .ok (.iload_n 2, 1) := by decide +kernel
theorem dX2_isInForce_3 : decode cX2_isInForce 3 = .ok (.invokevirtual 56, 3) := by decide +kernel
theorem dX2_isInForce_6 : decode cX2_isInForce 6 = .ok (.ifCond .eq 22, 3) := by decide +kernel
theorem dX2_isInForce_9 : decode cX2_isInForce 9 = .ok (.aload_n 0, 1) := by decide +kernel
theorem dX2_isInForce_10 : decode cX2_isInForce 10 = .ok (.iload_n 1, 1) := by decide +kernel
theorem dX2_isInForce_11 : decode cX2_isInForce 11 = .ok (.iconst 3, 1) := by decide +kernel
theorem dX2_isInForce_12 : decode cX2_isInForce 12 = .ok (.iload_n 2, 1) := by decide +kernel
theorem dX2_isInForce_13 : decode cX2_isInForce 13 = .ok (.aload_n 0, 1) := by decide +kernel
theorem dX2_isInForce_14 : decode cX2_isInForce 14 = .ok (.getfield 36, 3) := by decide +kernel
theorem dX2_isInForce_17 : decode cX2_isInForce 17 = .ok (.invokevirtual 60, 3) := by decide +kernel
theorem dX2_isInForce_20 : decode cX2_isInForce 20 = .ok (.iconst 1, 1) := by decide +kernel
theorem dX2_isInForce_21 : decode cX2_isInForce 21 = .ok (.if_icmp .ne 7, 3) := by decide +kernel
theorem dX2_isInForce_24 : decode cX2_isInForce 24 = .ok (.iconst 1, 1) := by decide +kernel
theorem dX2_isInForce_25 : decode cX2_isInForce 25 = .ok (.goto 4, 3) := by decide +kernel
theorem dX2_isInForce_28 : decode cX2_isInForce 28 = .ok (.iconst 0, 1) := by decide +kernel
theorem dX2_isInForce_29 : decode cX2_isInForce 29 = .ok (.ireturn, 1) := by decide +kernel
theorem dX2_valueOn_0 : decode cX2_valueOn 0 = .ok (.aload_n 0, 1) := by decide +kernel
theorem dX2_valueOn_1 : decode cX2_valueOn 1 = .ok (.getfield 9, 3) := by decide +kernel
theorem dX2_valueOn_4 : decode cX2_valueOn 4 = .ok (.iload_n 1, 1) := by decide +kernel
theorem dX2_valueOn_5 : decode cX2_valueOn 5 = .ok (.iaload, 1) := by decide +kernel
theorem dX2_valueOn_6 : decode cX2_valueOn 6 = .ok (.istore 5, 2) := by decide +kernel
theorem dX2_valueOn_8 : decode cX2_valueOn 8 = .ok (.aload_n 0, 1) := by decide +kernel
theorem dX2_valueOn_9 : decode cX2_valueOn 9 = .ok (.getfield 21, 3) := by decide +kernel
theorem dX2_valueOn_12 : decode cX2_valueOn 12 = .ok (.iload_n 1, 1) := by decide +kernel
theorem dX2_valueOn_13 : decode cX2_valueOn 13 = .ok (.iconst 4, 1) := by decide +kernel
theorem dX2_valueOn_14 : decode cX2_valueOn 14 = .ok (.imul, 1) := by decide +kernel
theorem dX2_valueOn_15 : decode cX2_valueOn 15 = .ok (.iload_n 2, 1) := by decide +kernel
theorem dX2_valueOn_16 : decode cX2_valueOn 16 = .ok (.iadd, 1) := by decide +kernel
theorem dX2_valueOn_17 : decode cX2_valueOn 17 = .ok (.iaload, 1) := by decide +kernel
theorem dX2_valueOn_18 : decode cX2_valueOn 18 = .ok (.istore 6, 2) := by decide +kernel
theorem dX2_valueOn_20 : decode cX2_valueOn 20 = .ok (.aload_n 0, 1) := by decide +kernel
theorem dX2_valueOn_21 : decode cX2_valueOn 21 = .ok (.getfield 18, 3) := by decide +kernel
theorem dX2_valueOn_24 : decode cX2_valueOn 24 = .ok (.iload_n 1, 1) := by decide +kernel
theorem dX2_valueOn_25 : decode cX2_valueOn 25 = .ok (.iaload, 1) := by decide +kernel
theorem dX2_valueOn_26 : decode cX2_valueOn 26 = .ok (.iconst 1, 1) := by decide +kernel
theorem dX2_valueOn_27 : decode cX2_valueOn 27 = .ok (.iadd, 1) := by decide +kernel
theorem dX2_valueOn_28 : decode cX2_valueOn 28 = .ok (.istore 7, 2) := by decide +kernel
theorem dX2_valueOn_30 : decode cX2_valueOn 30 = .ok (.iload 7, 2) := by decide +kernel
theorem dX2_valueOn_32 : decode cX2_valueOn 32 = .ok (.iload 4, 2) := by decide +kernel
theorem dX2_valueOn_34 : decode cX2_valueOn 34 = .ok (.if_icmp .ge 65, 3) := by decide +kernel
theorem dX2_valueOn_37 : decode cX2_valueOn 37 = .ok (.aload_n 0, 1) := by decide +kernel
theorem dX2_valueOn_38 : decode cX2_valueOn 38 = .ok (.getfield 24, 3) := by decide +kernel
theorem dX2_valueOn_41 : decode cX2_valueOn 41 = .ok (.iload 7, 2) := by decide +kernel
theorem dX2_valueOn_43 : decode cX2_valueOn 43 = .ok (.iaload, 1) := by decide +kernel
theorem dX2_valueOn_44 : decode cX2_valueOn 44 = .ok (.iload_n 1, 1) := by decide +kernel
theorem dX2_valueOn_45 : decode cX2_valueOn 45 = .ok (.if_icmp .ne 48, 3) := by decide +kernel
theorem dX2_valueOn_48 : decode cX2_valueOn 48 = .ok (.aload_n 0, 1) := by decide +kernel
theorem dX2_valueOn_49 : decode cX2_valueOn 49 = .ok (.getfield 30, 3) := by decide +kernel
theorem dX2_valueOn_52 : decode cX2_valueOn 52 = .ok (.iload 7, 2) := by decide +kernel
theorem dX2_valueOn_54 : decode cX2_valueOn 54 = .ok (.iaload, 1) := by decide +kernel
theorem dX2_valueOn_55 : decode cX2_valueOn 55 = .ok (.iload_n 2, 1) := by decide +kernel
theorem dX2_valueOn_56 : decode cX2_valueOn 56 = .ok (.if_icmp .ne 37, 3) := by decide +kernel
theorem dX2_valueOn_59 : decode cX2_valueOn 59 = .ok (.iload 5, 2) := by decide +kernel
theorem dX2_valueOn_61 : decode cX2_valueOn 61 = .ok (.aload_n 0, 1) := by decide +kernel
theorem dX2_valueOn_62 : decode cX2_valueOn 62 = .ok (.getfield 27, 3) := by decide +kernel
theorem dX2_valueOn_65 : decode cX2_valueOn 65 = .ok (.iload 7, 2) := by decide +kernel
theorem dX2_valueOn_67 : decode cX2_valueOn 67 = .ok (.iaload, 1) := by decide +kernel
theorem dX2_valueOn_68 : decode cX2_valueOn 68 = .ok (.iload_n 3, 1) := by decide +kernel
theorem dX2_valueOn_69 : decode cX2_valueOn 69 = .ok (.invokestatic 64, 3) := by decide +kernel
theorem dX2_valueOn_72 : decode cX2_valueOn 72 = .ok (.ifCond .eq 21, 3) := by decide +kernel
theorem dX2_valueOn_75 : decode cX2_valueOn 75 = .ok (.aload_n 0, 1) := by decide +kernel
theorem dX2_valueOn_76 : decode cX2_valueOn 76 = .ok (.getfield 27, 3) := by decide +kernel
theorem dX2_valueOn_79 : decode cX2_valueOn 79 = .ok (.iload 7, 2) := by decide +kernel
theorem dX2_valueOn_81 : decode cX2_valueOn 81 = .ok (.iaload, 1) := by decide +kernel
theorem dX2_valueOn_82 : decode cX2_valueOn 82 = .ok (.istore 5, 2) := by decide +kernel
theorem dX2_valueOn_84 : decode cX2_valueOn 84 = .ok (.aload_n 0, 1) := by decide +kernel
theorem dX2_valueOn_85 : decode cX2_valueOn 85 = .ok (.getfield 33, 3) := by decide +kernel
theorem dX2_valueOn_88 : decode cX2_valueOn 88 = .ok (.iload 7, 2) := by decide +kernel
theorem dX2_valueOn_90 : decode cX2_valueOn 90 = .ok (.iaload, 1) := by decide +kernel
theorem dX2_valueOn_91 : decode cX2_valueOn 91 = .ok (.istore 6, 2) := by decide +kernel
theorem dX2_valueOn_93 : decode cX2_valueOn 93 = .ok (.iinc 7 1, 3) := by decide +kernel
theorem dX2_valueOn_96 : decode cX2_valueOn 96 = .ok (.goto (-66), 3) := by decide +kernel
theorem dX2_valueOn_99 : decode cX2_valueOn 99 = .ok (.iload 6, 2) := by decide +kernel
theorem dX2_valueOn_101 : decode cX2_valueOn 101 = .ok (.ireturn, 1) := by decide +kernel
theorem dX2_chargeOn_0 : decode cX2_chargeOn 0 = .ok (.aload_n 0, 1) := by decide +kernel
theorem dX2_chargeOn_1 : decode cX2_chargeOn 1 = .ok (.iload_n 2, 1) := by decide +kernel
theorem dX2_chargeOn_2 : decode cX2_chargeOn 2 = .ok (.iconst 3, 1) := by decide +kernel
theorem dX2_chargeOn_3 : decode cX2_chargeOn 3 = .ok (.iload_n 3, 1) := by decide +kernel
theorem dX2_chargeOn_4 : decode cX2_chargeOn 4 = .ok (.iload 4, 2) := by decide +kernel
theorem dX2_chargeOn_6 : decode cX2_chargeOn 6 = .ok (.invokevirtual 60, 3) := by decide +kernel
theorem dX2_chargeOn_9 : decode cX2_chargeOn 9 = .ok (.ifCond .ne 5, 3) := by decide +kernel
theorem dX2_chargeOn_12 : decode cX2_chargeOn 12 = .ok (.iconst 0, 1) := by decide +kernel
theorem dX2_chargeOn_13 : decode cX2_chargeOn 13 = .ok (.ireturn, 1) := by decide +kernel
theorem dX2_chargeOn_14 : decode cX2_chargeOn 14 = .ok (.aload_n 0, 1) := by decide +kernel
theorem dX2_chargeOn_15 : decode cX2_chargeOn 15 = .ok (.iload_n 2, 1) := by decide +kernel
theorem dX2_chargeOn_16 : decode cX2_chargeOn 16 = .ok (.iconst 0, 1) := by decide +kernel
theorem dX2_chargeOn_17 : decode cX2_chargeOn 17 = .ok (.iload_n 3, 1) := by decide +kernel
theorem dX2_chargeOn_18 : decode cX2_chargeOn 18 = .ok (.iload 4, 2) := by decide +kernel
theorem dX2_chargeOn_20 : decode cX2_chargeOn 20 = .ok (.invokevirtual 60, 3) := by decide +kernel
theorem dX2_chargeOn_23 : decode cX2_chargeOn 23 = .ok (.istore 5, 2) := by decide +kernel
theorem dX2_chargeOn_25 : decode cX2_chargeOn 25 = .ok (.aload_n 0, 1) := by decide +kernel
theorem dX2_chargeOn_26 : decode cX2_chargeOn 26 = .ok (.iload_n 2, 1) := by decide +kernel
theorem dX2_chargeOn_27 : decode cX2_chargeOn 27 = .ok (.iconst 1, 1) := by decide +kernel
theorem dX2_chargeOn_28 : decode cX2_chargeOn 28 = .ok (.iload_n 3, 1) := by decide +kernel
theorem dX2_chargeOn_29 : decode cX2_chargeOn 29 = .ok (.iload 4, 2) := by decide +kernel
theorem dX2_chargeOn_31 : decode cX2_chargeOn 31 = .ok (.invokevirtual 60, 3) := by decide +kernel
theorem dX2_chargeOn_34 : decode cX2_chargeOn 34 = .ok (.istore 6, 2) := by decide +kernel
theorem dX2_chargeOn_36 : decode cX2_chargeOn 36 = .ok (.aload_n 0, 1) := by decide +kernel
theorem dX2_chargeOn_37 : decode cX2_chargeOn 37 = .ok (.iload_n 2, 1) := by decide +kernel
theorem dX2_chargeOn_38 : decode cX2_chargeOn 38 = .ok (.iconst 2, 1) := by decide +kernel
theorem dX2_chargeOn_39 : decode cX2_chargeOn 39 = .ok (.iload_n 3, 1) := by decide +kernel
theorem dX2_chargeOn_40 : decode cX2_chargeOn 40 = .ok (.iload 4, 2) := by decide +kernel
theorem dX2_chargeOn_42 : decode cX2_chargeOn 42 = .ok (.invokevirtual 60, 3) := by decide +kernel
theorem dX2_chargeOn_45 : decode cX2_chargeOn 45 = .ok (.aload_n 1, 1) := by decide +kernel
theorem dX2_chargeOn_46 : decode cX2_chargeOn 46 = .ok (.iload 5, 2) := by decide +kernel
theorem dX2_chargeOn_48 : decode cX2_chargeOn 48 = .ok (.iload 6, 2) := by decide +kernel
theorem dX2_chargeOn_50 : decode cX2_chargeOn 50 = .ok (.invokevirtual 68, 3) := by decide +kernel
theorem dX2_chargeOn_53 : decode cX2_chargeOn 53 = .ok (.imul, 1) := by decide +kernel
theorem dX2_chargeOn_54 : decode cX2_chargeOn 54 = .ok (.ireturn, 1) := by decide +kernel
theorem dX2_premiumBefore_0 : decode cX2_premiumBefore 0 = .ok (.aload_n 0, 1) := by decide +kernel
theorem dX2_premiumBefore_1 : decode cX2_premiumBefore 1 = .ok (.iload_n 2, 1) := by decide +kernel
theorem dX2_premiumBefore_2 : decode cX2_premiumBefore 2 = .ok (.iload 4, 2) := by decide +kernel
theorem dX2_premiumBefore_4 : decode cX2_premiumBefore 4 = .ok (.invokevirtual 73, 3) := by decide +kernel
theorem dX2_premiumBefore_7 : decode cX2_premiumBefore 7 = .ok (.ifCond .ne 5, 3) := by decide +kernel
theorem dX2_premiumBefore_10 : decode cX2_premiumBefore 10 = .ok (.iconst 0, 1) := by decide +kernel
theorem dX2_premiumBefore_11 : decode cX2_premiumBefore 11 = .ok (.ireturn, 1) := by decide +kernel
theorem dX2_premiumBefore_12 : decode cX2_premiumBefore 12 = .ok (.iload_n 3, 1) := by decide +kernel
theorem dX2_premiumBefore_13 : decode cX2_premiumBefore 13 = .ok (.aload_n 0, 1) := by decide +kernel
theorem dX2_premiumBefore_14 : decode cX2_premiumBefore 14 = .ok (.getfield 15, 3) := by decide +kernel
theorem dX2_premiumBefore_17 : decode cX2_premiumBefore 17 = .ok (.iload_n 2, 1) := by decide +kernel
theorem dX2_premiumBefore_18 : decode cX2_premiumBefore 18 = .ok (.iaload, 1) := by decide +kernel
theorem dX2_premiumBefore_19 : decode cX2_premiumBefore 19 = .ok (.invokestatic 43, 3) := by decide +kernel
theorem dX2_premiumBefore_22 : decode cX2_premiumBefore 22 = .ok (.istore 5, 2) := by decide +kernel
theorem dX2_premiumBefore_24 : decode cX2_premiumBefore 24 = .ok (.aload_n 0, 1) := by decide +kernel
theorem dX2_premiumBefore_25 : decode cX2_premiumBefore 25 = .ok (.getfield 9, 3) := by decide +kernel
theorem dX2_premiumBefore_28 : decode cX2_premiumBefore 28 = .ok (.iload_n 2, 1) := by decide +kernel
theorem dX2_premiumBefore_29 : decode cX2_premiumBefore 29 = .ok (.iaload, 1) := by decide +kernel
theorem dX2_premiumBefore_30 : decode cX2_premiumBefore 30 = .ok (.istore 6, 2) := by decide +kernel
theorem dX2_premiumBefore_32 : decode cX2_premiumBefore 32 = .ok (.iconst 0, 1) := by decide +kernel
theorem dX2_premiumBefore_33 : decode cX2_premiumBefore 33 = .ok (.istore 7, 2) := by decide +kernel
theorem dX2_premiumBefore_35 : decode cX2_premiumBefore 35 = .ok (.iconst 0, 1) := by decide +kernel
theorem dX2_premiumBefore_36 : decode cX2_premiumBefore 36 = .ok (.istore 8, 2) := by decide +kernel
theorem dX2_premiumBefore_38 : decode cX2_premiumBefore 38 = .ok (.iload 8, 2) := by decide +kernel
theorem dX2_premiumBefore_40 : decode cX2_premiumBefore 40 = .ok (.iload 4, 2) := by decide +kernel
theorem dX2_premiumBefore_42 : decode cX2_premiumBefore 42 = .ok (.if_icmp .ge 57, 3) := by decide +kernel
theorem dX2_premiumBefore_45 : decode cX2_premiumBefore 45 = .ok (.iload 6, 2) := by decide +kernel
theorem dX2_premiumBefore_47 : decode cX2_premiumBefore 47 = .ok (.iload 5, 2) := by decide +kernel
theorem dX2_premiumBefore_49 : decode cX2_premiumBefore 49 = .ok (.if_icmp .ge 50, 3) := by decide +kernel
theorem dX2_premiumBefore_52 : decode cX2_premiumBefore 52 = .ok (.aload_n 0, 1) := by decide +kernel
theorem dX2_premiumBefore_53 : decode cX2_premiumBefore 53 = .ok (.iload_n 2, 1) := by decide +kernel
theorem dX2_premiumBefore_54 : decode cX2_premiumBefore 54 = .ok (.iload 6, 2) := by decide +kernel
theorem dX2_premiumBefore_56 : decode cX2_premiumBefore 56 = .ok (.iload 4, 2) := by decide +kernel
theorem dX2_premiumBefore_58 : decode cX2_premiumBefore 58 = .ok (.invokevirtual 76, 3) := by decide +kernel
theorem dX2_premiumBefore_61 : decode cX2_premiumBefore 61 = .ok (.iload 5, 2) := by decide +kernel
theorem dX2_premiumBefore_63 : decode cX2_premiumBefore 63 = .ok (.invokestatic 43, 3) := by decide +kernel
theorem dX2_premiumBefore_66 : decode cX2_premiumBefore 66 = .ok (.istore 9, 2) := by decide +kernel
theorem dX2_premiumBefore_68 : decode cX2_premiumBefore 68 = .ok (.iload 7, 2) := by decide +kernel
theorem dX2_premiumBefore_70 : decode cX2_premiumBefore 70 = .ok (.iload 9, 2) := by decide +kernel
theorem dX2_premiumBefore_72 : decode cX2_premiumBefore 72 = .ok (.iload 6, 2) := by decide +kernel
theorem dX2_premiumBefore_74 : decode cX2_premiumBefore 74 = .ok (.isub, 1) := by decide +kernel
theorem dX2_premiumBefore_75 : decode cX2_premiumBefore 75 = .ok (.aload_n 0, 1) := by decide +kernel
theorem dX2_premiumBefore_76 : decode cX2_premiumBefore 76 = .ok (.aload_n 1, 1) := by decide +kernel
theorem dX2_premiumBefore_77 : decode cX2_premiumBefore 77 = .ok (.iload_n 2, 1) := by decide +kernel
theorem dX2_premiumBefore_78 : decode cX2_premiumBefore 78 = .ok (.iload 6, 2) := by decide +kernel
theorem dX2_premiumBefore_80 : decode cX2_premiumBefore 80 = .ok (.iload 4, 2) := by decide +kernel
theorem dX2_premiumBefore_82 : decode cX2_premiumBefore 82 = .ok (.invokevirtual 80, 3) := by decide +kernel
theorem dX2_premiumBefore_85 : decode cX2_premiumBefore 85 = .ok (.imul, 1) := by decide +kernel
theorem dX2_premiumBefore_86 : decode cX2_premiumBefore 86 = .ok (.iadd, 1) := by decide +kernel
theorem dX2_premiumBefore_87 : decode cX2_premiumBefore 87 = .ok (.istore 7, 2) := by decide +kernel
theorem dX2_premiumBefore_89 : decode cX2_premiumBefore 89 = .ok (.iload 9, 2) := by decide +kernel
theorem dX2_premiumBefore_91 : decode cX2_premiumBefore 91 = .ok (.istore 6, 2) := by decide +kernel
theorem dX2_premiumBefore_93 : decode cX2_premiumBefore 93 = .ok (.iinc 8 1, 3) := by decide +kernel
theorem dX2_premiumBefore_96 : decode cX2_premiumBefore 96 = .ok (.goto (-58), 3) := by decide +kernel
theorem dX2_premiumBefore_99 : decode cX2_premiumBefore 99 = .ok (.iload 7, 2) := by decide +kernel
theorem dX2_premiumBefore_101 : decode cX2_premiumBefore 101 = .ok (.sipush 1000, 3) := by decide +kernel
theorem dX2_premiumBefore_104 : decode cX2_premiumBefore 104 = .ok (.idiv, 1) := by decide +kernel
theorem dX2_premiumBefore_105 : decode cX2_premiumBefore 105 = .ok (.ireturn, 1) := by decide +kernel
theorem dX2_nextToldDay_0 : decode cX2_nextToldDay 0 = .ok (.aload_n 0, 1) := by decide +kernel
theorem dX2_nextToldDay_1 : decode cX2_nextToldDay 1 = .ok (.getfield 15, 3) := by decide +kernel
theorem dX2_nextToldDay_4 : decode cX2_nextToldDay 4 = .ok (.iload_n 1, 1) := by decide +kernel
theorem dX2_nextToldDay_5 : decode cX2_nextToldDay 5 = .ok (.iaload, 1) := by decide +kernel
theorem dX2_nextToldDay_6 : decode cX2_nextToldDay 6 = .ok (.istore 4, 2) := by decide +kernel
theorem dX2_nextToldDay_8 : decode cX2_nextToldDay 8 = .ok (.aload_n 0, 1) := by decide +kernel
theorem dX2_nextToldDay_9 : decode cX2_nextToldDay 9 = .ok (.getfield 18, 3) := by decide +kernel
theorem dX2_nextToldDay_12 : decode cX2_nextToldDay 12 = .ok (.iload_n 1, 1) := by decide +kernel
theorem dX2_nextToldDay_13 : decode cX2_nextToldDay 13 = .ok (.iaload, 1) := by decide +kernel
theorem dX2_nextToldDay_14 : decode cX2_nextToldDay 14 = .ok (.iconst 1, 1) := by decide +kernel
theorem dX2_nextToldDay_15 : decode cX2_nextToldDay 15 = .ok (.iadd, 1) := by decide +kernel
theorem dX2_nextToldDay_16 : decode cX2_nextToldDay 16 = .ok (.istore 5, 2) := by decide +kernel
theorem dX2_nextToldDay_18 : decode cX2_nextToldDay 18 = .ok (.iload 5, 2) := by decide +kernel
theorem dX2_nextToldDay_20 : decode cX2_nextToldDay 20 = .ok (.iload_n 3, 1) := by decide +kernel
theorem dX2_nextToldDay_21 : decode cX2_nextToldDay 21 = .ok (.if_icmp .ge 45, 3) := by decide +kernel
theorem dX2_nextToldDay_24 : decode cX2_nextToldDay 24 = .ok (.aload_n 0, 1) := by decide +kernel
theorem dX2_nextToldDay_25 : decode cX2_nextToldDay 25 = .ok (.getfield 24, 3) := by decide +kernel
theorem dX2_nextToldDay_28 : decode cX2_nextToldDay 28 = .ok (.iload 5, 2) := by decide +kernel
theorem dX2_nextToldDay_30 : decode cX2_nextToldDay 30 = .ok (.iaload, 1) := by decide +kernel
theorem dX2_nextToldDay_31 : decode cX2_nextToldDay 31 = .ok (.iload_n 1, 1) := by decide +kernel
theorem dX2_nextToldDay_32 : decode cX2_nextToldDay 32 = .ok (.if_icmp .ne 28, 3) := by decide +kernel
theorem dX2_nextToldDay_35 : decode cX2_nextToldDay 35 = .ok (.aload_n 0, 1) := by decide +kernel
theorem dX2_nextToldDay_36 : decode cX2_nextToldDay 36 = .ok (.getfield 27, 3) := by decide +kernel
theorem dX2_nextToldDay_39 : decode cX2_nextToldDay 39 = .ok (.iload 5, 2) := by decide +kernel
theorem dX2_nextToldDay_41 : decode cX2_nextToldDay 41 = .ok (.iaload, 1) := by decide +kernel
theorem dX2_nextToldDay_42 : decode cX2_nextToldDay 42 = .ok (.iload_n 2, 1) := by decide +kernel
theorem dX2_nextToldDay_43 : decode cX2_nextToldDay 43 = .ok (.if_icmp .le 17, 3) := by decide +kernel
theorem dX2_nextToldDay_46 : decode cX2_nextToldDay 46 = .ok (.iload 4, 2) := by decide +kernel
theorem dX2_nextToldDay_48 : decode cX2_nextToldDay 48 = .ok (.aload_n 0, 1) := by decide +kernel
theorem dX2_nextToldDay_49 : decode cX2_nextToldDay 49 = .ok (.getfield 27, 3) := by decide +kernel
theorem dX2_nextToldDay_52 : decode cX2_nextToldDay 52 = .ok (.iload 5, 2) := by decide +kernel
theorem dX2_nextToldDay_54 : decode cX2_nextToldDay 54 = .ok (.iaload, 1) := by decide +kernel
theorem dX2_nextToldDay_55 : decode cX2_nextToldDay 55 = .ok (.invokestatic 43, 3) := by decide +kernel
theorem dX2_nextToldDay_58 : decode cX2_nextToldDay 58 = .ok (.istore 4, 2) := by decide +kernel
theorem dX2_nextToldDay_60 : decode cX2_nextToldDay 60 = .ok (.iinc 5 1, 3) := by decide +kernel
theorem dX2_nextToldDay_63 : decode cX2_nextToldDay 63 = .ok (.goto (-45), 3) := by decide +kernel
theorem dX2_nextToldDay_66 : decode cX2_nextToldDay 66 = .ok (.iload 4, 2) := by decide +kernel
theorem dX2_nextToldDay_68 : decode cX2_nextToldDay 68 = .ok (.ireturn, 1) := by decide +kernel
