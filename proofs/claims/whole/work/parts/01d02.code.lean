set_option maxRecDepth 20000 in
theorem gX4_reinstate_X4_isPolicy : GoodIn wsX4_reinstate (wsV RX4 111 RX4 yX4_isPolicy wsX4_isPolicy) := goodIn_app (goodIn_of _ (by decide +kernel)) ggX4_reinstate_X4_isPolicy
set_option maxRecDepth 20000 in
theorem ggX4_reinstate_X2_isInTerm : GoodIn wsX4_reinstate wsX2_isInTerm := goodIn_r _ [19, 20, 21, 123, 124, 125, 126, 127, 128, 129, 130, 131, 132, 133] (by decide +kernel) (by decide +kernel)
set_option maxRecDepth 20000 in
theorem gX4_reinstate_X2_isInTerm_n117 : GoodIn wsX4_reinstate (wsX2_isInTerm) := ggX4_reinstate_X2_isInTerm
set_option maxRecDepth 20000 in
theorem ggX4_reinstate_X2_isInForce : GoodIn wsX4_reinstate wsX2_isInForce := goodIn_r _ [24, 25, 26, 16, 18, 17, 19, 20, 21, 27, 28, 29, 30, 31, 32, 33, 34, 35, 36, 37, 11, 38, 123, 124, 125, 126, 127, 128, 129, 130, 131, 132, 133] (by decide +kernel) (by decide +kernel)
set_option maxRecDepth 20000 in
theorem gX4_reinstate_X2_isInForce_n120 : GoodIn wsX4_reinstate (wsX2_isInForce) := ggX4_reinstate_X2_isInForce
set_option maxRecDepth 20000 in
theorem ggX4_reinstate_X2_isFull : GoodIn wsX4_reinstate wsX2_isFull := goodIn_r _ [41, 25, 123, 124, 125, 126, 127, 128, 129, 130, 131, 132, 133] (by decide +kernel) (by decide +kernel)
set_option maxRecDepth 20000 in
theorem gX4_reinstate_X2_isFull_n89 : GoodIn wsX4_reinstate (wsX2_isFull) := ggX4_reinstate_X2_isFull
set_option maxRecDepth 20000 in
theorem ggX4_reinstate_X4_book : GoodIn wsX4_reinstate wsX4_book := goodIn_ca (goodIn_r _ [45, 7, 46, 17, 47, 48, 33, 25, 35, 34, 36, 49, 50, 51, 11, 52, 53, 54, 55, 56, 57, 58, 59, 21, 60, 61, 62, 63, 20, 64, 65, 66, 67, 32, 68, 69, 70, 71, 72, 73, 74, 75, 76, 27, 28, 29, 30, 31, 37, 38, 77, 78, 79, 80, 81, 82, 83, 84, 85, 86, 87, 88, 89, 90, 91, 92, 93, 94, 95, 96, 97, 98, 99, 100, 101, 102, 103, 104, 105, 106, 107, 108, 109, 110, 111, 112, 113, 114, 115, 116, 117, 118, 119, 120, 121, 122, 123, 124, 125, 126, 127, 128, 129, 130, 131, 132, 133, 134, 135, 136, 137, 138, 139, 140, 141, 142] (by decide +kernel) (by decide +kernel)) (goodIn_sub (fun _ h => List.mem_cons_of_mem _ (List.mem_append_right _ h)) (by decide +kernel))
set_option maxRecDepth 20000 in
theorem gX4_reinstate_X4_book : GoodIn wsX4_reinstate (wsV RX4 123 RX4 yX4_book wsX4_book) := goodIn_app (goodIn_of _ (by decide +kernel)) ggX4_reinstate_X4_book
theorem dX4_reinstate_0 : decode cX4_reinstate 0 = .ok (.aload_n 0, 1) := by decide +kernel
theorem dX4_reinstate_1 : decode cX4_reinstate 1 = .ok (.iload_n 1, 1) := by decide +kernel
theorem dX4_reinstate_2 : decode cX4_reinstate 2 = .ok (.invokevirtual 111, 3) := by decide +kernel
theorem dX4_reinstate_5 : decode cX4_reinstate 5 = .ok (.ifCond .ne 11, 3) := by decide +kernel
theorem dX4_reinstate_8 : decode cX4_reinstate 8 = .ok (.new 114, 3) := by decide +kernel
theorem dX4_reinstate_11 : decode cX4_reinstate 11 = .ok (.dup, 1) := by decide +kernel
theorem dX4_reinstate_12 : decode cX4_reinstate 12 = .ok (.invokespecial 116, 3) := by decide +kernel
theorem dX4_reinstate_15 : decode cX4_reinstate 15 = .ok (.athrow, 1) := by decide +kernel
theorem dX4_reinstate_16 : decode cX4_reinstate 16 = .ok (.aload_n 0, 1) := by decide +kernel
theorem dX4_reinstate_17 : decode cX4_reinstate 17 = .ok (.getfield 21, 3) := by decide +kernel
theorem dX4_reinstate_20 : decode cX4_reinstate 20 = .ok (.iload_n 1, 1) := by decide +kernel
theorem dX4_reinstate_21 : decode cX4_reinstate 21 = .ok (.iload_n 2, 1) := by decide +kernel
theorem dX4_reinstate_22 : decode cX4_reinstate 22 = .ok (.invokevirtual 117, 3) := by decide +kernel
theorem dX4_reinstate_25 : decode cX4_reinstate 25 = .ok (.ifCond .ne 11, 3) := by decide +kernel
theorem dX4_reinstate_28 : decode cX4_reinstate 28 = .ok (.new 57, 3) := by decide +kernel
theorem dX4_reinstate_31 : decode cX4_reinstate 31 = .ok (.dup, 1) := by decide +kernel
theorem dX4_reinstate_32 : decode cX4_reinstate 32 = .ok (.invokespecial 59, 3) := by decide +kernel
theorem dX4_reinstate_35 : decode cX4_reinstate 35 = .ok (.athrow, 1) := by decide +kernel
theorem dX4_reinstate_36 : decode cX4_reinstate 36 = .ok (.aload_n 0, 1) := by decide +kernel
theorem dX4_reinstate_37 : decode cX4_reinstate 37 = .ok (.getfield 21, 3) := by decide +kernel
theorem dX4_reinstate_40 : decode cX4_reinstate 40 = .ok (.iload_n 1, 1) := by decide +kernel
theorem dX4_reinstate_41 : decode cX4_reinstate 41 = .ok (.iload_n 2, 1) := by decide +kernel
theorem dX4_reinstate_42 : decode cX4_reinstate 42 = .ok (.invokevirtual 120, 3) := by decide +kernel
theorem dX4_reinstate_45 : decode cX4_reinstate 45 = .ok (.ifCond .ne 13, 3) := by decide +kernel
theorem dX4_reinstate_48 : decode cX4_reinstate 48 = .ok (.aload_n 0, 1) := by decide +kernel
theorem dX4_reinstate_49 : decode cX4_reinstate 49 = .ok (.getfield 21, 3) := by decide +kernel
theorem dX4_reinstate_52 : decode cX4_reinstate 52 = .ok (.invokevirtual 89, 3) := by decide +kernel
theorem dX4_reinstate_55 : decode cX4_reinstate 55 = .ok (.ifCond .eq 11, 3) := by decide +kernel
theorem dX4_reinstate_58 : decode cX4_reinstate 58 = .ok (.new 47, 3) := by decide +kernel
theorem dX4_reinstate_61 : decode cX4_reinstate 61 = .ok (.dup, 1) := by decide +kernel
theorem dX4_reinstate_62 : decode cX4_reinstate 62 = .ok (.invokespecial 49, 3) := by decide +kernel
theorem dX4_reinstate_65 : decode cX4_reinstate 65 = .ok (.athrow, 1) := by decide +kernel
theorem dX4_reinstate_66 : decode cX4_reinstate 66 = .ok (.aload_n 0, 1) := by decide +kernel
theorem dX4_reinstate_67 : decode cX4_reinstate 67 = .ok (.iload_n 1, 1) := by decide +kernel
theorem dX4_reinstate_68 : decode cX4_reinstate 68 = .ok (.iload_n 2, 1) := by decide +kernel
theorem dX4_reinstate_69 : decode cX4_reinstate 69 = .ok (.iconst 3, 1) := by decide +kernel
theorem dX4_reinstate_70 : decode cX4_reinstate 70 = .ok (.iconst 1, 1) := by decide +kernel
theorem dX4_reinstate_71 : decode cX4_reinstate 71 = .ok (.iconst 0, 1) := by decide +kernel
theorem dX4_reinstate_72 : decode cX4_reinstate 72 = .ok (.invokevirtual 123, 3) := by decide +kernel
theorem dX4_reinstate_75 : decode cX4_reinstate 75 = .ok (.ireturn, 1) := by decide +kernel
set_option maxRecDepth 20000 in
theorem ggX4_claim_X4_isPolicy : GoodIn wsX4_claim wsX4_isPolicy := goodIn_r _ [14, 7, 15, 16, 13, 17, 107, 108, 109, 110, 111, 124, 125, 126, 127, 128, 129, 130, 131, 132, 133, 134] (by decide +kernel) (by decide +kernel)
set_option maxRecDepth 20000 in
theorem gX4_claim_X4_isPolicy : GoodIn wsX4_claim (wsV RX4 111 RX4 yX4_isPolicy wsX4_isPolicy) := goodIn_app (goodIn_of _ (by decide +kernel)) ggX4_claim_X4_isPolicy
set_option maxRecDepth 20000 in
theorem ggX4_claim_X4_isDay : GoodIn wsX4_claim wsX4_isDay := goodIn_r _ [20, 15, 16, 13, 17] (by decide +kernel) (by decide +kernel)
set_option maxRecDepth 20000 in
theorem gX4_claim_X4_isDay : GoodIn wsX4_claim (va_wsS RX4 92 yX4_isDay wsX4_isDay) := goodIn_app (goodIn_of _ (by decide +kernel)) ggX4_claim_X4_isDay
set_option maxRecDepth 20000 in
theorem ggX4_claim_X4_isWithin : GoodIn wsX4_claim wsX4_isWithin := goodIn_r _ [23] (by decide +kernel) (by decide +kernel)
set_option maxRecDepth 20000 in
theorem gX4_claim_X4_isWithin : GoodIn wsX4_claim (va_wsS RX4 54 yX4_isWithin wsX4_isWithin) := goodIn_app (goodIn_of _ (by decide +kernel)) ggX4_claim_X4_isWithin
set_option maxRecDepth 20000 in
theorem ggX4_claim_X2_isInForce : GoodIn wsX4_claim wsX2_isInForce := goodIn_r _ [27, 28, 29, 30, 31, 25, 32, 33, 34, 35, 36, 37, 38, 39, 40, 41, 42, 43, 44, 22, 13, 23, 124, 125, 126, 127, 128, 129, 130, 131, 132, 133, 134] (by decide +kernel) (by decide +kernel)
set_option maxRecDepth 20000 in
theorem gX4_claim_X2_isInForce_n120 : GoodIn wsX4_claim (wsX2_isInForce) := ggX4_claim_X2_isInForce
set_option maxRecDepth 20000 in
theorem ggX4_claim_X3_payable : GoodIn wsX4_claim wsX3_payable := goodIn_r _ [48, 49, 50, 51, 52, 53, 54, 55, 56, 57, 58, 59, 112, 113, 114, 115, 116, 117, 118, 119, 120, 121, 122, 123] (by decide +kernel) (by decide +kernel)
set_option maxRecDepth 20000 in
theorem gX4_claim_X3_payable_n127 : GoodIn wsX4_claim (wsX3_payable) := ggX4_claim_X3_payable
set_option maxRecDepth 20000 in
theorem ggX4_claim_X4_percentOf : GoodIn wsX4_claim wsX4_percentOf := goodIn_r _ [62, 63, 64, 65, 66] (by decide +kernel) (by decide +kernel)
set_option maxRecDepth 20000 in
theorem gX4_claim_X4_percentOf : GoodIn wsX4_claim (va_wsS RX4 131 yX4_percentOf wsX4_percentOf) := goodIn_app (goodIn_of _ (by decide +kernel)) ggX4_claim_X4_percentOf
set_option maxRecDepth 20000 in
theorem ggX4_claim_X3_layerPartOf : GoodIn wsX4_claim wsX3_layerPartOf := goodIn_r _ [69, 70, 71, 72, 73, 52, 53, 54, 55, 57, 58, 59, 112, 113, 114, 115, 116, 117, 118, 119, 120, 121, 122, 123] (by decide +kernel) (by decide +kernel)
set_option maxRecDepth 20000 in
theorem gX4_claim_X3_layerPartOf_n134 : GoodIn wsX4_claim (wsX3_layerPartOf) := ggX4_claim_X3_layerPartOf
set_option maxRecDepth 20000 in
theorem ggX4_claim_X3_renewedOf : GoodIn wsX4_claim wsX3_renewedOf := goodIn_r _ [76, 70, 71, 77, 57, 58, 54, 59, 112, 113, 114, 115, 116, 117, 118, 119, 120, 121, 122, 123] (by decide +kernel) (by decide +kernel)
set_option maxRecDepth 20000 in
theorem gX4_claim_X3_renewedOf_n138 : GoodIn wsX4_claim (wsX3_renewedOf) := ggX4_claim_X3_renewedOf
set_option maxRecDepth 20000 in
theorem ggX4_claim_X4_postClaim : GoodIn wsX4_claim wsX4_postClaim := goodIn_ca (goodIn_r _ [81, 82, 83, 84, 85, 86, 87, 88, 89, 90, 91, 92, 93, 94, 95, 96, 97, 98, 99, 100, 101, 107, 108, 109, 110, 111, 135, 136, 137] (by decide +kernel) (by decide +kernel)) (goodIn_sub (fun _ h => List.mem_cons_of_mem _ (List.mem_append_right _ h)) (by decide +kernel))
set_option maxRecDepth 20000 in
theorem gX4_claim_X4_postClaim : GoodIn wsX4_claim (wsV RX4 144 RX4 yX4_postClaim wsX4_postClaim) := goodIn_app (goodIn_of _ (by decide +kernel)) ggX4_claim_X4_postClaim
set_option maxRecDepth 20000 in
theorem ggX4_claim_X3_keep : GoodIn wsX4_claim wsX3_keep := goodIn_r _ [104, 105, 106, 50, 72, 77, 112, 113, 114, 115, 116, 117, 118, 119, 120, 121, 122, 123] (by decide +kernel) (by decide +kernel)
set_option maxRecDepth 20000 in
theorem gX4_claim_X3_keep_n147 : GoodIn wsX4_claim (wsX3_keep) := ggX4_claim_X3_keep
theorem dX4_claim_0 : decode cX4_claim 0 = .ok (.aload_n 0, 1) := by decide +kernel
theorem dX4_claim_1 : decode cX4_claim 1 = .ok (.iload_n 1, 1) := by decide +kernel
theorem dX4_claim_2 : decode cX4_claim 2 = .ok (.invokevirtual 111, 3) := by decide +kernel
theorem dX4_claim_5 : decode cX4_claim 5 = .ok (.ifCond .ne 11, 3) := by decide +kernel
theorem dX4_claim_8 : decode cX4_claim 8 = .ok (.new 114, 3) := by decide +kernel
theorem dX4_claim_11 : decode cX4_claim 11 = .ok (.dup, 1) := by decide +kernel
theorem dX4_claim_12 : decode cX4_claim 12 = .ok (.invokespecial 116, 3) := by decide +kernel
theorem dX4_claim_15 : decode cX4_claim 15 = .ok (.athrow, 1) := by decide +kernel
theorem dX4_claim_16 : decode cX4_claim 16 = .ok (.iload_n 2, 1) := by decide +kernel
theorem dX4_claim_17 : decode cX4_claim 17 = .ok (.invokestatic 92, 3) := by decide +kernel
theorem dX4_claim_20 : decode cX4_claim 20 = .ok (.ifCond .eq 14, 3) := by decide +kernel
theorem dX4_claim_23 : decode cX4_claim 23 = .ok (.iconst 1, 1) := by decide +kernel
theorem dX4_claim_24 : decode cX4_claim 24 = .ok (.iload_n 3, 1) := by decide +kernel
theorem dX4_claim_25 : decode cX4_claim 25 = .ok (.sipush 9999, 3) := by decide +kernel
theorem dX4_claim_28 : decode cX4_claim 28 = .ok (.invokestatic 54, 3) := by decide +kernel
theorem dX4_claim_31 : decode cX4_claim 31 = .ok (.ifCond .ne 11, 3) := by decide +kernel
theorem dX4_claim_34 : decode cX4_claim 34 = .ok (.new 57, 3) := by decide +kernel
theorem dX4_claim_37 : decode cX4_claim 37 = .ok (.dup, 1) := by decide +kernel
theorem dX4_claim_38 : decode cX4_claim 38 = .ok (.invokespecial 59, 3) := by decide +kernel
theorem dX4_claim_41 : decode cX4_claim 41 = .ok (.athrow, 1) := by decide +kernel
theorem dX4_claim_42 : decode cX4_claim 42 = .ok (.aload_n 0, 1) := by decide +kernel
theorem dX4_claim_43 : decode cX4_claim 43 = .ok (.getfield 21, 3) := by decide +kernel
theorem dX4_claim_46 : decode cX4_claim 46 = .ok (.iload_n 1, 1) := by decide +kernel
theorem dX4_claim_47 : decode cX4_claim 47 = .ok (.iload_n 2, 1) := by decide +kernel
theorem dX4_claim_48 : decode cX4_claim 48 = .ok (.invokevirtual 120, 3) := by decide +kernel
theorem dX4_claim_51 : decode cX4_claim 51 = .ok (.ifCond .eq 15, 3) := by decide +kernel
theorem dX4_claim_54 : decode cX4_claim 54 = .ok (.aload_n 0, 1) := by decide +kernel
theorem dX4_claim_55 : decode cX4_claim 55 = .ok (.getfield 28, 3) := by decide +kernel
theorem dX4_claim_58 : decode cX4_claim 58 = .ok (.getfield 77, 3) := by decide +kernel
theorem dX4_claim_61 : decode cX4_claim 61 = .ok (.bipush 20, 2) := by decide +kernel
theorem dX4_claim_63 : decode cX4_claim 63 = .ok (.if_icmp .ne 11, 3) := by decide +kernel
theorem dX4_claim_66 : decode cX4_claim 66 = .ok (.new 47, 3) := by decide +kernel
theorem dX4_claim_69 : decode cX4_claim 69 = .ok (.dup, 1) := by decide +kernel
theorem dX4_claim_70 : decode cX4_claim 70 = .ok (.invokespecial 49, 3) := by decide +kernel
theorem dX4_claim_73 : decode cX4_claim 73 = .ok (.athrow, 1) := by decide +kernel
theorem dX4_claim_74 : decode cX4_claim 74 = .ok (.aload_n 0, 1) := by decide +kernel
theorem dX4_claim_75 : decode cX4_claim 75 = .ok (.getfield 28, 3) := by decide +kernel
theorem dX4_claim_78 : decode cX4_claim 78 = .ok (.iload_n 1, 1) := by decide +kernel
theorem dX4_claim_79 : decode cX4_claim 79 = .ok (.iload_n 3, 1) := by decide +kernel
theorem dX4_claim_80 : decode cX4_claim 80 = .ok (.invokevirtual 127, 3) := by decide +kernel
theorem dX4_claim_83 : decode cX4_claim 83 = .ok (.istore 4, 2) := by decide +kernel
theorem dX4_claim_85 : decode cX4_claim 85 = .ok (.iload 4, 2) := by decide +kernel
theorem dX4_claim_87 : decode cX4_claim 87 = .ok (.aload_n 0, 1) := by decide +kernel
theorem dX4_claim_88 : decode cX4_claim 88 = .ok (.getfield 74, 3) := by decide +kernel
theorem dX4_claim_91 : decode cX4_claim 91 = .ok (.invokestatic 131, 3) := by decide +kernel
theorem dX4_claim_94 : decode cX4_claim 94 = .ok (.istore 5, 2) := by decide +kernel
theorem dX4_claim_96 : decode cX4_claim 96 = .ok (.aload_n 0, 1) := by decide +kernel
theorem dX4_claim_97 : decode cX4_claim 97 = .ok (.getfield 28, 3) := by decide +kernel
theorem dX4_claim_100 : decode cX4_claim 100 = .ok (.iload 4, 2) := by decide +kernel
theorem dX4_claim_102 : decode cX4_claim 102 = .ok (.iload 5, 2) := by decide +kernel
theorem dX4_claim_104 : decode cX4_claim 104 = .ok (.isub, 1) := by decide +kernel
theorem dX4_claim_105 : decode cX4_claim 105 = .ok (.invokevirtual 134, 3) := by decide +kernel
theorem dX4_claim_108 : decode cX4_claim 108 = .ok (.istore 6, 2) := by decide +kernel
theorem dX4_claim_110 : decode cX4_claim 110 = .ok (.aload_n 0, 1) := by decide +kernel
theorem dX4_claim_111 : decode cX4_claim 111 = .ok (.getfield 28, 3) := by decide +kernel
theorem dX4_claim_114 : decode cX4_claim 114 = .ok (.iload 6, 2) := by decide +kernel
theorem dX4_claim_116 : decode cX4_claim 116 = .ok (.invokevirtual 138, 3) := by decide +kernel
theorem dX4_claim_119 : decode cX4_claim 119 = .ok (.istore 7, 2) := by decide +kernel
theorem dX4_claim_121 : decode cX4_claim 121 = .ok (.aload_n 0, 1) := by decide +kernel
theorem dX4_claim_122 : decode cX4_claim 122 = .ok (.iload 4, 2) := by decide +kernel
theorem dX4_claim_124 : decode cX4_claim 124 = .ok (.iload 5, 2) := by decide +kernel
theorem dX4_claim_126 : decode cX4_claim 126 = .ok (.iload 6, 2) := by decide +kernel
theorem dX4_claim_128 : decode cX4_claim 128 = .ok (.iadd, 1) := by decide +kernel
theorem dX4_claim_129 : decode cX4_claim 129 = .ok (.iload 7, 2) := by decide +kernel
theorem dX4_claim_131 : decode cX4_claim 131 = .ok (.aload_n 0, 1) := by decide +kernel
theorem dX4_claim_132 : decode cX4_claim 132 = .ok (.getfield 28, 3) := by decide +kernel
theorem dX4_claim_135 : decode cX4_claim 135 = .ok (.getfield 141, 3) := by decide +kernel
theorem dX4_claim_138 : decode cX4_claim 138 = .ok (.invokestatic 131, 3) := by decide +kernel
theorem dX4_claim_141 : decode cX4_claim 141 = .ok (.invokevirtual 144, 3) := by decide +kernel
theorem dX4_claim_144 : decode cX4_claim 144 = .ok (.aload_n 0, 1) := by decide +kernel
theorem dX4_claim_145 : decode cX4_claim 145 = .ok (.getfield 28, 3) := by decide +kernel
theorem dX4_claim_148 : decode cX4_claim 148 = .ok (.iload_n 1, 1) := by decide +kernel
theorem dX4_claim_149 : decode cX4_claim 149 = .ok (.iload_n 2, 1) := by decide +kernel
theorem dX4_claim_150 : decode cX4_claim 150 = .ok (.iload 4, 2) := by decide +kernel
theorem dX4_claim_152 : decode cX4_claim 152 = .ok (.iload 5, 2) := by decide +kernel
theorem dX4_claim_154 : decode cX4_claim 154 = .ok (.iload 6, 2) := by decide +kernel
theorem dX4_claim_156 : decode cX4_claim 156 = .ok (.iload 7, 2) := by decide +kernel
theorem dX4_claim_158 : decode cX4_claim 158 = .ok (.invokevirtual 147, 3) := by decide +kernel
theorem dX4_claim_161 : decode cX4_claim 161 = .ok (.iload 4, 2) := by decide +kernel
theorem dX4_claim_163 : decode cX4_claim 163 = .ok (.ireturn, 1) := by decide +kernel
theorem dX4_count_0 : decode cX4_count 0 = .ok (.iload_n 1, 1) := by decide +kernel
theorem dX4_count_1 : decode cX4_count 1 = .ok (.tableswitch 75 0 4 #[35, 43, 51, 59, 67], 35) := by decide +kernel
theorem dX4_count_36 : decode cX4_count 36 = .ok (.aload_n 0, 1) := by decide +kernel
theorem dX4_count_37 : decode cX4_count 37 = .ok (.getfield 21, 3) := by decide +kernel
theorem dX4_count_40 : decode cX4_count 40 = .ok (.getfield 71, 3) := by decide +kernel
theorem dX4_count_43 : decode cX4_count 43 = .ok (.ireturn, 1) := by decide +kernel
theorem dX4_count_44 : decode cX4_count 44 = .ok (.aload_n 0, 1) := by decide +kernel
theorem dX4_count_45 : decode cX4_count 45 = .ok (.getfield 21, 3) := by decide +kernel
theorem dX4_count_48 : decode cX4_count 48 = .ok (.getfield 151, 3) := by decide +kernel
theorem dX4_count_51 : decode cX4_count 51 = .ok (.ireturn, 1) := by decide +kernel
theorem dX4_count_52 : decode cX4_count 52 = .ok (.aload_n 0, 1) := by decide +kernel
theorem dX4_count_53 : decode cX4_count 53 = .ok (.getfield 28, 3) := by decide +kernel
theorem dX4_count_56 : decode cX4_count 56 = .ok (.getfield 77, 3) := by decide +kernel
theorem dX4_count_59 : decode cX4_count 59 = .ok (.ireturn, 1) := by decide +kernel
theorem dX4_count_60 : decode cX4_count 60 = .ok (.aload_n 0, 1) := by decide +kernel
theorem dX4_count_61 : decode cX4_count 61 = .ok (.getfield 35, 3) := by decide +kernel
theorem dX4_count_64 : decode cX4_count 64 = .ok (.getfield 154, 3) := by decide +kernel
theorem dX4_count_67 : decode cX4_count 67 = .ok (.ireturn, 1) := by decide +kernel
theorem dX4_count_68 : decode cX4_count 68 = .ok (.aload_n 0, 1) := by decide +kernel
theorem dX4_count_69 : decode cX4_count 69 = .ok (.getfield 10, 3) := by decide +kernel
theorem dX4_count_72 : decode cX4_count 72 = .ok (.getfield 43, 3) := by decide +kernel
theorem dX4_count_75 : decode cX4_count 75 = .ok (.ireturn, 1) := by decide +kernel
theorem dX4_count_76 : decode cX4_count 76 = .ok (.iconst (-1), 1) := by decide +kernel
theorem dX4_count_77 : decode cX4_count 77 = .ok (.ireturn, 1) := by decide +kernel
set_option maxRecDepth 20000 in
theorem ggX4_fact_X4_isPolicy : GoodIn wsX4_fact wsX4_isPolicy := goodIn_r _ [8, 3, 9, 10, 7, 11, 63, 64, 65, 66, 67, 68, 69, 70, 71, 72, 73, 74, 75, 76, 77, 78] (by decide +kernel) (by decide +kernel)
set_option maxRecDepth 20000 in
theorem gX4_fact_X4_isPolicy : GoodIn wsX4_fact (wsV RX4 111 RX4 yX4_isPolicy wsX4_isPolicy) := goodIn_app (goodIn_of _ (by decide +kernel)) ggX4_fact_X4_isPolicy
set_option maxRecDepth 20000 in
theorem ggX4_fact_X4_isWithin : GoodIn wsX4_fact wsX4_isWithin := goodIn_r _ [14] (by decide +kernel) (by decide +kernel)
set_option maxRecDepth 20000 in
theorem gX4_fact_X4_isWithin : GoodIn wsX4_fact (va_wsS RX4 54 yX4_isWithin wsX4_isWithin) := goodIn_app (goodIn_of _ (by decide +kernel)) ggX4_fact_X4_isWithin
set_option maxRecDepth 20000 in
theorem ggX4_fact_X2_countedAsOf : GoodIn wsX4_fact wsX2_countedAsOf := goodIn_r _ [18, 19, 20, 21, 22, 23, 24, 25, 26, 68, 69, 70, 71, 72, 73, 74, 75, 76, 77, 78] (by decide +kernel) (by decide +kernel)
set_option maxRecDepth 20000 in
theorem gX4_fact_X2_countedAsOf_n155 : GoodIn wsX4_fact (wsX2_countedAsOf) := ggX4_fact_X2_countedAsOf
set_option maxRecDepth 20000 in
theorem ggX4_fact_X2_isInTerm : GoodIn wsX4_fact wsX2_isInTerm := goodIn_r _ [29, 30, 31, 68, 69, 70, 71, 72, 73, 74, 75, 76, 77, 78] (by decide +kernel) (by decide +kernel)
set_option maxRecDepth 20000 in
theorem gX4_fact_X2_isInTerm_n117 : GoodIn wsX4_fact (wsX2_isInTerm) := ggX4_fact_X2_isInTerm
set_option maxRecDepth 20000 in
theorem ggX4_fact_X2_isBound : GoodIn wsX4_fact wsX2_isBound := goodIn_r _ [34, 35, 68, 69, 70, 71, 72, 73, 74, 75, 76, 77, 78] (by decide +kernel) (by decide +kernel)
set_option maxRecDepth 20000 in
theorem gX4_fact_X2_isBound_n158 : GoodIn wsX4_fact (wsX2_isBound) := ggX4_fact_X2_isBound
set_option maxRecDepth 20000 in
theorem ggX4_fact_X2_chargeOn : GoodIn wsX4_fact wsX2_chargeOn := goodIn_r _ [38, 39, 40, 41, 42, 16, 43, 30, 44, 35, 45, 46, 47, 48, 13, 7, 14, 49, 50, 51, 52, 53, 54, 55, 56, 57, 58, 59, 60, 61, 62, 68, 69, 70, 71, 72, 73, 74, 75, 76, 77, 78, 79, 80, 81, 82, 83, 84] (by decide +kernel) (by decide +kernel)
set_option maxRecDepth 20000 in
theorem gX4_fact_X2_chargeOn_n161 : GoodIn wsX4_fact (wsX2_chargeOn) := ggX4_fact_X2_chargeOn
set_option maxRecDepth 20000 in
theorem ggX4_fact_X2_valueOn : GoodIn wsX4_fact wsX2_valueOn := goodIn_r _ [43, 30, 44, 35, 45, 46, 47, 48, 13, 7, 14, 68, 69, 70, 71, 72, 73, 74, 75, 76, 77, 78] (by decide +kernel) (by decide +kernel)
set_option maxRecDepth 20000 in
theorem gX4_fact_X2_valueOn_n165 : GoodIn wsX4_fact (wsX2_valueOn) := ggX4_fact_X2_valueOn
theorem dX4_fact_0 : decode cX4_fact 0 = .ok (.aload_n 0, 1) := by decide +kernel
theorem dX4_fact_1 : decode cX4_fact 1 = .ok (.iload_n 1, 1) := by decide +kernel
theorem dX4_fact_2 : decode cX4_fact 2 = .ok (.invokevirtual 111, 3) := by decide +kernel
theorem dX4_fact_5 : decode cX4_fact 5 = .ok (.ifCond .eq 12, 3) := by decide +kernel
theorem dX4_fact_8 : decode cX4_fact 8 = .ok (.iconst 0, 1) := by decide +kernel
theorem dX4_fact_9 : decode cX4_fact 9 = .ok (.iload_n 2, 1) := by decide +kernel
theorem dX4_fact_10 : decode cX4_fact 10 = .ok (.iconst 4, 1) := by decide +kernel
theorem dX4_fact_11 : decode cX4_fact 11 = .ok (.invokestatic 54, 3) := by decide +kernel
theorem dX4_fact_14 : decode cX4_fact 14 = .ok (.ifCond .ne 11, 3) := by decide +kernel
theorem dX4_fact_17 : decode cX4_fact 17 = .ok (.new 114, 3) := by decide +kernel
theorem dX4_fact_20 : decode cX4_fact 20 = .ok (.dup, 1) := by decide +kernel
theorem dX4_fact_21 : decode cX4_fact 21 = .ok (.invokespecial 116, 3) := by decide +kernel
theorem dX4_fact_24 : decode cX4_fact 24 = .ok (.athrow, 1) := by decide +kernel
theorem dX4_fact_25 : decode cX4_fact 25 = .ok (.aload_n 0, 1) := by decide +kernel
theorem dX4_fact_26 : decode cX4_fact 26 = .ok (.getfield 21, 3) := by decide +kernel
theorem dX4_fact_29 : decode cX4_fact 29 = .ok (.iload 4, 2) := by decide +kernel
theorem dX4_fact_31 : decode cX4_fact 31 = .ok (.invokevirtual 155, 3) := by decide +kernel
theorem dX4_fact_34 : decode cX4_fact 34 = .ok (.istore 5, 2) := by decide +kernel
theorem dX4_fact_36 : decode cX4_fact 36 = .ok (.aload_n 0, 1) := by decide +kernel
theorem dX4_fact_37 : decode cX4_fact 37 = .ok (.getfield 21, 3) := by decide +kernel
theorem dX4_fact_40 : decode cX4_fact 40 = .ok (.iload_n 1, 1) := by decide +kernel
theorem dX4_fact_41 : decode cX4_fact 41 = .ok (.iload_n 3, 1) := by decide +kernel
theorem dX4_fact_42 : decode cX4_fact 42 = .ok (.invokevirtual 117, 3) := by decide +kernel
theorem dX4_fact_45 : decode cX4_fact 45 = .ok (.ifCond .eq 16, 3) := by decide +kernel
theorem dX4_fact_48 : decode cX4_fact 48 = .ok (.aload_n 0, 1) := by decide +kernel
theorem dX4_fact_49 : decode cX4_fact 49 = .ok (.getfield 21, 3) := by decide +kernel
theorem dX4_fact_52 : decode cX4_fact 52 = .ok (.iload_n 1, 1) := by decide +kernel
theorem dX4_fact_53 : decode cX4_fact 53 = .ok (.iload 5, 2) := by decide +kernel
theorem dX4_fact_55 : decode cX4_fact 55 = .ok (.invokevirtual 158, 3) := by decide +kernel
theorem dX4_fact_58 : decode cX4_fact 58 = .ok (.ifCond .ne 5, 3) := by decide +kernel
theorem dX4_fact_61 : decode cX4_fact 61 = .ok (.iconst (-1), 1) := by decide +kernel
theorem dX4_fact_62 : decode cX4_fact 62 = .ok (.ireturn, 1) := by decide +kernel
theorem dX4_fact_63 : decode cX4_fact 63 = .ok (.iload_n 2, 1) := by decide +kernel
theorem dX4_fact_64 : decode cX4_fact 64 = .ok (.iconst 4, 1) := by decide +kernel
theorem dX4_fact_65 : decode cX4_fact 65 = .ok (.if_icmp .ne 17, 3) := by decide +kernel
theorem dX4_fact_68 : decode cX4_fact 68 = .ok (.aload_n 0, 1) := by decide +kernel
theorem dX4_fact_69 : decode cX4_fact 69 = .ok (.getfield 21, 3) := by decide +kernel
theorem dX4_fact_72 : decode cX4_fact 72 = .ok (.iload_n 1, 1) := by decide +kernel
theorem dX4_fact_73 : decode cX4_fact 73 = .ok (.iload_n 3, 1) := by decide +kernel
theorem dX4_fact_74 : decode cX4_fact 74 = .ok (.iload 5, 2) := by decide +kernel
theorem dX4_fact_76 : decode cX4_fact 76 = .ok (.invokevirtual 161, 3) := by decide +kernel
theorem dX4_fact_79 : decode cX4_fact 79 = .ok (.goto 15, 3) := by decide +kernel
theorem dX4_fact_82 : decode cX4_fact 82 = .ok (.aload_n 0, 1) := by decide +kernel
theorem dX4_fact_83 : decode cX4_fact 83 = .ok (.getfield 21, 3) := by decide +kernel
theorem dX4_fact_86 : decode cX4_fact 86 = .ok (.iload_n 1, 1) := by decide +kernel
theorem dX4_fact_87 : decode cX4_fact 87 = .ok (.iload_n 2, 1) := by decide +kernel
theorem dX4_fact_88 : decode cX4_fact 88 = .ok (.iload_n 3, 1) := by decide +kernel
theorem dX4_fact_89 : decode cX4_fact 89 = .ok (.iload 5, 2) := by decide +kernel
theorem dX4_fact_91 : decode cX4_fact 91 = .ok (.invokevirtual 165, 3) := by decide +kernel
theorem dX4_fact_94 : decode cX4_fact 94 = .ok (.ireturn, 1) := by decide +kernel
set_option maxRecDepth 20000 in
theorem ggX4_written_X4_isPolicy : GoodIn wsX4_written wsX4_isPolicy := goodIn_r _ [8, 3, 9, 10, 7, 11, 68, 69, 70, 71, 72, 73, 74, 75, 76, 77, 78, 79, 80, 81, 82, 83] (by decide +kernel) (by decide +kernel)
set_option maxRecDepth 20000 in
theorem gX4_written_X4_isPolicy : GoodIn wsX4_written (wsV RX4 111 RX4 yX4_isPolicy wsX4_isPolicy) := goodIn_app (goodIn_of _ (by decide +kernel)) ggX4_written_X4_isPolicy
set_option maxRecDepth 20000 in
theorem ggX4_written_X2_countedAsOf : GoodIn wsX4_written wsX2_countedAsOf := goodIn_r _ [15, 16, 17, 18, 19, 20, 21, 22, 23, 73, 74, 75, 76, 77, 78, 79, 80, 81, 82, 83] (by decide +kernel) (by decide +kernel)
set_option maxRecDepth 20000 in
theorem gX4_written_X2_countedAsOf_n155 : GoodIn wsX4_written (wsX2_countedAsOf) := ggX4_written_X2_countedAsOf
set_option maxRecDepth 20000 in
theorem ggX4_written_X2_premiumBefore : GoodIn wsX4_written wsX2_premiumBefore := goodIn_r _ [26, 27, 17, 18, 19, 20, 28, 29, 30, 31, 13, 32, 33, 34, 35, 36, 37, 38, 39, 40, 41, 42, 43, 44, 45, 46, 47, 48, 49, 50, 51, 52, 7, 53, 54, 55, 56, 57, 58, 59, 60, 61, 62, 63, 64, 65, 66, 67, 73, 74, 75, 76, 77, 78, 79, 80, 81, 82, 83, 84, 85, 86, 87, 88, 89] (by decide +kernel) (by decide +kernel)
set_option maxRecDepth 20000 in
theorem gX4_written_X2_premiumBefore_n169 : GoodIn wsX4_written (wsX2_premiumBefore) := ggX4_written_X2_premiumBefore
theorem dX4_written_0 : decode cX4_written 0 = .ok (.aload_n 0, 1) := by decide +kernel
theorem dX4_written_1 : decode cX4_written 1 = .ok (.iload_n 1, 1) := by decide +kernel
theorem dX4_written_2 : decode cX4_written 2 = .ok (.invokevirtual 111, 3) := by decide +kernel
theorem dX4_written_5 : decode cX4_written 5 = .ok (.ifCond .ne 11, 3) := by decide +kernel
theorem dX4_written_8 : decode cX4_written 8 = .ok (.new 114, 3) := by decide +kernel
theorem dX4_written_11 : decode cX4_written 11 = .ok (.dup, 1) := by decide +kernel
theorem dX4_written_12 : decode cX4_written 12 = .ok (.invokespecial 116, 3) := by decide +kernel
theorem dX4_written_15 : decode cX4_written 15 = .ok (.athrow, 1) := by decide +kernel
theorem dX4_written_16 : decode cX4_written 16 = .ok (.aload_n 0, 1) := by decide +kernel
theorem dX4_written_17 : decode cX4_written 17 = .ok (.getfield 21, 3) := by decide +kernel
theorem dX4_written_20 : decode cX4_written 20 = .ok (.iload_n 1, 1) := by decide +kernel
theorem dX4_written_21 : decode cX4_written 21 = .ok (.sipush 1000, 3) := by decide +kernel
theorem dX4_written_24 : decode cX4_written 24 = .ok (.aload_n 0, 1) := by decide +kernel
theorem dX4_written_25 : decode cX4_written 25 = .ok (.getfield 21, 3) := by decide +kernel
theorem dX4_written_28 : decode cX4_written 28 = .ok (.iload_n 2, 1) := by decide +kernel
theorem dX4_written_29 : decode cX4_written 29 = .ok (.invokevirtual 155, 3) := by decide +kernel
theorem dX4_written_32 : decode cX4_written 32 = .ok (.invokevirtual 169, 3) := by decide +kernel
theorem dX4_written_35 : decode cX4_written 35 = .ok (.ireturn, 1) := by decide +kernel
set_option maxRecDepth 20000 in
theorem ggX4_earned_X4_isPolicy : GoodIn wsX4_earned wsX4_isPolicy := goodIn_r _ [8, 3, 9, 10, 7, 11, 68, 69, 70, 71, 72, 73, 74, 75, 76, 77, 78, 79, 80, 81, 82, 83] (by decide +kernel) (by decide +kernel)
set_option maxRecDepth 20000 in
theorem gX4_earned_X4_isPolicy : GoodIn wsX4_earned (wsV RX4 111 RX4 yX4_isPolicy wsX4_isPolicy) := goodIn_app (goodIn_of _ (by decide +kernel)) ggX4_earned_X4_isPolicy
set_option maxRecDepth 20000 in
theorem ggX4_earned_X2_countedAsOf : GoodIn wsX4_earned wsX2_countedAsOf := goodIn_r _ [15, 16, 17, 18, 19, 20, 21, 22, 23, 73, 74, 75, 76, 77, 78, 79, 80, 81, 82, 83] (by decide +kernel) (by decide +kernel)
set_option maxRecDepth 20000 in
theorem gX4_earned_X2_countedAsOf_n155 : GoodIn wsX4_earned (wsX2_countedAsOf) := ggX4_earned_X2_countedAsOf
set_option maxRecDepth 20000 in
theorem ggX4_earned_X2_premiumBefore : GoodIn wsX4_earned wsX2_premiumBefore := goodIn_r _ [26, 27, 17, 18, 19, 20, 28, 29, 30, 31, 13, 32, 33, 34, 35, 36, 37, 38, 39, 40, 41, 42, 43, 44, 45, 46, 47, 48, 49, 50, 51, 52, 7, 53, 54, 55, 56, 57, 58, 59, 60, 61, 62, 63, 64, 65, 66, 67, 73, 74, 75, 76, 77, 78, 79, 80, 81, 82, 83, 84, 85, 86, 87, 88, 89] (by decide +kernel) (by decide +kernel)
set_option maxRecDepth 20000 in
theorem gX4_earned_X2_premiumBefore_n169 : GoodIn wsX4_earned (wsX2_premiumBefore) := ggX4_earned_X2_premiumBefore
theorem dX4_earned_0 : decode cX4_earned 0 = .ok (.aload_n 0, 1) := by decide +kernel
theorem dX4_earned_1 : decode cX4_earned 1 = .ok (.iload_n 1, 1) := by decide +kernel
theorem dX4_earned_2 : decode cX4_earned 2 = .ok (.invokevirtual 111, 3) := by decide +kernel
theorem dX4_earned_5 : decode cX4_earned 5 = .ok (.ifCond .ne 11, 3) := by decide +kernel
theorem dX4_earned_8 : decode cX4_earned 8 = .ok (.new 114, 3) := by decide +kernel
theorem dX4_earned_11 : decode cX4_earned 11 = .ok (.dup, 1) := by decide +kernel
theorem dX4_earned_12 : decode cX4_earned 12 = .ok (.invokespecial 116, 3) := by decide +kernel
theorem dX4_earned_15 : decode cX4_earned 15 = .ok (.athrow, 1) := by decide +kernel
theorem dX4_earned_16 : decode cX4_earned 16 = .ok (.aload_n 0, 1) := by decide +kernel
theorem dX4_earned_17 : decode cX4_earned 17 = .ok (.getfield 21, 3) := by decide +kernel
theorem dX4_earned_20 : decode cX4_earned 20 = .ok (.iload_n 1, 1) := by decide +kernel
theorem dX4_earned_21 : decode cX4_earned 21 = .ok (.iload_n 2, 1) := by decide +kernel
theorem dX4_earned_22 : decode cX4_earned 22 = .ok (.aload_n 0, 1) := by decide +kernel
theorem dX4_earned_23 : decode cX4_earned 23 = .ok (.getfield 21, 3) := by decide +kernel
theorem dX4_earned_26 : decode cX4_earned 26 = .ok (.iload_n 3, 1) := by decide +kernel
theorem dX4_earned_27 : decode cX4_earned 27 = .ok (.invokevirtual 155, 3) := by decide +kernel
theorem dX4_earned_30 : decode cX4_earned 30 = .ok (.invokevirtual 169, 3) := by decide +kernel
theorem dX4_earned_33 : decode cX4_earned 33 = .ok (.ireturn, 1) := by decide +kernel
set_option maxRecDepth 20000 in
theorem ggX4_settled_X4_isIndex : GoodIn wsX4_settled wsX4_isIndex := goodIn_r _ [7] (by decide +kernel) (by decide +kernel)
set_option maxRecDepth 20000 in
theorem gX4_settled_X4_isIndex : GoodIn wsX4_settled (va_wsS RX4 172 yX4_isIndex wsX4_isIndex) := goodIn_app (goodIn_of _ (by decide +kernel)) ggX4_settled_X4_isIndex
theorem dX4_settled_0 : decode cX4_settled 0 = .ok (.iload_n 1, 1) := by decide +kernel
theorem dX4_settled_1 : decode cX4_settled 1 = .ok (.aload_n 0, 1) := by decide +kernel
theorem dX4_settled_2 : decode cX4_settled 2 = .ok (.getfield 28, 3) := by decide +kernel
theorem dX4_settled_5 : decode cX4_settled 5 = .ok (.getfield 77, 3) := by decide +kernel
theorem dX4_settled_8 : decode cX4_settled 8 = .ok (.invokestatic 172, 3) := by decide +kernel
theorem dX4_settled_11 : decode cX4_settled 11 = .ok (.ifCond .eq 12, 3) := by decide +kernel
theorem dX4_settled_14 : decode cX4_settled 14 = .ok (.iload_n 2, 1) := by decide +kernel
theorem dX4_settled_15 : decode cX4_settled 15 = .ok (.bipush 6, 2) := by decide +kernel
theorem dX4_settled_17 : decode cX4_settled 17 = .ok (.invokestatic 172, 3) := by decide +kernel
theorem dX4_settled_20 : decode cX4_settled 20 = .ok (.ifCond .ne 11, 3) := by decide +kernel
theorem dX4_settled_23 : decode cX4_settled 23 = .ok (.new 114, 3) := by decide +kernel
theorem dX4_settled_26 : decode cX4_settled 26 = .ok (.dup, 1) := by decide +kernel
theorem dX4_settled_27 : decode cX4_settled 27 = .ok (.invokespecial 116, 3) := by decide +kernel
theorem dX4_settled_30 : decode cX4_settled 30 = .ok (.athrow, 1) := by decide +kernel
theorem dX4_settled_31 : decode cX4_settled 31 = .ok (.aload_n 0, 1) := by decide +kernel
theorem dX4_settled_32 : decode cX4_settled 32 = .ok (.getfield 28, 3) := by decide +kernel
theorem dX4_settled_35 : decode cX4_settled 35 = .ok (.getfield 175, 3) := by decide +kernel
theorem dX4_settled_38 : decode cX4_settled 38 = .ok (.iload_n 1, 1) := by decide +kernel
theorem dX4_settled_39 : decode cX4_settled 39 = .ok (.bipush 6, 2) := by decide +kernel
theorem dX4_settled_41 : decode cX4_settled 41 = .ok (.imul, 1) := by decide +kernel
theorem dX4_settled_42 : decode cX4_settled 42 = .ok (.iload_n 2, 1) := by decide +kernel
theorem dX4_settled_43 : decode cX4_settled 43 = .ok (.iadd, 1) := by decide +kernel
theorem dX4_settled_44 : decode cX4_settled 44 = .ok (.iaload, 1) := by decide +kernel
theorem dX4_settled_45 : decode cX4_settled 45 = .ok (.ireturn, 1) := by decide +kernel
set_option maxRecDepth 20000 in
theorem ggX4_posting_X4_isIndex : GoodIn wsX4_posting wsX4_isIndex := goodIn_r _ [7] (by decide +kernel) (by decide +kernel)
set_option maxRecDepth 20000 in
theorem gX4_posting_X4_isIndex : GoodIn wsX4_posting (va_wsS RX4 172 yX4_isIndex wsX4_isIndex) := goodIn_app (goodIn_of _ (by decide +kernel)) ggX4_posting_X4_isIndex
theorem dX4_posting_0 : decode cX4_posting 0 = .ok (.iload_n 1, 1) := by decide +kernel
theorem dX4_posting_1 : decode cX4_posting 1 = .ok (.aload_n 0, 1) := by decide +kernel
theorem dX4_posting_2 : decode cX4_posting 2 = .ok (.getfield 35, 3) := by decide +kernel
theorem dX4_posting_5 : decode cX4_posting 5 = .ok (.getfield 154, 3) := by decide +kernel
theorem dX4_posting_8 : decode cX4_posting 8 = .ok (.invokestatic 172, 3) := by decide +kernel
theorem dX4_posting_11 : decode cX4_posting 11 = .ok (.ifCond .eq 11, 3) := by decide +kernel
theorem dX4_posting_14 : decode cX4_posting 14 = .ok (.iload_n 2, 1) := by decide +kernel
theorem dX4_posting_15 : decode cX4_posting 15 = .ok (.iconst 3, 1) := by decide +kernel
theorem dX4_posting_16 : decode cX4_posting 16 = .ok (.invokestatic 172, 3) := by decide +kernel
theorem dX4_posting_19 : decode cX4_posting 19 = .ok (.ifCond .ne 11, 3) := by decide +kernel
theorem dX4_posting_22 : decode cX4_posting 22 = .ok (.new 114, 3) := by decide +kernel
theorem dX4_posting_25 : decode cX4_posting 25 = .ok (.dup, 1) := by decide +kernel
theorem dX4_posting_26 : decode cX4_posting 26 = .ok (.invokespecial 116, 3) := by decide +kernel
theorem dX4_posting_29 : decode cX4_posting 29 = .ok (.athrow, 1) := by decide +kernel
theorem dX4_posting_30 : decode cX4_posting 30 = .ok (.aload_n 0, 1) := by decide +kernel
theorem dX4_posting_31 : decode cX4_posting 31 = .ok (.getfield 35, 3) := by decide +kernel
theorem dX4_posting_34 : decode cX4_posting 34 = .ok (.getfield 179, 3) := by decide +kernel
theorem dX4_posting_37 : decode cX4_posting 37 = .ok (.iload_n 1, 1) := by decide +kernel
theorem dX4_posting_38 : decode cX4_posting 38 = .ok (.iconst 3, 1) := by decide +kernel
theorem dX4_posting_39 : decode cX4_posting 39 = .ok (.imul, 1) := by decide +kernel
theorem dX4_posting_40 : decode cX4_posting 40 = .ok (.iload_n 2, 1) := by decide +kernel
theorem dX4_posting_41 : decode cX4_posting 41 = .ok (.iadd, 1) := by decide +kernel
theorem dX4_posting_42 : decode cX4_posting 42 = .ok (.iaload, 1) := by decide +kernel
theorem dX4_posting_43 : decode cX4_posting 43 = .ok (.ireturn, 1) := by decide +kernel
set_option maxRecDepth 20000 in
theorem ggX4_balance_X4_isIndex : GoodIn wsX4_balance wsX4_isIndex := goodIn_r _ [7] (by decide +kernel) (by decide +kernel)
set_option maxRecDepth 20000 in
theorem gX4_balance_X4_isIndex : GoodIn wsX4_balance (va_wsS RX4 172 yX4_isIndex wsX4_isIndex) := goodIn_app (goodIn_of _ (by decide +kernel)) ggX4_balance_X4_isIndex
theorem dX4_balance_0 : decode cX4_balance 0 = .ok (.iload_n 1, 1) := by decide +kernel
theorem dX4_balance_1 : decode cX4_balance 1 = .ok (.bipush 7, 2) := by decide +kernel
theorem dX4_balance_3 : decode cX4_balance 3 = .ok (.invokestatic 172, 3) := by decide +kernel
theorem dX4_balance_6 : decode cX4_balance 6 = .ok (.ifCond .ne 11, 3) := by decide +kernel
theorem dX4_balance_9 : decode cX4_balance 9 = .ok (.new 114, 3) := by decide +kernel
theorem dX4_balance_12 : decode cX4_balance 12 = .ok (.dup, 1) := by decide +kernel
theorem dX4_balance_13 : decode cX4_balance 13 = .ok (.invokespecial 116, 3) := by decide +kernel
theorem dX4_balance_16 : decode cX4_balance 16 = .ok (.athrow, 1) := by decide +kernel
theorem dX4_balance_17 : decode cX4_balance 17 = .ok (.aload_n 0, 1) := by decide +kernel
theorem dX4_balance_18 : decode cX4_balance 18 = .ok (.getfield 35, 3) := by decide +kernel
theorem dX4_balance_21 : decode cX4_balance 21 = .ok (.getfield 180, 3) := by decide +kernel
theorem dX4_balance_24 : decode cX4_balance 24 = .ok (.iload_n 1, 1) := by decide +kernel
theorem dX4_balance_25 : decode cX4_balance 25 = .ok (.iaload, 1) := by decide +kernel
theorem dX4_balance_26 : decode cX4_balance 26 = .ok (.ireturn, 1) := by decide +kernel
theorem dX4_isPlanClosed_0 : decode cX4_isPlanClosed 0 = .ok (.aload_n 0, 1) := by decide +kernel
theorem dX4_isPlanClosed_1 : decode cX4_isPlanClosed 1 = .ok (.getfield 21, 3) := by decide +kernel
theorem dX4_isPlanClosed_4 : decode cX4_isPlanClosed 4 = .ok (.getfield 71, 3) := by decide +kernel
theorem dX4_isPlanClosed_7 : decode cX4_isPlanClosed 7 = .ok (.ifCond .le 7, 3) := by decide +kernel
theorem dX4_isPlanClosed_10 : decode cX4_isPlanClosed 10 = .ok (.iconst 1, 1) := by decide +kernel
theorem dX4_isPlanClosed_11 : decode cX4_isPlanClosed 11 = .ok (.goto 4, 3) := by decide +kernel
theorem dX4_isPlanClosed_14 : decode cX4_isPlanClosed 14 = .ok (.iconst 0, 1) := by decide +kernel
theorem dX4_isPlanClosed_15 : decode cX4_isPlanClosed 15 = .ok (.ireturn, 1) := by decide +kernel
set_option maxRecDepth 20000 in
theorem ggX4_isPlanGood_X4_isPlanClosed : GoodIn wsX4_isPlanGood wsX4_isPlanClosed := goodIn_r _ [6, 7, 25, 26, 27, 28, 29, 30, 31, 32, 33, 34, 35, 36, 37, 38, 39, 40] (by decide +kernel) (by decide +kernel)
set_option maxRecDepth 20000 in
theorem gX4_isPlanGood_X4_isPlanClosed : GoodIn wsX4_isPlanGood (wsV RX4 39 RX4 yX4_isPlanClosed wsX4_isPlanClosed) := goodIn_app (goodIn_of _ (by decide +kernel)) ggX4_isPlanGood_X4_isPlanClosed
set_option maxRecDepth 20000 in
theorem ggX4_isPlanGood_X1_firstFault : GoodIn wsX4_isPlanGood wsX1_firstFault := goodIn_r _ [11, 12, 13, 14, 9, 15, 16, 17, 18, 19, 20, 21, 22, 23, 24, 41, 42, 43, 44, 45, 46] (by decide +kernel) (by decide +kernel)
set_option maxRecDepth 20000 in
theorem gX4_isPlanGood_X1_firstFault_n67 : GoodIn wsX4_isPlanGood (wsX1_firstFault) := ggX4_isPlanGood_X1_firstFault
theorem dX4_isPlanGood_0 : decode cX4_isPlanGood 0 = .ok (.aload_n 0, 1) := by decide +kernel
theorem dX4_isPlanGood_1 : decode cX4_isPlanGood 1 = .ok (.invokevirtual 39, 3) := by decide +kernel
theorem dX4_isPlanGood_4 : decode cX4_isPlanGood 4 = .ok (.ifCond .ne 14, 3) := by decide +kernel
theorem dX4_isPlanGood_7 : decode cX4_isPlanGood 7 = .ok (.aload_n 0, 1) := by decide +kernel
theorem dX4_isPlanGood_8 : decode cX4_isPlanGood 8 = .ok (.getfield 10, 3) := by decide +kernel
theorem dX4_isPlanGood_11 : decode cX4_isPlanGood 11 = .ok (.invokevirtual 67, 3) := by decide +kernel
theorem dX4_isPlanGood_14 : decode cX4_isPlanGood 14 = .ok (.iconst (-1), 1) := by decide +kernel
theorem dX4_isPlanGood_15 : decode cX4_isPlanGood 15 = .ok (.if_icmp .ne 7, 3) := by decide +kernel
theorem dX4_isPlanGood_18 : decode cX4_isPlanGood 18 = .ok (.iconst 1, 1) := by decide +kernel
theorem dX4_isPlanGood_19 : decode cX4_isPlanGood 19 = .ok (.goto 4, 3) := by decide +kernel
theorem dX4_isPlanGood_22 : decode cX4_isPlanGood 22 = .ok (.iconst 0, 1) := by decide +kernel
theorem dX4_isPlanGood_23 : decode cX4_isPlanGood 23 = .ok (.ireturn, 1) := by decide +kernel
set_option maxRecDepth 20000 in
theorem ggX4_isPolicy_X4_isIndex : GoodIn wsX4_isPolicy wsX4_isIndex := goodIn_r _ [5] (by decide +kernel) (by decide +kernel)
set_option maxRecDepth 20000 in
theorem gX4_isPolicy_X4_isIndex : GoodIn wsX4_isPolicy (va_wsS RX4 172 yX4_isIndex wsX4_isIndex) := goodIn_app (goodIn_of _ (by decide +kernel)) ggX4_isPolicy_X4_isIndex
theorem dX4_isPolicy_0 : decode cX4_isPolicy 0 = .ok (.iload_n 1, 1) := by decide +kernel
theorem dX4_isPolicy_1 : decode cX4_isPolicy 1 = .ok (.aload_n 0, 1) := by decide +kernel
theorem dX4_isPolicy_2 : decode cX4_isPolicy 2 = .ok (.getfield 21, 3) := by decide +kernel
theorem dX4_isPolicy_5 : decode cX4_isPolicy 5 = .ok (.getfield 71, 3) := by decide +kernel
theorem dX4_isPolicy_8 : decode cX4_isPolicy 8 = .ok (.invokestatic 172, 3) := by decide +kernel
theorem dX4_isPolicy_11 : decode cX4_isPolicy 11 = .ok (.ireturn, 1) := by decide +kernel
set_option maxRecDepth 20000 in
theorem ggX4_book_X2_pencil : GoodIn wsX4_book wsX2_pencil := goodIn_r _ [5, 6, 7, 8, 9, 10, 96, 97, 98, 99, 100, 101, 102, 103, 104, 105, 106] (by decide +kernel) (by decide +kernel)
set_option maxRecDepth 20000 in
theorem gX4_book_X2_pencil_n183 : GoodIn wsX4_book (wsX2_pencil) := ggX4_book_X2_pencil
set_option maxRecDepth 20000 in
theorem ggX4_book_X4_postPremium : GoodIn wsX4_book wsX4_postPremium := goodIn_ca (goodIn_r _ [15, 16, 17, 1, 18, 19, 20, 3, 21, 22, 23, 24, 25, 26, 27, 28, 29, 30, 31, 32, 33, 34, 35, 36, 37, 6, 8, 38, 39, 40, 41, 42, 43, 44, 45, 46, 47, 9, 10, 48, 14, 49, 50, 51, 52, 53, 54, 55, 56, 57, 58, 59, 60, 61, 62, 63, 64, 65, 66, 67, 68, 69, 70, 71, 72, 73, 74, 75, 76, 77, 78, 79, 80, 81, 82, 83, 84, 85, 86, 87, 91, 92, 93, 94, 95, 96, 97, 98, 99, 100, 101, 102, 103, 104, 105, 106, 107, 108, 109, 110, 111, 112, 113, 114, 115] (by decide +kernel) (by decide +kernel)) (goodIn_sub (fun _ h => List.mem_cons_of_mem _ (List.mem_append_right _ h)) (by decide +kernel))
set_option maxRecDepth 20000 in
theorem gX4_book_X4_postPremium : GoodIn wsX4_book (wsV RX4 104 RX4 yX4_postPremium wsX4_postPremium) := goodIn_app (goodIn_of _ (by decide +kernel)) ggX4_book_X4_postPremium
set_option maxRecDepth 20000 in
theorem ggX4_book_X2_confirm : GoodIn wsX4_book wsX2_confirm := goodIn_r _ [90, 7, 96, 97, 98, 99, 100, 101, 102, 103, 104, 105, 106] (by decide +kernel) (by decide +kernel)
set_option maxRecDepth 20000 in
theorem gX4_book_X2_confirm_n186 : GoodIn wsX4_book (wsX2_confirm) := ggX4_book_X2_confirm
theorem dX4_book_0 : decode cX4_book 0 = .ok (.aload_n 0, 1) := by decide +kernel
theorem dX4_book_1 : decode cX4_book 1 = .ok (.getfield 21, 3) := by decide +kernel
theorem dX4_book_4 : decode cX4_book 4 = .ok (.iload_n 1, 1) := by decide +kernel
theorem dX4_book_5 : decode cX4_book 5 = .ok (.iload_n 2, 1) := by decide +kernel
theorem dX4_book_6 : decode cX4_book 6 = .ok (.iload_n 3, 1) := by decide +kernel
theorem dX4_book_7 : decode cX4_book 7 = .ok (.iload 4, 2) := by decide +kernel
theorem dX4_book_9 : decode cX4_book 9 = .ok (.invokevirtual 183, 3) := by decide +kernel
theorem dX4_book_12 : decode cX4_book 12 = .ok (.aload_n 0, 1) := by decide +kernel
theorem dX4_book_13 : decode cX4_book 13 = .ok (.iload_n 1, 1) := by decide +kernel
theorem dX4_book_14 : decode cX4_book 14 = .ok (.iload 5, 2) := by decide +kernel
theorem dX4_book_16 : decode cX4_book 16 = .ok (.invokevirtual 104, 3) := by decide +kernel
theorem dX4_book_19 : decode cX4_book 19 = .ok (.aload_n 0, 1) := by decide +kernel
theorem dX4_book_20 : decode cX4_book 20 = .ok (.getfield 21, 3) := by decide +kernel
theorem dX4_book_23 : decode cX4_book 23 = .ok (.invokevirtual 186, 3) := by decide +kernel
theorem dX4_book_26 : decode cX4_book 26 = .ok (.ireturn, 1) := by decide +kernel
set_option maxRecDepth 20000 in
theorem ggX4_postPremium_X2_premiumBefore : GoodIn wsX4_postPremium wsX2_premiumBefore := goodIn_r _ [9, 10, 11, 12, 13, 14, 15, 16, 17, 18, 7, 19, 20, 21, 22, 23, 24, 25, 26, 27, 28, 29, 30, 31, 32, 33, 34, 35, 36, 37, 38, 39, 40, 41, 42, 43, 44, 45, 46, 47, 48, 49, 50, 51, 52, 53, 54, 55, 85, 86, 87, 88, 89, 90, 91, 92, 93, 94, 95, 96, 97, 98, 99, 100, 101] (by decide +kernel) (by decide +kernel)
set_option maxRecDepth 20000 in
theorem gX4_postPremium_X2_premiumBefore_n169 : GoodIn wsX4_postPremium (wsX2_premiumBefore) := ggX4_postPremium_X2_premiumBefore
set_option maxRecDepth 20000 in
theorem ggX4_postPremium_X4_percentOf : GoodIn wsX4_postPremium wsX4_percentOf := goodIn_r _ [58, 59, 60, 61, 62] (by decide +kernel) (by decide +kernel)
set_option maxRecDepth 20000 in
theorem gX4_postPremium_X4_percentOf : GoodIn wsX4_postPremium (va_wsS RX4 131 yX4_percentOf wsX4_percentOf) := goodIn_app (goodIn_of _ (by decide +kernel)) ggX4_postPremium_X4_percentOf
set_option maxRecDepth 20000 in
theorem ggX4_postPremium_X0_hasRoomFor : GoodIn wsX4_postPremium wsX0_hasRoomFor := goodIn_r _ [66, 67, 68, 69, 64, 70, 102, 103, 104] (by decide +kernel) (by decide +kernel)
set_option maxRecDepth 20000 in
theorem gX4_postPremium_X0_hasRoomFor_n189 : GoodIn wsX4_postPremium (wsX0_hasRoomFor) := ggX4_postPremium_X0_hasRoomFor
set_option maxRecDepth 20000 in
theorem ggX4_postPremium_X0_post : GoodIn wsX4_postPremium wsX0_post := goodIn_r _ [73, 74, 75, 76, 64, 77, 67, 78, 79, 102, 103, 104] (by decide +kernel) (by decide +kernel)
set_option maxRecDepth 20000 in
theorem gX4_postPremium_X0_post_n195 : GoodIn wsX4_postPremium (wsX0_post) := ggX4_postPremium_X0_post
theorem dX4_postPremium_0 : decode cX4_postPremium 0 = .ok (.aload_n 0, 1) := by decide +kernel
theorem dX4_postPremium_1 : decode cX4_postPremium 1 = .ok (.getfield 21, 3) := by decide +kernel
theorem dX4_postPremium_4 : decode cX4_postPremium 4 = .ok (.getfield 151, 3) := by decide +kernel
theorem dX4_postPremium_7 : decode cX4_postPremium 7 = .ok (.istore_n 3, 1) := by decide +kernel
theorem dX4_postPremium_8 : decode cX4_postPremium 8 = .ok (.aload_n 0, 1) := by decide +kernel
theorem dX4_postPremium_9 : decode cX4_postPremium 9 = .ok (.getfield 21, 3) := by decide +kernel
theorem dX4_postPremium_12 : decode cX4_postPremium 12 = .ok (.iload_n 1, 1) := by decide +kernel
theorem dX4_postPremium_13 : decode cX4_postPremium 13 = .ok (.sipush 1000, 3) := by decide +kernel
theorem dX4_postPremium_16 : decode cX4_postPremium 16 = .ok (.iload_n 3, 1) := by decide +kernel
theorem dX4_postPremium_17 : decode cX4_postPremium 17 = .ok (.iconst 1, 1) := by decide +kernel
theorem dX4_postPremium_18 : decode cX4_postPremium 18 = .ok (.iadd, 1) := by decide +kernel
theorem dX4_postPremium_19 : decode cX4_postPremium 19 = .ok (.invokevirtual 169, 3) := by decide +kernel
theorem dX4_postPremium_22 : decode cX4_postPremium 22 = .ok (.aload_n 0, 1) := by decide +kernel
theorem dX4_postPremium_23 : decode cX4_postPremium 23 = .ok (.getfield 21, 3) := by decide +kernel
theorem dX4_postPremium_26 : decode cX4_postPremium 26 = .ok (.iload_n 1, 1) := by decide +kernel
theorem dX4_postPremium_27 : decode cX4_postPremium 27 = .ok (.sipush 1000, 3) := by decide +kernel
theorem dX4_postPremium_30 : decode cX4_postPremium 30 = .ok (.iload_n 3, 1) := by decide +kernel
theorem dX4_postPremium_31 : decode cX4_postPremium 31 = .ok (.invokevirtual 169, 3) := by decide +kernel
theorem dX4_postPremium_34 : decode cX4_postPremium 34 = .ok (.isub, 1) := by decide +kernel
theorem dX4_postPremium_35 : decode cX4_postPremium 35 = .ok (.istore 4, 2) := by decide +kernel
theorem dX4_postPremium_37 : decode cX4_postPremium 37 = .ok (.iload 4, 2) := by decide +kernel
theorem dX4_postPremium_39 : decode cX4_postPremium 39 = .ok (.aload_n 0, 1) := by decide +kernel
theorem dX4_postPremium_40 : decode cX4_postPremium 40 = .ok (.getfield 74, 3) := by decide +kernel
theorem dX4_postPremium_43 : decode cX4_postPremium 43 = .ok (.invokestatic 131, 3) := by decide +kernel
theorem dX4_postPremium_46 : decode cX4_postPremium 46 = .ok (.istore 5, 2) := by decide +kernel
theorem dX4_postPremium_48 : decode cX4_postPremium 48 = .ok (.iload_n 2, 1) := by decide +kernel
theorem dX4_postPremium_49 : decode cX4_postPremium 49 = .ok (.ifCond .eq 17, 3) := by decide +kernel
theorem dX4_postPremium_52 : decode cX4_postPremium 52 = .ok (.iload 4, 2) := by decide +kernel
theorem dX4_postPremium_54 : decode cX4_postPremium 54 = .ok (.ifCond .ge 12, 3) := by decide +kernel
theorem dX4_postPremium_57 : decode cX4_postPremium 57 = .ok (.iload 4, 2) := by decide +kernel
theorem dX4_postPremium_59 : decode cX4_postPremium 59 = .ok (.ineg, 1) := by decide +kernel
theorem dX4_postPremium_60 : decode cX4_postPremium 60 = .ok (.bipush 10, 2) := by decide +kernel
theorem dX4_postPremium_62 : decode cX4_postPremium 62 = .ok (.idiv, 1) := by decide +kernel
theorem dX4_postPremium_63 : decode cX4_postPremium 63 = .ok (.goto 4, 3) := by decide +kernel
theorem dX4_postPremium_66 : decode cX4_postPremium 66 = .ok (.iconst 0, 1) := by decide +kernel
theorem dX4_postPremium_67 : decode cX4_postPremium 67 = .ok (.istore 6, 2) := by decide +kernel
theorem dX4_postPremium_69 : decode cX4_postPremium 69 = .ok (.aload_n 0, 1) := by decide +kernel
theorem dX4_postPremium_70 : decode cX4_postPremium 70 = .ok (.getfield 35, 3) := by decide +kernel
theorem dX4_postPremium_73 : decode cX4_postPremium 73 = .ok (.iload 4, 2) := by decide +kernel
theorem dX4_postPremium_75 : decode cX4_postPremium 75 = .ok (.iload 5, 2) := by decide +kernel
theorem dX4_postPremium_77 : decode cX4_postPremium 77 = .ok (.iload 6, 2) := by decide +kernel
theorem dX4_postPremium_79 : decode cX4_postPremium 79 = .ok (.invokevirtual 189, 3) := by decide +kernel
theorem dX4_postPremium_82 : decode cX4_postPremium 82 = .ok (.ifCond .ne 11, 3) := by decide +kernel
theorem dX4_postPremium_85 : decode cX4_postPremium 85 = .ok (.new 192, 3) := by decide +kernel
theorem dX4_postPremium_88 : decode cX4_postPremium 88 = .ok (.dup, 1) := by decide +kernel
theorem dX4_postPremium_89 : decode cX4_postPremium 89 = .ok (.invokespecial 194, 3) := by decide +kernel
theorem dX4_postPremium_92 : decode cX4_postPremium 92 = .ok (.athrow, 1) := by decide +kernel
theorem dX4_postPremium_93 : decode cX4_postPremium 93 = .ok (.aload_n 0, 1) := by decide +kernel
theorem dX4_postPremium_94 : decode cX4_postPremium 94 = .ok (.getfield 35, 3) := by decide +kernel
theorem dX4_postPremium_97 : decode cX4_postPremium 97 = .ok (.iload 4, 2) := by decide +kernel
theorem dX4_postPremium_99 : decode cX4_postPremium 99 = .ok (.iconst 0, 1) := by decide +kernel
theorem dX4_postPremium_100 : decode cX4_postPremium 100 = .ok (.iconst 1, 1) := by decide +kernel
theorem dX4_postPremium_101 : decode cX4_postPremium 101 = .ok (.invokevirtual 195, 3) := by decide +kernel
theorem dX4_postPremium_104 : decode cX4_postPremium 104 = .ok (.aload_n 0, 1) := by decide +kernel
theorem dX4_postPremium_105 : decode cX4_postPremium 105 = .ok (.getfield 35, 3) := by decide +kernel
theorem dX4_postPremium_108 : decode cX4_postPremium 108 = .ok (.iload 5, 2) := by decide +kernel
theorem dX4_postPremium_110 : decode cX4_postPremium 110 = .ok (.iconst 3, 1) := by decide +kernel
theorem dX4_postPremium_111 : decode cX4_postPremium 111 = .ok (.iconst 2, 1) := by decide +kernel
theorem dX4_postPremium_112 : decode cX4_postPremium 112 = .ok (.invokevirtual 195, 3) := by decide +kernel
theorem dX4_postPremium_115 : decode cX4_postPremium 115 = .ok (.aload_n 0, 1) := by decide +kernel
theorem dX4_postPremium_116 : decode cX4_postPremium 116 = .ok (.getfield 35, 3) := by decide +kernel
theorem dX4_postPremium_119 : decode cX4_postPremium 119 = .ok (.iload 6, 2) := by decide +kernel
theorem dX4_postPremium_121 : decode cX4_postPremium 121 = .ok (.bipush 6, 2) := by decide +kernel
theorem dX4_postPremium_123 : decode cX4_postPremium 123 = .ok (.iconst 1, 1) := by decide +kernel
theorem dX4_postPremium_124 : decode cX4_postPremium 124 = .ok (.invokevirtual 195, 3) := by decide +kernel
theorem dX4_postPremium_127 : decode cX4_postPremium 127 = .ok (.return_, 1) := by decide +kernel
set_option maxRecDepth 20000 in
theorem ggX4_postClaim_X0_hasRoomFor : GoodIn wsX4_postClaim wsX0_hasRoomFor := goodIn_r _ [7, 8, 9, 10, 5, 11, 26, 27, 28] (by decide +kernel) (by decide +kernel)
set_option maxRecDepth 20000 in
theorem gX4_postClaim_X0_hasRoomFor_n189 : GoodIn wsX4_postClaim (wsX0_hasRoomFor) := ggX4_postClaim_X0_hasRoomFor
set_option maxRecDepth 20000 in
theorem ggX4_postClaim_X0_post : GoodIn wsX4_postClaim wsX0_post := goodIn_r _ [14, 15, 16, 17, 5, 18, 8, 19, 20, 26, 27, 28] (by decide +kernel) (by decide +kernel)
set_option maxRecDepth 20000 in
theorem gX4_postClaim_X0_post_n195 : GoodIn wsX4_postClaim (wsX0_post) := ggX4_postClaim_X0_post
theorem dX4_postClaim_0 : decode cX4_postClaim 0 = .ok (.aload_n 0, 1) := by decide +kernel
theorem dX4_postClaim_1 : decode cX4_postClaim 1 = .ok (.getfield 35, 3) := by decide +kernel
theorem dX4_postClaim_4 : decode cX4_postClaim 4 = .ok (.iload_n 1, 1) := by decide +kernel
theorem dX4_postClaim_5 : decode cX4_postClaim 5 = .ok (.iload_n 2, 1) := by decide +kernel
theorem dX4_postClaim_6 : decode cX4_postClaim 6 = .ok (.iload_n 3, 1) := by decide +kernel
theorem dX4_postClaim_7 : decode cX4_postClaim 7 = .ok (.invokevirtual 189, 3) := by decide +kernel
theorem dX4_postClaim_10 : decode cX4_postClaim 10 = .ok (.ifCond .ne 11, 3) := by decide +kernel
theorem dX4_postClaim_13 : decode cX4_postClaim 13 = .ok (.new 192, 3) := by decide +kernel
theorem dX4_postClaim_16 : decode cX4_postClaim 16 = .ok (.dup, 1) := by decide +kernel
theorem dX4_postClaim_17 : decode cX4_postClaim 17 = .ok (.invokespecial 194, 3) := by decide +kernel
theorem dX4_postClaim_20 : decode cX4_postClaim 20 = .ok (.athrow, 1) := by decide +kernel
theorem dX4_postClaim_21 : decode cX4_postClaim 21 = .ok (.aload_n 0, 1) := by decide +kernel
theorem dX4_postClaim_22 : decode cX4_postClaim 22 = .ok (.getfield 35, 3) := by decide +kernel
theorem dX4_postClaim_25 : decode cX4_postClaim 25 = .ok (.iload_n 1, 1) := by decide +kernel
theorem dX4_postClaim_26 : decode cX4_postClaim 26 = .ok (.iconst 1, 1) := by decide +kernel
theorem dX4_postClaim_27 : decode cX4_postClaim 27 = .ok (.iconst 4, 1) := by decide +kernel
theorem dX4_postClaim_28 : decode cX4_postClaim 28 = .ok (.invokevirtual 195, 3) := by decide +kernel
theorem dX4_postClaim_31 : decode cX4_postClaim 31 = .ok (.aload_n 0, 1) := by decide +kernel
theorem dX4_postClaim_32 : decode cX4_postClaim 32 = .ok (.getfield 35, 3) := by decide +kernel
theorem dX4_postClaim_35 : decode cX4_postClaim 35 = .ok (.iload_n 2, 1) := by decide +kernel
theorem dX4_postClaim_36 : decode cX4_postClaim 36 = .ok (.iconst 5, 1) := by decide +kernel
theorem dX4_postClaim_37 : decode cX4_postClaim 37 = .ok (.iconst 3, 1) := by decide +kernel
theorem dX4_postClaim_38 : decode cX4_postClaim 38 = .ok (.invokevirtual 195, 3) := by decide +kernel
theorem dX4_postClaim_41 : decode cX4_postClaim 41 = .ok (.aload_n 0, 1) := by decide +kernel
theorem dX4_postClaim_42 : decode cX4_postClaim 42 = .ok (.getfield 35, 3) := by decide +kernel
theorem dX4_postClaim_45 : decode cX4_postClaim 45 = .ok (.iload_n 3, 1) := by decide +kernel
theorem dX4_postClaim_46 : decode cX4_postClaim 46 = .ok (.iconst 3, 1) := by decide +kernel
theorem dX4_postClaim_47 : decode cX4_postClaim 47 = .ok (.iconst 2, 1) := by decide +kernel
theorem dX4_postClaim_48 : decode cX4_postClaim 48 = .ok (.invokevirtual 195, 3) := by decide +kernel
theorem dX4_postClaim_51 : decode cX4_postClaim 51 = .ok (.return_, 1) := by decide +kernel
set_option maxRecDepth 20000 in
theorem ggX4_percentOf_J9_floorDiv_7cf53 : GoodIn wsX4_percentOf wsJ9_floorDiv_7cf53 := goodIn_r _ [4] (by decide +kernel) (by decide +kernel)
set_option maxRecDepth 20000 in
theorem gX4_percentOf_J9_floorDiv_7cf53 : GoodIn wsX4_percentOf (va_wsS RX4 198 yJ9_floorDiv_7cf53 wsJ9_floorDiv_7cf53) := goodIn_app (goodIn_of _ (by decide +kernel)) ggX4_percentOf_J9_floorDiv_7cf53
theorem dX4_percentOf_0 : decode cX4_percentOf 0 = .ok (.iload_n 0, 1) := by decide +kernel
theorem dX4_percentOf_1 : decode cX4_percentOf 1 = .ok (.iload_n 1, 1) := by decide +kernel
theorem dX4_percentOf_2 : decode cX4_percentOf 2 = .ok (.imul, 1) := by decide +kernel
theorem dX4_percentOf_3 : decode cX4_percentOf 3 = .ok (.bipush 100, 2) := by decide +kernel
theorem dX4_percentOf_5 : decode cX4_percentOf 5 = .ok (.invokestatic 198, 3) := by decide +kernel
theorem dX4_percentOf_8 : decode cX4_percentOf 8 = .ok (.ireturn, 1) := by decide +kernel
theorem dX4_isWithin_0 : decode cX4_isWithin 0 = .ok (.iload_n 0, 1) := by decide +kernel
theorem dX4_isWithin_1 : decode cX4_isWithin 1 = .ok (.iload_n 1, 1) := by decide +kernel
theorem dX4_isWithin_2 : decode cX4_isWithin 2 = .ok (.if_icmp .gt 12, 3) := by decide +kernel
theorem dX4_isWithin_5 : decode cX4_isWithin 5 = .ok (.iload_n 1, 1) := by decide +kernel
theorem dX4_isWithin_6 : decode cX4_isWithin 6 = .ok (.iload_n 2, 1) := by decide +kernel
theorem dX4_isWithin_7 : decode cX4_isWithin 7 = .ok (.if_icmp .gt 7, 3) := by decide +kernel
theorem dX4_isWithin_10 : decode cX4_isWithin 10 = .ok (.iconst 1, 1) := by decide +kernel
theorem dX4_isWithin_11 : decode cX4_isWithin 11 = .ok (.goto 4, 3) := by decide +kernel
theorem dX4_isWithin_14 : decode cX4_isWithin 14 = .ok (.iconst 0, 1) := by decide +kernel
theorem dX4_isWithin_15 : decode cX4_isWithin 15 = .ok (.ireturn, 1) := by decide +kernel
theorem dX4_isSpan_0 : decode cX4_isSpan 0 = .ok (.iconst 0, 1) := by decide +kernel
theorem dX4_isSpan_1 : decode cX4_isSpan 1 = .ok (.iload_n 0, 1) := by decide +kernel
theorem dX4_isSpan_2 : decode cX4_isSpan 2 = .ok (.if_icmp .gt 17, 3) := by decide +kernel
theorem dX4_isSpan_5 : decode cX4_isSpan 5 = .ok (.iload_n 0, 1) := by decide +kernel
theorem dX4_isSpan_6 : decode cX4_isSpan 6 = .ok (.iload_n 1, 1) := by decide +kernel
theorem dX4_isSpan_7 : decode cX4_isSpan 7 = .ok (.if_icmp .gt 12, 3) := by decide +kernel
theorem dX4_isSpan_10 : decode cX4_isSpan 10 = .ok (.iload_n 1, 1) := by decide +kernel
theorem dX4_isSpan_11 : decode cX4_isSpan 11 = .ok (.iload_n 2, 1) := by decide +kernel
theorem dX4_isSpan_12 : decode cX4_isSpan 12 = .ok (.if_icmp .gt 7, 3) := by decide +kernel
theorem dX4_isSpan_15 : decode cX4_isSpan 15 = .ok (.iconst 1, 1) := by decide +kernel
theorem dX4_isSpan_16 : decode cX4_isSpan 16 = .ok (.goto 4, 3) := by decide +kernel
theorem dX4_isSpan_19 : decode cX4_isSpan 19 = .ok (.iconst 0, 1) := by decide +kernel
theorem dX4_isSpan_20 : decode cX4_isSpan 20 = .ok (.ireturn, 1) := by decide +kernel
theorem dX4_isIndex_0 : decode cX4_isIndex 0 = .ok (.iconst 0, 1) := by decide +kernel
theorem dX4_isIndex_1 : decode cX4_isIndex 1 = .ok (.iload_n 0, 1) := by decide +kernel
theorem dX4_isIndex_2 : decode cX4_isIndex 2 = .ok (.if_icmp .gt 12, 3) := by decide +kernel
theorem dX4_isIndex_5 : decode cX4_isIndex 5 = .ok (.iload_n 0, 1) := by decide +kernel
theorem dX4_isIndex_6 : decode cX4_isIndex 6 = .ok (.iload_n 1, 1) := by decide +kernel
theorem dX4_isIndex_7 : decode cX4_isIndex 7 = .ok (.if_icmp .ge 7, 3) := by decide +kernel
theorem dX4_isIndex_10 : decode cX4_isIndex 10 = .ok (.iconst 1, 1) := by decide +kernel
theorem dX4_isIndex_11 : decode cX4_isIndex 11 = .ok (.goto 4, 3) := by decide +kernel
theorem dX4_isIndex_14 : decode cX4_isIndex 14 = .ok (.iconst 0, 1) := by decide +kernel
theorem dX4_isIndex_15 : decode cX4_isIndex 15 = .ok (.ireturn, 1) := by decide +kernel
set_option maxRecDepth 20000 in
theorem ggX4_isDay_X4_isIndex : GoodIn wsX4_isDay wsX4_isIndex := goodIn_r _ [4] (by decide +kernel) (by decide +kernel)
set_option maxRecDepth 20000 in
theorem gX4_isDay_X4_isIndex : GoodIn wsX4_isDay (va_wsS RX4 172 yX4_isIndex wsX4_isIndex) := goodIn_app (goodIn_of _ (by decide +kernel)) ggX4_isDay_X4_isIndex
theorem dX4_isDay_0 : decode cX4_isDay 0 = .ok (.iload_n 0, 1) := by decide +kernel
theorem dX4_isDay_1 : decode cX4_isDay 1 = .ok (.sipush 1000, 3) := by decide +kernel
theorem dX4_isDay_4 : decode cX4_isDay 4 = .ok (.invokestatic 172, 3) := by decide +kernel
theorem dX4_isDay_7 : decode cX4_isDay 7 = .ok (.ireturn, 1) := by decide +kernel
set_option maxRecDepth 20000 in
theorem ggX4_isValueOf_X4_isWithin : GoodIn wsX4_isValueOf wsX4_isWithin := goodIn_r _ [4] (by decide +kernel) (by decide +kernel)
set_option maxRecDepth 20000 in
theorem gX4_isValueOf_X4_isWithin : GoodIn wsX4_isValueOf (va_wsS RX4 54 yX4_isWithin wsX4_isWithin) := goodIn_app (goodIn_of _ (by decide +kernel)) ggX4_isValueOf_X4_isWithin
theorem dX4_isValueOf_0 : decode cX4_isValueOf 0 = .ok (.iload_n 0, 1) := by decide +kernel
theorem dX4_isValueOf_1 : decode cX4_isValueOf 1 = .ok (.tableswitch 52 0 2 #[27, 35, 43], 27) := by decide +kernel
theorem dX4_isValueOf_28 : decode cX4_isValueOf 28 = .ok (.iconst 0, 1) := by decide +kernel
theorem dX4_isValueOf_29 : decode cX4_isValueOf 29 = .ok (.iload_n 1, 1) := by decide +kernel
theorem dX4_isValueOf_30 : decode cX4_isValueOf 30 = .ok (.bipush 49, 2) := by decide +kernel
theorem dX4_isValueOf_32 : decode cX4_isValueOf 32 = .ok (.invokestatic 54, 3) := by decide +kernel
theorem dX4_isValueOf_35 : decode cX4_isValueOf 35 = .ok (.ireturn, 1) := by decide +kernel
theorem dX4_isValueOf_36 : decode cX4_isValueOf 36 = .ok (.iconst 0, 1) := by decide +kernel
theorem dX4_isValueOf_37 : decode cX4_isValueOf 37 = .ok (.iload_n 1, 1) := by decide +kernel
theorem dX4_isValueOf_38 : decode cX4_isValueOf 38 = .ok (.bipush 9, 2) := by decide +kernel
theorem dX4_isValueOf_40 : decode cX4_isValueOf 40 = .ok (.invokestatic 54, 3) := by decide +kernel
theorem dX4_isValueOf_43 : decode cX4_isValueOf 43 = .ok (.ireturn, 1) := by decide +kernel
theorem dX4_isValueOf_44 : decode cX4_isValueOf 44 = .ok (.iconst 1, 1) := by decide +kernel
theorem dX4_isValueOf_45 : decode cX4_isValueOf 45 = .ok (.iload_n 1, 1) := by decide +kernel
theorem dX4_isValueOf_46 : decode cX4_isValueOf 46 = .ok (.sipush 999, 3) := by decide +kernel
theorem dX4_isValueOf_49 : decode cX4_isValueOf 49 = .ok (.invokestatic 54, 3) := by decide +kernel
theorem dX4_isValueOf_52 : decode cX4_isValueOf 52 = .ok (.ireturn, 1) := by decide +kernel
theorem dX4_isValueOf_53 : decode cX4_isValueOf 53 = .ok (.iconst 0, 1) := by decide +kernel
theorem dX4_isValueOf_54 : decode cX4_isValueOf 54 = .ok (.ireturn, 1) := by decide +kernel
theorem dX5_init_0 : decode cX5_init 0 = .ok (.aload_n 0, 1) := by decide +kernel
theorem dX5_init_1 : decode cX5_init 1 = .ok (.invokespecial 1, 3) := by decide +kernel
theorem dX5_init_4 : decode cX5_init 4 = .ok (.aload_n 0, 1) := by decide +kernel
theorem dX5_init_5 : decode cX5_init 5 = .ok (.bipush 40, 2) := by decide +kernel
theorem dX5_init_7 : decode cX5_init 7 = .ok (.newarray .int, 2) := by decide +kernel
theorem dX5_init_9 : decode cX5_init 9 = .ok (.putfield 7, 3) := by decide +kernel
theorem dX5_init_12 : decode cX5_init 12 = .ok (.aload_n 0, 1) := by decide +kernel
theorem dX5_init_13 : decode cX5_init 13 = .ok (.bipush 6, 2) := by decide +kernel
theorem dX5_init_15 : decode cX5_init 15 = .ok (.newarray .int, 2) := by decide +kernel
theorem dX5_init_17 : decode cX5_init 17 = .ok (.putfield 13, 3) := by decide +kernel
theorem dX5_init_20 : decode cX5_init 20 = .ok (.aload_n 0, 1) := by decide +kernel
theorem dX5_init_21 : decode cX5_init 21 = .ok (.bipush 6, 2) := by decide +kernel
theorem dX5_init_23 : decode cX5_init 23 = .ok (.newarray .int, 2) := by decide +kernel
theorem dX5_init_25 : decode cX5_init 25 = .ok (.putfield 16, 3) := by decide +kernel
theorem dX5_init_28 : decode cX5_init 28 = .ok (.aload_n 0, 1) := by decide +kernel
theorem dX5_init_29 : decode cX5_init 29 = .ok (.bipush 40, 2) := by decide +kernel
theorem dX5_init_31 : decode cX5_init 31 = .ok (.newarray .int, 2) := by decide +kernel
theorem dX5_init_33 : decode cX5_init 33 = .ok (.putfield 19, 3) := by decide +kernel
theorem dX5_init_36 : decode cX5_init 36 = .ok (.aload_n 0, 1) := by decide +kernel
theorem dX5_init_37 : decode cX5_init 37 = .ok (.bipush 40, 2) := by decide +kernel
theorem dX5_init_39 : decode cX5_init 39 = .ok (.newarray .int, 2) := by decide +kernel
theorem dX5_init_41 : decode cX5_init 41 = .ok (.putfield 22, 3) := by decide +kernel
theorem dX5_init_44 : decode cX5_init 44 = .ok (.aload_n 0, 1) := by decide +kernel
theorem dX5_init_45 : decode cX5_init 45 = .ok (.bipush 40, 2) := by decide +kernel
theorem dX5_init_47 : decode cX5_init 47 = .ok (.newarray .int, 2) := by decide +kernel
theorem dX5_init_49 : decode cX5_init 49 = .ok (.putfield 25, 3) := by decide +kernel
theorem dX5_init_52 : decode cX5_init 52 = .ok (.aload_n 0, 1) := by decide +kernel
