theorem dX5_cancel_0 : decode cX5_cancel 0 = .ok (.aload_n 0, 1) := by decide +kernel
theorem dX5_cancel_1 : decode cX5_cancel 1 = .ok (.iconst 2, 1) := by decide +kernel
theorem dX5_cancel_2 : decode cX5_cancel 2 = .ok (.iload_n 1, 1) := by decide +kernel
theorem dX5_cancel_3 : decode cX5_cancel 3 = .ok (.iload_n 2, 1) := by decide +kernel
theorem dX5_cancel_4 : decode cX5_cancel 4 = .ok (.iload_n 3, 1) := by decide +kernel
theorem dX5_cancel_5 : decode cX5_cancel 5 = .ok (.invokevirtual 180, 3) := by decide +kernel
theorem dX5_cancel_8 : decode cX5_cancel 8 = .ok (.ireturn, 1) := by decide +kernel
set_option maxRecDepth 20000 in
theorem ggX5_reinstate_X5_turns : GoodIn wsX5_reinstate wsX5_turns := goodIn_r _ [5, 6, 7, 8, 9, 4, 10, 11, 12, 13, 14, 15, 16, 17, 18, 19, 20, 21, 22, 23, 24, 25, 26, 27, 28, 29, 30, 31, 32, 33, 34, 35, 36, 37, 38, 39, 40, 41, 42, 43, 44, 45, 46, 47, 48, 49, 50, 51, 52, 53, 54, 55, 56, 57, 58, 59, 60, 61, 62, 63, 64, 65, 66, 67, 68, 69, 70, 71, 72, 73, 74, 75, 76, 77, 78, 79, 80, 81, 82, 83, 84, 85, 86, 87, 88, 89, 90, 91, 92, 93, 94, 95, 96, 97, 98, 99, 100, 101, 102, 103, 104, 105, 106, 107, 108, 109, 110, 111, 112, 113, 114, 115, 116, 117, 118, 119, 120, 121, 122, 123, 124, 125, 126] (by decide +kernel) (by decide +kernel)
set_option maxRecDepth 20000 in
theorem gX5_reinstate_X5_turns : GoodIn wsX5_reinstate (wsV RX5 180 RX5 yX5_turns wsX5_turns) := goodIn_app (goodIn_of _ (by decide +kernel)) ggX5_reinstate_X5_turns
theorem dX5_reinstate_0 : decode cX5_reinstate 0 = .ok (.aload_n 0, 1) := by decide +kernel
theorem dX5_reinstate_1 : decode cX5_reinstate 1 = .ok (.iconst 3, 1) := by decide +kernel
theorem dX5_reinstate_2 : decode cX5_reinstate 2 = .ok (.iload_n 1, 1) := by decide +kernel
theorem dX5_reinstate_3 : decode cX5_reinstate 3 = .ok (.iload_n 2, 1) := by decide +kernel
theorem dX5_reinstate_4 : decode cX5_reinstate 4 = .ok (.iconst 0, 1) := by decide +kernel
theorem dX5_reinstate_5 : decode cX5_reinstate 5 = .ok (.invokevirtual 180, 3) := by decide +kernel
theorem dX5_reinstate_8 : decode cX5_reinstate 8 = .ok (.ireturn, 1) := by decide +kernel
theorem dX5_before_0 : decode cX5_before 0 = .ok (.iconst 0, 1) := by decide +kernel
theorem dX5_before_1 : decode cX5_before 1 = .ok (.istore_n 3, 1) := by decide +kernel
theorem dX5_before_2 : decode cX5_before 2 = .ok (.iconst 0, 1) := by decide +kernel
theorem dX5_before_3 : decode cX5_before 3 = .ok (.istore 4, 2) := by decide +kernel
theorem dX5_before_5 : decode cX5_before 5 = .ok (.iload 4, 2) := by decide +kernel
theorem dX5_before_7 : decode cX5_before 7 = .ok (.aload_n 0, 1) := by decide +kernel
theorem dX5_before_8 : decode cX5_before 8 = .ok (.getfield 95, 3) := by decide +kernel
theorem dX5_before_11 : decode cX5_before 11 = .ok (.if_icmp .ge 46, 3) := by decide +kernel
theorem dX5_before_14 : decode cX5_before 14 = .ok (.iload_n 3, 1) := by decide +kernel
theorem dX5_before_15 : decode cX5_before 15 = .ok (.iload_n 1, 1) := by decide +kernel
theorem dX5_before_16 : decode cX5_before 16 = .ok (.ifCond .lt 17, 3) := by decide +kernel
theorem dX5_before_19 : decode cX5_before 19 = .ok (.aload_n 0, 1) := by decide +kernel
theorem dX5_before_20 : decode cX5_before 20 = .ok (.getfield 65, 3) := by decide +kernel
theorem dX5_before_23 : decode cX5_before 23 = .ok (.bipush 6, 2) := by decide +kernel
theorem dX5_before_25 : decode cX5_before 25 = .ok (.iload 4, 2) := by decide +kernel
theorem dX5_before_27 : decode cX5_before 27 = .ok (.imul, 1) := by decide +kernel
theorem dX5_before_28 : decode cX5_before 28 = .ok (.iaload, 1) := by decide +kernel
theorem dX5_before_29 : decode cX5_before 29 = .ok (.iload_n 1, 1) := by decide +kernel
theorem dX5_before_30 : decode cX5_before 30 = .ok (.if_icmp .ne 18, 3) := by decide +kernel
theorem dX5_before_33 : decode cX5_before 33 = .ok (.aload_n 0, 1) := by decide +kernel
theorem dX5_before_34 : decode cX5_before 34 = .ok (.getfield 65, 3) := by decide +kernel
theorem dX5_before_37 : decode cX5_before 37 = .ok (.bipush 6, 2) := by decide +kernel
theorem dX5_before_39 : decode cX5_before 39 = .ok (.iload 4, 2) := by decide +kernel
theorem dX5_before_41 : decode cX5_before 41 = .ok (.imul, 1) := by decide +kernel
theorem dX5_before_42 : decode cX5_before 42 = .ok (.iload_n 2, 1) := by decide +kernel
theorem dX5_before_43 : decode cX5_before 43 = .ok (.iadd, 1) := by decide +kernel
theorem dX5_before_44 : decode cX5_before 44 = .ok (.iaload, 1) := by decide +kernel
theorem dX5_before_45 : decode cX5_before 45 = .ok (.goto 4, 3) := by decide +kernel
theorem dX5_before_48 : decode cX5_before 48 = .ok (.iconst 0, 1) := by decide +kernel
theorem dX5_before_49 : decode cX5_before 49 = .ok (.iadd, 1) := by decide +kernel
theorem dX5_before_50 : decode cX5_before 50 = .ok (.istore_n 3, 1) := by decide +kernel
theorem dX5_before_51 : decode cX5_before 51 = .ok (.iinc 4 1, 3) := by decide +kernel
theorem dX5_before_54 : decode cX5_before 54 = .ok (.goto (-49), 3) := by decide +kernel
theorem dX5_before_57 : decode cX5_before 57 = .ok (.iload_n 3, 1) := by decide +kernel
theorem dX5_before_58 : decode cX5_before 58 = .ok (.ireturn, 1) := by decide +kernel
set_option maxRecDepth 20000 in
theorem ggX5_claim_X5_isPolicy : GoodIn wsX5_claim wsX5_isPolicy := goodIn_r _ [17, 18, 72, 73, 74, 75, 76, 77, 78, 79, 80, 81, 82, 83, 84, 85, 86, 87, 88, 89, 90, 91, 92, 93, 94, 95, 96, 97, 98, 99, 100, 101, 102] (by decide +kernel) (by decide +kernel)
set_option maxRecDepth 20000 in
theorem gX5_claim_X5_isPolicy : GoodIn wsX5_claim (wsV RX5 170 RX5 yX5_isPolicy wsX5_isPolicy) := goodIn_app (goodIn_of _ (by decide +kernel)) ggX5_claim_X5_isPolicy
set_option maxRecDepth 20000 in
theorem ggX5_claim_X5_outside : GoodIn wsX5_claim wsX5_outside := goodIn_r _ [21] (by decide +kernel) (by decide +kernel)
set_option maxRecDepth 20000 in
theorem gX5_claim_X5_outside : GoodIn wsX5_claim (va_wsS RX5 71 yX5_outside wsX5_outside) := goodIn_app (goodIn_of _ (by decide +kernel)) ggX5_claim_X5_outside
set_option maxRecDepth 20000 in
theorem ggX5_claim_X5_inForce : GoodIn wsX5_claim wsX5_inForce := goodIn_r _ [25, 26, 27, 28, 16, 29, 30, 31, 32, 33, 34, 35, 36, 37, 38, 39, 40, 41, 42, 43, 44, 45, 72, 73, 74, 75, 76, 77, 78, 79, 80, 81, 82, 83, 84, 85, 86, 87, 88, 89, 90, 91, 92, 93, 94, 95, 96, 97, 98, 99, 100, 101, 102] (by decide +kernel) (by decide +kernel)
set_option maxRecDepth 20000 in
theorem gX5_claim_X5_inForce : GoodIn wsX5_claim (wsV RX5 174 RX5 yX5_inForce wsX5_inForce) := goodIn_app (goodIn_of _ (by decide +kernel)) ggX5_claim_X5_inForce
set_option maxRecDepth 20000 in
theorem ggX5_claim_X5_fails : GoodIn wsX5_claim wsX5_fails := goodIn_r _ [49, 11, 72, 73, 74, 75, 76, 77, 78, 79, 80, 81, 82, 83, 84, 85, 86, 87, 88, 89, 90, 91, 92, 93, 94, 95, 96, 97, 98, 99, 100, 101, 102] (by decide +kernel) (by decide +kernel)
set_option maxRecDepth 20000 in
theorem gX5_claim_X5_fails : GoodIn wsX5_claim (wsV RX5 81 RX5 yX5_fails wsX5_fails) := goodIn_app (goodIn_of _ (by decide +kernel)) ggX5_claim_X5_fails
set_option maxRecDepth 20000 in
theorem ggX5_claim_X5_least : GoodIn wsX5_claim wsX5_least := goodIn_r _ [52] (by decide +kernel) (by decide +kernel)
set_option maxRecDepth 20000 in
theorem gX5_claim_X5_least : GoodIn wsX5_claim (va_wsS RX5 159 yX5_least wsX5_least) := goodIn_app (goodIn_of _ (by decide +kernel)) ggX5_claim_X5_least
set_option maxRecDepth 20000 in
theorem ggX5_claim_X5_before : GoodIn wsX5_claim wsX5_before := goodIn_r _ [56, 1, 12, 72, 73, 74, 75, 76, 77, 78, 79, 80, 81, 82, 83, 84, 85, 86, 87, 88, 89, 90, 91, 92, 93, 94, 95, 96, 97, 98, 99, 100, 101, 102] (by decide +kernel) (by decide +kernel)
set_option maxRecDepth 20000 in
theorem gX5_claim_X5_before : GoodIn wsX5_claim (wsV RX5 184 RX5 yX5_before wsX5_before) := goodIn_app (goodIn_of _ (by decide +kernel)) ggX5_claim_X5_before
set_option maxRecDepth 20000 in
theorem ggX5_claim_X5_drafted : GoodIn wsX5_claim wsX5_drafted := goodIn_r _ [60, 61, 9, 62, 63, 72, 73, 74, 75, 76, 77, 78, 79, 80, 81, 82, 83, 84, 85, 86, 87, 88, 89, 90, 91, 92, 93, 94, 95, 96, 97, 98, 99, 100, 101, 102] (by decide +kernel) (by decide +kernel)
set_option maxRecDepth 20000 in
theorem gX5_claim_X5_drafted : GoodIn wsX5_claim (wsV RX5 147 RX5 yX5_drafted wsX5_drafted) := goodIn_app (goodIn_of _ (by decide +kernel)) ggX5_claim_X5_drafted
set_option maxRecDepth 20000 in
theorem ggX5_claim_X5_posts : GoodIn wsX5_claim wsX5_posts := goodIn_r _ [67, 68, 9, 69, 61, 70, 62, 71, 63, 72, 73, 74, 75, 76, 77, 78, 79, 80, 81, 82, 83, 84, 85, 86, 87, 88, 89, 90, 91, 92, 93, 94, 95, 96, 97, 98, 99, 100, 101, 102] (by decide +kernel) (by decide +kernel)
set_option maxRecDepth 20000 in
theorem gX5_claim_X5_posts : GoodIn wsX5_claim (wsV RX5 153 RX5 yX5_posts wsX5_posts) := goodIn_app (goodIn_of _ (by decide +kernel)) ggX5_claim_X5_posts
theorem dX5_claim_0 : decode cX5_claim 0 = .ok (.aload_n 0, 1) := by decide +kernel
theorem dX5_claim_1 : decode cX5_claim 1 = .ok (.iload_n 1, 1) := by decide +kernel
theorem dX5_claim_2 : decode cX5_claim 2 = .ok (.invokevirtual 170, 3) := by decide +kernel
theorem dX5_claim_5 : decode cX5_claim 5 = .ok (.istore 4, 2) := by decide +kernel
theorem dX5_claim_7 : decode cX5_claim 7 = .ok (.aload_n 0, 1) := by decide +kernel
theorem dX5_claim_8 : decode cX5_claim 8 = .ok (.iload 4, 2) := by decide +kernel
theorem dX5_claim_10 : decode cX5_claim 10 = .ok (.ifCond .ne 7, 3) := by decide +kernel
theorem dX5_claim_13 : decode cX5_claim 13 = .ok (.iconst 1, 1) := by decide +kernel
theorem dX5_claim_14 : decode cX5_claim 14 = .ok (.goto 4, 3) := by decide +kernel
theorem dX5_claim_17 : decode cX5_claim 17 = .ok (.iconst 0, 1) := by decide +kernel
theorem dX5_claim_18 : decode cX5_claim 18 = .ok (.iload_n 2, 1) := by decide +kernel
theorem dX5_claim_19 : decode cX5_claim 19 = .ok (.iconst 0, 1) := by decide +kernel
theorem dX5_claim_20 : decode cX5_claim 20 = .ok (.sipush 999, 3) := by decide +kernel
theorem dX5_claim_23 : decode cX5_claim 23 = .ok (.invokestatic 71, 3) := by decide +kernel
theorem dX5_claim_26 : decode cX5_claim 26 = .ok (.ifCond .ne 14, 3) := by decide +kernel
theorem dX5_claim_29 : decode cX5_claim 29 = .ok (.iload_n 3, 1) := by decide +kernel
theorem dX5_claim_30 : decode cX5_claim 30 = .ok (.iconst 1, 1) := by decide +kernel
theorem dX5_claim_31 : decode cX5_claim 31 = .ok (.sipush 9999, 3) := by decide +kernel
theorem dX5_claim_34 : decode cX5_claim 34 = .ok (.invokestatic 71, 3) := by decide +kernel
theorem dX5_claim_37 : decode cX5_claim 37 = .ok (.ifCond .eq 7, 3) := by decide +kernel
theorem dX5_claim_40 : decode cX5_claim 40 = .ok (.iconst 1, 1) := by decide +kernel
theorem dX5_claim_41 : decode cX5_claim 41 = .ok (.goto 4, 3) := by decide +kernel
theorem dX5_claim_44 : decode cX5_claim 44 = .ok (.iconst 0, 1) := by decide +kernel
theorem dX5_claim_45 : decode cX5_claim 45 = .ok (.iload 4, 2) := by decide +kernel
theorem dX5_claim_47 : decode cX5_claim 47 = .ok (.ifCond .eq 27, 3) := by decide +kernel
theorem dX5_claim_50 : decode cX5_claim 50 = .ok (.aload_n 0, 1) := by decide +kernel
theorem dX5_claim_51 : decode cX5_claim 51 = .ok (.iload_n 1, 1) := by decide +kernel
theorem dX5_claim_52 : decode cX5_claim 52 = .ok (.iload_n 2, 1) := by decide +kernel
theorem dX5_claim_53 : decode cX5_claim 53 = .ok (.bipush 99, 2) := by decide +kernel
theorem dX5_claim_55 : decode cX5_claim 55 = .ok (.invokevirtual 174, 3) := by decide +kernel
theorem dX5_claim_58 : decode cX5_claim 58 = .ok (.ifCond .eq 12, 3) := by decide +kernel
theorem dX5_claim_61 : decode cX5_claim 61 = .ok (.aload_n 0, 1) := by decide +kernel
theorem dX5_claim_62 : decode cX5_claim 62 = .ok (.getfield 95, 3) := by decide +kernel
theorem dX5_claim_65 : decode cX5_claim 65 = .ok (.bipush 20, 2) := by decide +kernel
theorem dX5_claim_67 : decode cX5_claim 67 = .ok (.if_icmp .ne 7, 3) := by decide +kernel
theorem dX5_claim_70 : decode cX5_claim 70 = .ok (.iconst 1, 1) := by decide +kernel
theorem dX5_claim_71 : decode cX5_claim 71 = .ok (.goto 4, 3) := by decide +kernel
theorem dX5_claim_74 : decode cX5_claim 74 = .ok (.iconst 0, 1) := by decide +kernel
theorem dX5_claim_75 : decode cX5_claim 75 = .ok (.invokevirtual 81, 3) := by decide +kernel
theorem dX5_claim_78 : decode cX5_claim 78 = .ok (.ifCond .eq 5, 3) := by decide +kernel
theorem dX5_claim_81 : decode cX5_claim 81 = .ok (.iconst 0, 1) := by decide +kernel
theorem dX5_claim_82 : decode cX5_claim 82 = .ok (.ireturn, 1) := by decide +kernel
theorem dX5_claim_83 : decode cX5_claim 83 = .ok (.iload_n 3, 1) := by decide +kernel
theorem dX5_claim_84 : decode cX5_claim 84 = .ok (.aload_n 0, 1) := by decide +kernel
theorem dX5_claim_85 : decode cX5_claim 85 = .ok (.getfield 98, 3) := by decide +kernel
theorem dX5_claim_88 : decode cX5_claim 88 = .ok (.if_icmp .le 12, 3) := by decide +kernel
theorem dX5_claim_91 : decode cX5_claim 91 = .ok (.iload_n 3, 1) := by decide +kernel
theorem dX5_claim_92 : decode cX5_claim 92 = .ok (.aload_n 0, 1) := by decide +kernel
theorem dX5_claim_93 : decode cX5_claim 93 = .ok (.getfield 98, 3) := by decide +kernel
theorem dX5_claim_96 : decode cX5_claim 96 = .ok (.isub, 1) := by decide +kernel
theorem dX5_claim_97 : decode cX5_claim 97 = .ok (.goto 4, 3) := by decide +kernel
theorem dX5_claim_100 : decode cX5_claim 100 = .ok (.iconst 0, 1) := by decide +kernel
theorem dX5_claim_101 : decode cX5_claim 101 = .ok (.aload_n 0, 1) := by decide +kernel
theorem dX5_claim_102 : decode cX5_claim 102 = .ok (.getfield 55, 3) := by decide +kernel
theorem dX5_claim_105 : decode cX5_claim 105 = .ok (.invokestatic 159, 3) := by decide +kernel
theorem dX5_claim_108 : decode cX5_claim 108 = .ok (.aload_n 0, 1) := by decide +kernel
theorem dX5_claim_109 : decode cX5_claim 109 = .ok (.getfield 59, 3) := by decide +kernel
theorem dX5_claim_112 : decode cX5_claim 112 = .ok (.aload_n 0, 1) := by decide +kernel
theorem dX5_claim_113 : decode cX5_claim 113 = .ok (.iload_n 1, 1) := by decide +kernel
theorem dX5_claim_114 : decode cX5_claim 114 = .ok (.iconst 2, 1) := by decide +kernel
theorem dX5_claim_115 : decode cX5_claim 115 = .ok (.invokevirtual 184, 3) := by decide +kernel
theorem dX5_claim_118 : decode cX5_claim 118 = .ok (.isub, 1) := by decide +kernel
theorem dX5_claim_119 : decode cX5_claim 119 = .ok (.invokestatic 159, 3) := by decide +kernel
theorem dX5_claim_122 : decode cX5_claim 122 = .ok (.istore 5, 2) := by decide +kernel
theorem dX5_claim_124 : decode cX5_claim 124 = .ok (.iload 5, 2) := by decide +kernel
theorem dX5_claim_126 : decode cX5_claim 126 = .ok (.aload_n 0, 1) := by decide +kernel
theorem dX5_claim_127 : decode cX5_claim 127 = .ok (.getfield 92, 3) := by decide +kernel
theorem dX5_claim_130 : decode cX5_claim 130 = .ok (.imul, 1) := by decide +kernel
theorem dX5_claim_131 : decode cX5_claim 131 = .ok (.bipush 100, 2) := by decide +kernel
theorem dX5_claim_133 : decode cX5_claim 133 = .ok (.idiv, 1) := by decide +kernel
theorem dX5_claim_134 : decode cX5_claim 134 = .ok (.istore 6, 2) := by decide +kernel
theorem dX5_claim_136 : decode cX5_claim 136 = .ok (.iload 5, 2) := by decide +kernel
theorem dX5_claim_138 : decode cX5_claim 138 = .ok (.iload 6, 2) := by decide +kernel
theorem dX5_claim_140 : decode cX5_claim 140 = .ok (.isub, 1) := by decide +kernel
theorem dX5_claim_141 : decode cX5_claim 141 = .ok (.aload_n 0, 1) := by decide +kernel
theorem dX5_claim_142 : decode cX5_claim 142 = .ok (.getfield 62, 3) := by decide +kernel
theorem dX5_claim_145 : decode cX5_claim 145 = .ok (.if_icmp .le 16, 3) := by decide +kernel
theorem dX5_claim_148 : decode cX5_claim 148 = .ok (.iload 5, 2) := by decide +kernel
theorem dX5_claim_150 : decode cX5_claim 150 = .ok (.iload 6, 2) := by decide +kernel
theorem dX5_claim_152 : decode cX5_claim 152 = .ok (.isub, 1) := by decide +kernel
theorem dX5_claim_153 : decode cX5_claim 153 = .ok (.aload_n 0, 1) := by decide +kernel
theorem dX5_claim_154 : decode cX5_claim 154 = .ok (.getfield 62, 3) := by decide +kernel
theorem dX5_claim_157 : decode cX5_claim 157 = .ok (.isub, 1) := by decide +kernel
theorem dX5_claim_158 : decode cX5_claim 158 = .ok (.goto 4, 3) := by decide +kernel
theorem dX5_claim_161 : decode cX5_claim 161 = .ok (.iconst 0, 1) := by decide +kernel
theorem dX5_claim_162 : decode cX5_claim 162 = .ok (.istore 7, 2) := by decide +kernel
theorem dX5_claim_164 : decode cX5_claim 164 = .ok (.iload 7, 2) := by decide +kernel
theorem dX5_claim_166 : decode cX5_claim 166 = .ok (.aload_n 0, 1) := by decide +kernel
theorem dX5_claim_167 : decode cX5_claim 167 = .ok (.getfield 101, 3) := by decide +kernel
theorem dX5_claim_170 : decode cX5_claim 170 = .ok (.invokestatic 159, 3) := by decide +kernel
theorem dX5_claim_173 : decode cX5_claim 173 = .ok (.aload_n 0, 1) := by decide +kernel
theorem dX5_claim_174 : decode cX5_claim 174 = .ok (.getfield 101, 3) := by decide +kernel
theorem dX5_claim_177 : decode cX5_claim 177 = .ok (.iconst 1, 1) := by decide +kernel
theorem dX5_claim_178 : decode cX5_claim 178 = .ok (.aload_n 0, 1) := by decide +kernel
theorem dX5_claim_179 : decode cX5_claim 179 = .ok (.getfield 104, 3) := by decide +kernel
theorem dX5_claim_182 : decode cX5_claim 182 = .ok (.iadd, 1) := by decide +kernel
theorem dX5_claim_183 : decode cX5_claim 183 = .ok (.imul, 1) := by decide +kernel
theorem dX5_claim_184 : decode cX5_claim 184 = .ok (.aload_n 0, 1) := by decide +kernel
theorem dX5_claim_185 : decode cX5_claim 185 = .ok (.iconst (-1), 1) := by decide +kernel
theorem dX5_claim_186 : decode cX5_claim 186 = .ok (.iconst 4, 1) := by decide +kernel
theorem dX5_claim_187 : decode cX5_claim 187 = .ok (.invokevirtual 184, 3) := by decide +kernel
theorem dX5_claim_190 : decode cX5_claim 190 = .ok (.isub, 1) := by decide +kernel
theorem dX5_claim_191 : decode cX5_claim 191 = .ok (.invokestatic 159, 3) := by decide +kernel
theorem dX5_claim_194 : decode cX5_claim 194 = .ok (.istore 7, 2) := by decide +kernel
theorem dX5_claim_196 : decode cX5_claim 196 = .ok (.iload 7, 2) := by decide +kernel
theorem dX5_claim_198 : decode cX5_claim 198 = .ok (.aload_n 0, 1) := by decide +kernel
theorem dX5_claim_199 : decode cX5_claim 199 = .ok (.getfield 101, 3) := by decide +kernel
theorem dX5_claim_202 : decode cX5_claim 202 = .ok (.aload_n 0, 1) := by decide +kernel
theorem dX5_claim_203 : decode cX5_claim 203 = .ok (.getfield 104, 3) := by decide +kernel
theorem dX5_claim_206 : decode cX5_claim 206 = .ok (.imul, 1) := by decide +kernel
theorem dX5_claim_207 : decode cX5_claim 207 = .ok (.aload_n 0, 1) := by decide +kernel
theorem dX5_claim_208 : decode cX5_claim 208 = .ok (.iconst (-1), 1) := by decide +kernel
theorem dX5_claim_209 : decode cX5_claim 209 = .ok (.iconst 5, 1) := by decide +kernel
theorem dX5_claim_210 : decode cX5_claim 210 = .ok (.invokevirtual 184, 3) := by decide +kernel
theorem dX5_claim_213 : decode cX5_claim 213 = .ok (.isub, 1) := by decide +kernel
theorem dX5_claim_214 : decode cX5_claim 214 = .ok (.invokestatic 159, 3) := by decide +kernel
theorem dX5_claim_217 : decode cX5_claim 217 = .ok (.istore 8, 2) := by decide +kernel
theorem dX5_claim_219 : decode cX5_claim 219 = .ok (.aload_n 0, 1) := by decide +kernel
theorem dX5_claim_220 : decode cX5_claim 220 = .ok (.iconst 0, 1) := by decide +kernel
theorem dX5_claim_221 : decode cX5_claim 221 = .ok (.putfield 138, 3) := by decide +kernel
theorem dX5_claim_224 : decode cX5_claim 224 = .ok (.aload_n 0, 1) := by decide +kernel
theorem dX5_claim_225 : decode cX5_claim 225 = .ok (.iload 5, 2) := by decide +kernel
theorem dX5_claim_227 : decode cX5_claim 227 = .ok (.iconst 1, 1) := by decide +kernel
theorem dX5_claim_228 : decode cX5_claim 228 = .ok (.iconst 4, 1) := by decide +kernel
theorem dX5_claim_229 : decode cX5_claim 229 = .ok (.invokevirtual 147, 3) := by decide +kernel
theorem dX5_claim_232 : decode cX5_claim 232 = .ok (.aload_n 0, 1) := by decide +kernel
theorem dX5_claim_233 : decode cX5_claim 233 = .ok (.iload 6, 2) := by decide +kernel
theorem dX5_claim_235 : decode cX5_claim 235 = .ok (.iload 7, 2) := by decide +kernel
theorem dX5_claim_237 : decode cX5_claim 237 = .ok (.iadd, 1) := by decide +kernel
theorem dX5_claim_238 : decode cX5_claim 238 = .ok (.iconst 5, 1) := by decide +kernel
theorem dX5_claim_239 : decode cX5_claim 239 = .ok (.iconst 3, 1) := by decide +kernel
theorem dX5_claim_240 : decode cX5_claim 240 = .ok (.invokevirtual 147, 3) := by decide +kernel
theorem dX5_claim_243 : decode cX5_claim 243 = .ok (.aload_n 0, 1) := by decide +kernel
theorem dX5_claim_244 : decode cX5_claim 244 = .ok (.iload 8, 2) := by decide +kernel
theorem dX5_claim_246 : decode cX5_claim 246 = .ok (.aload_n 0, 1) := by decide +kernel
theorem dX5_claim_247 : decode cX5_claim 247 = .ok (.getfield 107, 3) := by decide +kernel
theorem dX5_claim_250 : decode cX5_claim 250 = .ok (.imul, 1) := by decide +kernel
theorem dX5_claim_251 : decode cX5_claim 251 = .ok (.bipush 100, 2) := by decide +kernel
theorem dX5_claim_253 : decode cX5_claim 253 = .ok (.idiv, 1) := by decide +kernel
theorem dX5_claim_254 : decode cX5_claim 254 = .ok (.iconst 3, 1) := by decide +kernel
theorem dX5_claim_255 : decode cX5_claim 255 = .ok (.iconst 2, 1) := by decide +kernel
theorem dX5_claim_256 : decode cX5_claim 256 = .ok (.invokevirtual 147, 3) := by decide +kernel
theorem dX5_claim_259 : decode cX5_claim 259 = .ok (.aload_n 0, 1) := by decide +kernel
theorem dX5_claim_260 : decode cX5_claim 260 = .ok (.invokevirtual 153, 3) := by decide +kernel
theorem dX5_claim_263 : decode cX5_claim 263 = .ok (.ifCond .ne 10, 3) := by decide +kernel
theorem dX5_claim_266 : decode cX5_claim 266 = .ok (.aload_n 0, 1) := by decide +kernel
theorem dX5_claim_267 : decode cX5_claim 267 = .ok (.iconst 4, 1) := by decide +kernel
theorem dX5_claim_268 : decode cX5_claim 268 = .ok (.putfield 68, 3) := by decide +kernel
theorem dX5_claim_271 : decode cX5_claim 271 = .ok (.iconst 0, 1) := by decide +kernel
theorem dX5_claim_272 : decode cX5_claim 272 = .ok (.ireturn, 1) := by decide +kernel
theorem dX5_claim_273 : decode cX5_claim 273 = .ok (.aload_n 0, 1) := by decide +kernel
theorem dX5_claim_274 : decode cX5_claim 274 = .ok (.getfield 65, 3) := by decide +kernel
theorem dX5_claim_277 : decode cX5_claim 277 = .ok (.bipush 6, 2) := by decide +kernel
theorem dX5_claim_279 : decode cX5_claim 279 = .ok (.aload_n 0, 1) := by decide +kernel
theorem dX5_claim_280 : decode cX5_claim 280 = .ok (.getfield 95, 3) := by decide +kernel
theorem dX5_claim_283 : decode cX5_claim 283 = .ok (.imul, 1) := by decide +kernel
theorem dX5_claim_284 : decode cX5_claim 284 = .ok (.iload_n 1, 1) := by decide +kernel
theorem dX5_claim_285 : decode cX5_claim 285 = .ok (.iastore, 1) := by decide +kernel
theorem dX5_claim_286 : decode cX5_claim 286 = .ok (.aload_n 0, 1) := by decide +kernel
theorem dX5_claim_287 : decode cX5_claim 287 = .ok (.getfield 65, 3) := by decide +kernel
theorem dX5_claim_290 : decode cX5_claim 290 = .ok (.bipush 6, 2) := by decide +kernel
theorem dX5_claim_292 : decode cX5_claim 292 = .ok (.aload_n 0, 1) := by decide +kernel
theorem dX5_claim_293 : decode cX5_claim 293 = .ok (.getfield 95, 3) := by decide +kernel
theorem dX5_claim_296 : decode cX5_claim 296 = .ok (.imul, 1) := by decide +kernel
theorem dX5_claim_297 : decode cX5_claim 297 = .ok (.iconst 1, 1) := by decide +kernel
theorem dX5_claim_298 : decode cX5_claim 298 = .ok (.iadd, 1) := by decide +kernel
theorem dX5_claim_299 : decode cX5_claim 299 = .ok (.iload_n 2, 1) := by decide +kernel
theorem dX5_claim_300 : decode cX5_claim 300 = .ok (.iastore, 1) := by decide +kernel
theorem dX5_claim_301 : decode cX5_claim 301 = .ok (.aload_n 0, 1) := by decide +kernel
theorem dX5_claim_302 : decode cX5_claim 302 = .ok (.getfield 65, 3) := by decide +kernel
theorem dX5_claim_305 : decode cX5_claim 305 = .ok (.bipush 6, 2) := by decide +kernel
theorem dX5_claim_307 : decode cX5_claim 307 = .ok (.aload_n 0, 1) := by decide +kernel
theorem dX5_claim_308 : decode cX5_claim 308 = .ok (.getfield 95, 3) := by decide +kernel
theorem dX5_claim_311 : decode cX5_claim 311 = .ok (.imul, 1) := by decide +kernel
theorem dX5_claim_312 : decode cX5_claim 312 = .ok (.iconst 2, 1) := by decide +kernel
theorem dX5_claim_313 : decode cX5_claim 313 = .ok (.iadd, 1) := by decide +kernel
theorem dX5_claim_314 : decode cX5_claim 314 = .ok (.iload 5, 2) := by decide +kernel
theorem dX5_claim_316 : decode cX5_claim 316 = .ok (.iastore, 1) := by decide +kernel
theorem dX5_claim_317 : decode cX5_claim 317 = .ok (.aload_n 0, 1) := by decide +kernel
theorem dX5_claim_318 : decode cX5_claim 318 = .ok (.getfield 65, 3) := by decide +kernel
theorem dX5_claim_321 : decode cX5_claim 321 = .ok (.bipush 6, 2) := by decide +kernel
theorem dX5_claim_323 : decode cX5_claim 323 = .ok (.aload_n 0, 1) := by decide +kernel
theorem dX5_claim_324 : decode cX5_claim 324 = .ok (.getfield 95, 3) := by decide +kernel
theorem dX5_claim_327 : decode cX5_claim 327 = .ok (.imul, 1) := by decide +kernel
theorem dX5_claim_328 : decode cX5_claim 328 = .ok (.iconst 3, 1) := by decide +kernel
theorem dX5_claim_329 : decode cX5_claim 329 = .ok (.iadd, 1) := by decide +kernel
theorem dX5_claim_330 : decode cX5_claim 330 = .ok (.iload 6, 2) := by decide +kernel
theorem dX5_claim_332 : decode cX5_claim 332 = .ok (.iastore, 1) := by decide +kernel
theorem dX5_claim_333 : decode cX5_claim 333 = .ok (.aload_n 0, 1) := by decide +kernel
theorem dX5_claim_334 : decode cX5_claim 334 = .ok (.getfield 65, 3) := by decide +kernel
theorem dX5_claim_337 : decode cX5_claim 337 = .ok (.bipush 6, 2) := by decide +kernel
theorem dX5_claim_339 : decode cX5_claim 339 = .ok (.aload_n 0, 1) := by decide +kernel
theorem dX5_claim_340 : decode cX5_claim 340 = .ok (.getfield 95, 3) := by decide +kernel
theorem dX5_claim_343 : decode cX5_claim 343 = .ok (.imul, 1) := by decide +kernel
theorem dX5_claim_344 : decode cX5_claim 344 = .ok (.iconst 4, 1) := by decide +kernel
theorem dX5_claim_345 : decode cX5_claim 345 = .ok (.iadd, 1) := by decide +kernel
theorem dX5_claim_346 : decode cX5_claim 346 = .ok (.iload 7, 2) := by decide +kernel
theorem dX5_claim_348 : decode cX5_claim 348 = .ok (.iastore, 1) := by decide +kernel
theorem dX5_claim_349 : decode cX5_claim 349 = .ok (.aload_n 0, 1) := by decide +kernel
theorem dX5_claim_350 : decode cX5_claim 350 = .ok (.getfield 65, 3) := by decide +kernel
theorem dX5_claim_353 : decode cX5_claim 353 = .ok (.bipush 6, 2) := by decide +kernel
theorem dX5_claim_355 : decode cX5_claim 355 = .ok (.aload_n 0, 1) := by decide +kernel
theorem dX5_claim_356 : decode cX5_claim 356 = .ok (.getfield 95, 3) := by decide +kernel
theorem dX5_claim_359 : decode cX5_claim 359 = .ok (.imul, 1) := by decide +kernel
theorem dX5_claim_360 : decode cX5_claim 360 = .ok (.iconst 5, 1) := by decide +kernel
theorem dX5_claim_361 : decode cX5_claim 361 = .ok (.iadd, 1) := by decide +kernel
theorem dX5_claim_362 : decode cX5_claim 362 = .ok (.iload 8, 2) := by decide +kernel
theorem dX5_claim_364 : decode cX5_claim 364 = .ok (.iastore, 1) := by decide +kernel
theorem dX5_claim_365 : decode cX5_claim 365 = .ok (.aload_n 0, 1) := by decide +kernel
theorem dX5_claim_366 : decode cX5_claim 366 = .ok (.dup, 1) := by decide +kernel
theorem dX5_claim_367 : decode cX5_claim 367 = .ok (.getfield 95, 3) := by decide +kernel
theorem dX5_claim_370 : decode cX5_claim 370 = .ok (.iconst 1, 1) := by decide +kernel
theorem dX5_claim_371 : decode cX5_claim 371 = .ok (.iadd, 1) := by decide +kernel
theorem dX5_claim_372 : decode cX5_claim 372 = .ok (.putfield 95, 3) := by decide +kernel
theorem dX5_claim_375 : decode cX5_claim 375 = .ok (.iload 5, 2) := by decide +kernel
theorem dX5_claim_377 : decode cX5_claim 377 = .ok (.ireturn, 1) := by decide +kernel
theorem dX5_count_0 : decode cX5_count 0 = .ok (.aload_n 0, 1) := by decide +kernel
theorem dX5_count_1 : decode cX5_count 1 = .ok (.iconst 0, 1) := by decide +kernel
theorem dX5_count_2 : decode cX5_count 2 = .ok (.putfield 68, 3) := by decide +kernel
theorem dX5_count_5 : decode cX5_count 5 = .ok (.iload_n 1, 1) := by decide +kernel
theorem dX5_count_6 : decode cX5_count 6 = .ok (.ifCond .ne 10, 3) := by decide +kernel
theorem dX5_count_9 : decode cX5_count 9 = .ok (.aload_n 0, 1) := by decide +kernel
theorem dX5_count_10 : decode cX5_count 10 = .ok (.getfield 75, 3) := by decide +kernel
theorem dX5_count_13 : decode cX5_count 13 = .ok (.goto 52, 3) := by decide +kernel
theorem dX5_count_16 : decode cX5_count 16 = .ok (.iload_n 1, 1) := by decide +kernel
theorem dX5_count_17 : decode cX5_count 17 = .ok (.iconst 1, 1) := by decide +kernel
theorem dX5_count_18 : decode cX5_count 18 = .ok (.if_icmp .ne 10, 3) := by decide +kernel
theorem dX5_count_21 : decode cX5_count 21 = .ok (.aload_n 0, 1) := by decide +kernel
theorem dX5_count_22 : decode cX5_count 22 = .ok (.getfield 110, 3) := by decide +kernel
theorem dX5_count_25 : decode cX5_count 25 = .ok (.goto 40, 3) := by decide +kernel
theorem dX5_count_28 : decode cX5_count 28 = .ok (.iload_n 1, 1) := by decide +kernel
theorem dX5_count_29 : decode cX5_count 29 = .ok (.iconst 2, 1) := by decide +kernel
theorem dX5_count_30 : decode cX5_count 30 = .ok (.if_icmp .ne 10, 3) := by decide +kernel
theorem dX5_count_33 : decode cX5_count 33 = .ok (.aload_n 0, 1) := by decide +kernel
theorem dX5_count_34 : decode cX5_count 34 = .ok (.getfield 95, 3) := by decide +kernel
theorem dX5_count_37 : decode cX5_count 37 = .ok (.goto 28, 3) := by decide +kernel
theorem dX5_count_40 : decode cX5_count 40 = .ok (.iload_n 1, 1) := by decide +kernel
theorem dX5_count_41 : decode cX5_count 41 = .ok (.iconst 3, 1) := by decide +kernel
theorem dX5_count_42 : decode cX5_count 42 = .ok (.if_icmp .ne 10, 3) := by decide +kernel
theorem dX5_count_45 : decode cX5_count 45 = .ok (.aload_n 0, 1) := by decide +kernel
theorem dX5_count_46 : decode cX5_count 46 = .ok (.getfield 141, 3) := by decide +kernel
theorem dX5_count_49 : decode cX5_count 49 = .ok (.goto 16, 3) := by decide +kernel
theorem dX5_count_52 : decode cX5_count 52 = .ok (.iload_n 1, 1) := by decide +kernel
theorem dX5_count_53 : decode cX5_count 53 = .ok (.iconst 4, 1) := by decide +kernel
theorem dX5_count_54 : decode cX5_count 54 = .ok (.if_icmp .ne 10, 3) := by decide +kernel
theorem dX5_count_57 : decode cX5_count 57 = .ok (.aload_n 0, 1) := by decide +kernel
theorem dX5_count_58 : decode cX5_count 58 = .ok (.getfield 78, 3) := by decide +kernel
theorem dX5_count_61 : decode cX5_count 61 = .ok (.goto 4, 3) := by decide +kernel
theorem dX5_count_64 : decode cX5_count 64 = .ok (.iconst (-1), 1) := by decide +kernel
theorem dX5_count_65 : decode cX5_count 65 = .ok (.ireturn, 1) := by decide +kernel
set_option maxRecDepth 20000 in
theorem ggX5_fact_X5_isPolicy : GoodIn wsX5_fact wsX5_isPolicy := goodIn_r _ [5, 6, 59, 60, 61, 62, 63, 64, 65, 66, 67, 68, 69, 70, 71, 72, 73, 74, 75, 76, 77, 78, 79, 80, 81, 82, 83, 84, 85, 86, 87, 88, 89] (by decide +kernel) (by decide +kernel)
set_option maxRecDepth 20000 in
theorem gX5_fact_X5_isPolicy : GoodIn wsX5_fact (wsV RX5 170 RX5 yX5_isPolicy wsX5_isPolicy) := goodIn_app (goodIn_of _ (by decide +kernel)) ggX5_fact_X5_isPolicy
set_option maxRecDepth 20000 in
theorem ggX5_fact_X5_outside : GoodIn wsX5_fact wsX5_outside := goodIn_r _ [9] (by decide +kernel) (by decide +kernel)
set_option maxRecDepth 20000 in
theorem gX5_fact_X5_outside : GoodIn wsX5_fact (va_wsS RX5 71 yX5_outside wsX5_outside) := goodIn_app (goodIn_of _ (by decide +kernel)) ggX5_fact_X5_outside
set_option maxRecDepth 20000 in
theorem ggX5_fact_X5_fails : GoodIn wsX5_fact wsX5_fails := goodIn_r _ [13, 14, 59, 60, 61, 62, 63, 64, 65, 66, 67, 68, 69, 70, 71, 72, 73, 74, 75, 76, 77, 78, 79, 80, 81, 82, 83, 84, 85, 86, 87, 88, 89] (by decide +kernel) (by decide +kernel)
set_option maxRecDepth 20000 in
theorem gX5_fact_X5_fails : GoodIn wsX5_fact (wsV RX5 81 RX5 yX5_fails wsX5_fails) := goodIn_app (goodIn_of _ (by decide +kernel)) ggX5_fact_X5_fails
set_option maxRecDepth 20000 in
theorem ggX5_fact_X5_inTerm : GoodIn wsX5_fact wsX5_inTerm := goodIn_r _ [18, 19, 20, 59, 60, 61, 62, 63, 64, 65, 66, 67, 68, 69, 70, 71, 72, 73, 74, 75, 76, 77, 78, 79, 80, 81, 82, 83, 84, 85, 86, 87, 88, 89] (by decide +kernel) (by decide +kernel)
set_option maxRecDepth 20000 in
theorem gX5_fact_X5_inTerm : GoodIn wsX5_fact (wsV RX5 118 RX5 yX5_inTerm wsX5_inTerm) := goodIn_app (goodIn_of _ (by decide +kernel)) ggX5_fact_X5_inTerm
set_option maxRecDepth 20000 in
theorem ggX5_fact_X5_bound : GoodIn wsX5_fact wsX5_bound := goodIn_r _ [24, 25, 26, 27, 28, 4, 29, 30, 31, 32, 33, 34, 59, 60, 61, 62, 63, 64, 65, 66, 67, 68, 69, 70, 71, 72, 73, 74, 75, 76, 77, 78, 79, 80, 81, 82, 83, 84, 85, 86, 87, 88, 89] (by decide +kernel) (by decide +kernel)
set_option maxRecDepth 20000 in
theorem gX5_fact_X5_bound : GoodIn wsX5_fact (wsV RX5 187 RX5 yX5_bound wsX5_bound) := goodIn_app (goodIn_of _ (by decide +kernel)) ggX5_fact_X5_bound
set_option maxRecDepth 20000 in
theorem ggX5_fact_X5_charge : GoodIn wsX5_fact wsX5_charge := goodIn_r _ [38, 26, 27, 28, 4, 29, 25, 30, 31, 32, 33, 34, 39, 40, 41, 42, 43, 44, 45, 46, 47, 48, 49, 50, 51, 52, 53, 54, 55, 56, 57, 58, 59, 60, 61, 62, 63, 64, 65, 66, 67, 68, 69, 70, 71, 72, 73, 74, 75, 76, 77, 78, 79, 80, 81, 82, 83, 84, 85, 86, 87, 88, 89] (by decide +kernel) (by decide +kernel)
set_option maxRecDepth 20000 in
theorem gX5_fact_X5_charge : GoodIn wsX5_fact (wsV RX5 134 RX5 yX5_charge wsX5_charge) := goodIn_app (goodIn_of _ (by decide +kernel)) ggX5_fact_X5_charge
set_option maxRecDepth 20000 in
theorem ggX5_fact_X5_runs : GoodIn wsX5_fact wsX5_runs := goodIn_r _ [42, 25, 33, 59, 60, 61, 62, 63, 64, 65, 66, 67, 68, 69, 70, 71, 72, 73, 74, 75, 76, 77, 78, 79, 80, 81, 82, 83, 84, 85, 86, 87, 88, 89] (by decide +kernel) (by decide +kernel)
set_option maxRecDepth 20000 in
theorem gX5_fact_X5_runs : GoodIn wsX5_fact (wsV RX5 122 RX5 yX5_runs wsX5_runs) := goodIn_app (goodIn_of _ (by decide +kernel)) ggX5_fact_X5_runs
set_option maxRecDepth 20000 in
theorem ggX5_fact_X5_known : GoodIn wsX5_fact wsX5_known := goodIn_r _ [46, 25, 33, 47, 48, 59, 60, 61, 62, 63, 64, 65, 66, 67, 68, 69, 70, 71, 72, 73, 74, 75, 76, 77, 78, 79, 80, 81, 82, 83, 84, 85, 86, 87, 88, 89] (by decide +kernel) (by decide +kernel)
set_option maxRecDepth 20000 in
theorem gX5_fact_X5_known : GoodIn wsX5_fact (wsV RX5 126 RX5 yX5_known wsX5_known) := goodIn_app (goodIn_of _ (by decide +kernel)) ggX5_fact_X5_known
theorem dX5_fact_0 : decode cX5_fact 0 = .ok (.aload_n 0, 1) := by decide +kernel
theorem dX5_fact_1 : decode cX5_fact 1 = .ok (.aload_n 0, 1) := by decide +kernel
theorem dX5_fact_2 : decode cX5_fact 2 = .ok (.iload_n 1, 1) := by decide +kernel
theorem dX5_fact_3 : decode cX5_fact 3 = .ok (.invokevirtual 170, 3) := by decide +kernel
theorem dX5_fact_6 : decode cX5_fact 6 = .ok (.ifCond .eq 12, 3) := by decide +kernel
theorem dX5_fact_9 : decode cX5_fact 9 = .ok (.iload_n 2, 1) := by decide +kernel
theorem dX5_fact_10 : decode cX5_fact 10 = .ok (.iconst 0, 1) := by decide +kernel
theorem dX5_fact_11 : decode cX5_fact 11 = .ok (.iconst 4, 1) := by decide +kernel
theorem dX5_fact_12 : decode cX5_fact 12 = .ok (.invokestatic 71, 3) := by decide +kernel
theorem dX5_fact_15 : decode cX5_fact 15 = .ok (.ifCond .eq 7, 3) := by decide +kernel
theorem dX5_fact_18 : decode cX5_fact 18 = .ok (.iconst 1, 1) := by decide +kernel
theorem dX5_fact_19 : decode cX5_fact 19 = .ok (.goto 4, 3) := by decide +kernel
theorem dX5_fact_22 : decode cX5_fact 22 = .ok (.iconst 0, 1) := by decide +kernel
theorem dX5_fact_23 : decode cX5_fact 23 = .ok (.iconst 0, 1) := by decide +kernel
theorem dX5_fact_24 : decode cX5_fact 24 = .ok (.iconst 0, 1) := by decide +kernel
theorem dX5_fact_25 : decode cX5_fact 25 = .ok (.invokevirtual 81, 3) := by decide +kernel
theorem dX5_fact_28 : decode cX5_fact 28 = .ok (.ifCond .eq 5, 3) := by decide +kernel
theorem dX5_fact_31 : decode cX5_fact 31 = .ok (.iconst 0, 1) := by decide +kernel
theorem dX5_fact_32 : decode cX5_fact 32 = .ok (.ireturn, 1) := by decide +kernel
theorem dX5_fact_33 : decode cX5_fact 33 = .ok (.aload_n 0, 1) := by decide +kernel
theorem dX5_fact_34 : decode cX5_fact 34 = .ok (.iload_n 1, 1) := by decide +kernel
theorem dX5_fact_35 : decode cX5_fact 35 = .ok (.iload_n 3, 1) := by decide +kernel
theorem dX5_fact_36 : decode cX5_fact 36 = .ok (.invokevirtual 118, 3) := by decide +kernel
theorem dX5_fact_39 : decode cX5_fact 39 = .ok (.ifCond .eq 13, 3) := by decide +kernel
theorem dX5_fact_42 : decode cX5_fact 42 = .ok (.aload_n 0, 1) := by decide +kernel
theorem dX5_fact_43 : decode cX5_fact 43 = .ok (.iload_n 1, 1) := by decide +kernel
theorem dX5_fact_44 : decode cX5_fact 44 = .ok (.iload 4, 2) := by decide +kernel
theorem dX5_fact_46 : decode cX5_fact 46 = .ok (.invokevirtual 187, 3) := by decide +kernel
theorem dX5_fact_49 : decode cX5_fact 49 = .ok (.ifCond .ne 5, 3) := by decide +kernel
theorem dX5_fact_52 : decode cX5_fact 52 = .ok (.iconst (-1), 1) := by decide +kernel
theorem dX5_fact_53 : decode cX5_fact 53 = .ok (.ireturn, 1) := by decide +kernel
theorem dX5_fact_54 : decode cX5_fact 54 = .ok (.aload_n 0, 1) := by decide +kernel
theorem dX5_fact_55 : decode cX5_fact 55 = .ok (.iload_n 1, 1) := by decide +kernel
theorem dX5_fact_56 : decode cX5_fact 56 = .ok (.iload_n 3, 1) := by decide +kernel
theorem dX5_fact_57 : decode cX5_fact 57 = .ok (.iload 4, 2) := by decide +kernel
theorem dX5_fact_59 : decode cX5_fact 59 = .ok (.invokevirtual 134, 3) := by decide +kernel
theorem dX5_fact_62 : decode cX5_fact 62 = .ok (.istore 5, 2) := by decide +kernel
theorem dX5_fact_64 : decode cX5_fact 64 = .ok (.iload_n 2, 1) := by decide +kernel
theorem dX5_fact_65 : decode cX5_fact 65 = .ok (.iconst 3, 1) := by decide +kernel
theorem dX5_fact_66 : decode cX5_fact 66 = .ok (.if_icmp .ne 18, 3) := by decide +kernel
theorem dX5_fact_69 : decode cX5_fact 69 = .ok (.aload_n 0, 1) := by decide +kernel
theorem dX5_fact_70 : decode cX5_fact 70 = .ok (.invokevirtual 122, 3) := by decide +kernel
theorem dX5_fact_73 : decode cX5_fact 73 = .ok (.ifCond .eq 7, 3) := by decide +kernel
theorem dX5_fact_76 : decode cX5_fact 76 = .ok (.iconst 1, 1) := by decide +kernel
theorem dX5_fact_77 : decode cX5_fact 77 = .ok (.goto 22, 3) := by decide +kernel
theorem dX5_fact_80 : decode cX5_fact 80 = .ok (.iconst 0, 1) := by decide +kernel
theorem dX5_fact_81 : decode cX5_fact 81 = .ok (.goto 18, 3) := by decide +kernel
theorem dX5_fact_84 : decode cX5_fact 84 = .ok (.iload_n 2, 1) := by decide +kernel
theorem dX5_fact_85 : decode cX5_fact 85 = .ok (.iconst 4, 1) := by decide +kernel
theorem dX5_fact_86 : decode cX5_fact 86 = .ok (.if_icmp .ne 8, 3) := by decide +kernel
theorem dX5_fact_89 : decode cX5_fact 89 = .ok (.iload 5, 2) := by decide +kernel
theorem dX5_fact_91 : decode cX5_fact 91 = .ok (.goto 8, 3) := by decide +kernel
theorem dX5_fact_94 : decode cX5_fact 94 = .ok (.aload_n 0, 1) := by decide +kernel
theorem dX5_fact_95 : decode cX5_fact 95 = .ok (.iload_n 2, 1) := by decide +kernel
theorem dX5_fact_96 : decode cX5_fact 96 = .ok (.invokevirtual 126, 3) := by decide +kernel
theorem dX5_fact_99 : decode cX5_fact 99 = .ok (.ireturn, 1) := by decide +kernel
set_option maxRecDepth 20000 in
theorem ggX5_written_X5_isPolicy : GoodIn wsX5_written wsX5_isPolicy := goodIn_r _ [5, 6, 52, 53, 54, 55, 56, 57, 58, 59, 60, 61, 62, 63, 64, 65, 66, 67, 68, 69, 70, 71, 72, 73, 74, 75, 76, 77, 78, 79, 80, 81, 82] (by decide +kernel) (by decide +kernel)
set_option maxRecDepth 20000 in
theorem gX5_written_X5_isPolicy : GoodIn wsX5_written (wsV RX5 170 RX5 yX5_isPolicy wsX5_isPolicy) := goodIn_app (goodIn_of _ (by decide +kernel)) ggX5_written_X5_isPolicy
set_option maxRecDepth 20000 in
theorem ggX5_written_X5_fails : GoodIn wsX5_written wsX5_fails := goodIn_r _ [10, 11, 52, 53, 54, 55, 56, 57, 58, 59, 60, 61, 62, 63, 64, 65, 66, 67, 68, 69, 70, 71, 72, 73, 74, 75, 76, 77, 78, 79, 80, 81, 82] (by decide +kernel) (by decide +kernel)
set_option maxRecDepth 20000 in
theorem gX5_written_X5_fails : GoodIn wsX5_written (wsV RX5 81 RX5 yX5_fails wsX5_fails) := goodIn_app (goodIn_of _ (by decide +kernel)) ggX5_written_X5_fails
set_option maxRecDepth 20000 in
theorem ggX5_written_X5_charges : GoodIn wsX5_written wsX5_charges := goodIn_r _ [15, 16, 17, 18, 19, 20, 4, 21, 22, 23, 24, 25, 26, 27, 28, 29, 30, 31, 32, 33, 34, 35, 36, 37, 38, 39, 40, 41, 42, 43, 44, 45, 46, 47, 48, 49, 50, 51, 52, 53, 54, 55, 56, 57, 58, 59, 60, 61, 62, 63, 64, 65, 66, 67, 68, 69, 70, 71, 72, 73, 74, 75, 76, 77, 78, 79, 80, 81, 82] (by decide +kernel) (by decide +kernel)
set_option maxRecDepth 20000 in
theorem gX5_written_X5_charges : GoodIn wsX5_written (wsV RX5 144 RX5 yX5_charges wsX5_charges) := goodIn_app (goodIn_of _ (by decide +kernel)) ggX5_written_X5_charges
theorem dX5_written_0 : decode cX5_written 0 = .ok (.aload_n 0, 1) := by decide +kernel
theorem dX5_written_1 : decode cX5_written 1 = .ok (.aload_n 0, 1) := by decide +kernel
theorem dX5_written_2 : decode cX5_written 2 = .ok (.iload_n 1, 1) := by decide +kernel
theorem dX5_written_3 : decode cX5_written 3 = .ok (.invokevirtual 170, 3) := by decide +kernel
theorem dX5_written_6 : decode cX5_written 6 = .ok (.ifCond .ne 7, 3) := by decide +kernel
theorem dX5_written_9 : decode cX5_written 9 = .ok (.iconst 1, 1) := by decide +kernel
theorem dX5_written_10 : decode cX5_written 10 = .ok (.goto 4, 3) := by decide +kernel
theorem dX5_written_13 : decode cX5_written 13 = .ok (.iconst 0, 1) := by decide +kernel
theorem dX5_written_14 : decode cX5_written 14 = .ok (.iconst 0, 1) := by decide +kernel
theorem dX5_written_15 : decode cX5_written 15 = .ok (.iconst 0, 1) := by decide +kernel
theorem dX5_written_16 : decode cX5_written 16 = .ok (.invokevirtual 81, 3) := by decide +kernel
theorem dX5_written_19 : decode cX5_written 19 = .ok (.ifCond .eq 7, 3) := by decide +kernel
theorem dX5_written_22 : decode cX5_written 22 = .ok (.iconst 0, 1) := by decide +kernel
theorem dX5_written_23 : decode cX5_written 23 = .ok (.goto 12, 3) := by decide +kernel
theorem dX5_written_26 : decode cX5_written 26 = .ok (.aload_n 0, 1) := by decide +kernel
theorem dX5_written_27 : decode cX5_written 27 = .ok (.iload_n 1, 1) := by decide +kernel
theorem dX5_written_28 : decode cX5_written 28 = .ok (.sipush 1000, 3) := by decide +kernel
theorem dX5_written_31 : decode cX5_written 31 = .ok (.iload_n 2, 1) := by decide +kernel
theorem dX5_written_32 : decode cX5_written 32 = .ok (.invokevirtual 144, 3) := by decide +kernel
theorem dX5_written_35 : decode cX5_written 35 = .ok (.ireturn, 1) := by decide +kernel
set_option maxRecDepth 20000 in
theorem ggX5_earned_X5_isPolicy : GoodIn wsX5_earned wsX5_isPolicy := goodIn_r _ [5, 6, 52, 53, 54, 55, 56, 57, 58, 59, 60, 61, 62, 63, 64, 65, 66, 67, 68, 69, 70, 71, 72, 73, 74, 75, 76, 77, 78, 79, 80, 81, 82] (by decide +kernel) (by decide +kernel)
set_option maxRecDepth 20000 in
theorem gX5_earned_X5_isPolicy : GoodIn wsX5_earned (wsV RX5 170 RX5 yX5_isPolicy wsX5_isPolicy) := goodIn_app (goodIn_of _ (by decide +kernel)) ggX5_earned_X5_isPolicy
set_option maxRecDepth 20000 in
theorem ggX5_earned_X5_fails : GoodIn wsX5_earned wsX5_fails := goodIn_r _ [10, 11, 52, 53, 54, 55, 56, 57, 58, 59, 60, 61, 62, 63, 64, 65, 66, 67, 68, 69, 70, 71, 72, 73, 74, 75, 76, 77, 78, 79, 80, 81, 82] (by decide +kernel) (by decide +kernel)
set_option maxRecDepth 20000 in
theorem gX5_earned_X5_fails : GoodIn wsX5_earned (wsV RX5 81 RX5 yX5_fails wsX5_fails) := goodIn_app (goodIn_of _ (by decide +kernel)) ggX5_earned_X5_fails
set_option maxRecDepth 20000 in
theorem ggX5_earned_X5_charges : GoodIn wsX5_earned wsX5_charges := goodIn_r _ [15, 16, 17, 18, 19, 20, 4, 21, 22, 23, 24, 25, 26, 27, 28, 29, 30, 31, 32, 33, 34, 35, 36, 37, 38, 39, 40, 41, 42, 43, 44, 45, 46, 47, 48, 49, 50, 51, 52, 53, 54, 55, 56, 57, 58, 59, 60, 61, 62, 63, 64, 65, 66, 67, 68, 69, 70, 71, 72, 73, 74, 75, 76, 77, 78, 79, 80, 81, 82] (by decide +kernel) (by decide +kernel)
set_option maxRecDepth 20000 in
theorem gX5_earned_X5_charges : GoodIn wsX5_earned (wsV RX5 144 RX5 yX5_charges wsX5_charges) := goodIn_app (goodIn_of _ (by decide +kernel)) ggX5_earned_X5_charges
theorem dX5_earned_0 : decode cX5_earned 0 = .ok (.aload_n 0, 1) := by decide +kernel
theorem dX5_earned_1 : decode cX5_earned 1 = .ok (.aload_n 0, 1) := by decide +kernel
theorem dX5_earned_2 : decode cX5_earned 2 = .ok (.iload_n 1, 1) := by decide +kernel
theorem dX5_earned_3 : decode cX5_earned 3 = .ok (.invokevirtual 170, 3) := by decide +kernel
theorem dX5_earned_6 : decode cX5_earned 6 = .ok (.ifCond .ne 7, 3) := by decide +kernel
theorem dX5_earned_9 : decode cX5_earned 9 = .ok (.iconst 1, 1) := by decide +kernel
theorem dX5_earned_10 : decode cX5_earned 10 = .ok (.goto 4, 3) := by decide +kernel
theorem dX5_earned_13 : decode cX5_earned 13 = .ok (.iconst 0, 1) := by decide +kernel
theorem dX5_earned_14 : decode cX5_earned 14 = .ok (.iconst 0, 1) := by decide +kernel
theorem dX5_earned_15 : decode cX5_earned 15 = .ok (.iconst 0, 1) := by decide +kernel
theorem dX5_earned_16 : decode cX5_earned 16 = .ok (.invokevirtual 81, 3) := by decide +kernel
theorem dX5_earned_19 : decode cX5_earned 19 = .ok (.ifCond .eq 7, 3) := by decide +kernel
theorem dX5_earned_22 : decode cX5_earned 22 = .ok (.iconst 0, 1) := by decide +kernel
theorem dX5_earned_23 : decode cX5_earned 23 = .ok (.goto 10, 3) := by decide +kernel
theorem dX5_earned_26 : decode cX5_earned 26 = .ok (.aload_n 0, 1) := by decide +kernel
theorem dX5_earned_27 : decode cX5_earned 27 = .ok (.iload_n 1, 1) := by decide +kernel
theorem dX5_earned_28 : decode cX5_earned 28 = .ok (.iload_n 2, 1) := by decide +kernel
theorem dX5_earned_29 : decode cX5_earned 29 = .ok (.iload_n 3, 1) := by decide +kernel
theorem dX5_earned_30 : decode cX5_earned 30 = .ok (.invokevirtual 144, 3) := by decide +kernel
theorem dX5_earned_33 : decode cX5_earned 33 = .ok (.ireturn, 1) := by decide +kernel
set_option maxRecDepth 20000 in
theorem ggX5_settled_X5_outside : GoodIn wsX5_settled wsX5_outside := goodIn_r _ [6] (by decide +kernel) (by decide +kernel)
set_option maxRecDepth 20000 in
theorem gX5_settled_X5_outside : GoodIn wsX5_settled (va_wsS RX5 71 yX5_outside wsX5_outside) := goodIn_app (goodIn_of _ (by decide +kernel)) ggX5_settled_X5_outside
set_option maxRecDepth 20000 in
theorem ggX5_settled_X5_fails : GoodIn wsX5_settled wsX5_fails := goodIn_r _ [10, 11, 12, 13, 14, 15, 16, 17, 18, 19, 20, 21, 22, 23, 24, 25, 26, 27, 28, 29, 30, 31, 32, 33, 34, 35, 36, 37, 38, 39, 40, 41, 42] (by decide +kernel) (by decide +kernel)
set_option maxRecDepth 20000 in
theorem gX5_settled_X5_fails : GoodIn wsX5_settled (wsV RX5 81 RX5 yX5_fails wsX5_fails) := goodIn_app (goodIn_of _ (by decide +kernel)) ggX5_settled_X5_fails
theorem dX5_settled_0 : decode cX5_settled 0 = .ok (.aload_n 0, 1) := by decide +kernel
theorem dX5_settled_1 : decode cX5_settled 1 = .ok (.iload_n 1, 1) := by decide +kernel
theorem dX5_settled_2 : decode cX5_settled 2 = .ok (.iconst 0, 1) := by decide +kernel
theorem dX5_settled_3 : decode cX5_settled 3 = .ok (.aload_n 0, 1) := by decide +kernel
theorem dX5_settled_4 : decode cX5_settled 4 = .ok (.getfield 95, 3) := by decide +kernel
theorem dX5_settled_7 : decode cX5_settled 7 = .ok (.iconst 1, 1) := by decide +kernel
theorem dX5_settled_8 : decode cX5_settled 8 = .ok (.isub, 1) := by decide +kernel
theorem dX5_settled_9 : decode cX5_settled 9 = .ok (.invokestatic 71, 3) := by decide +kernel
theorem dX5_settled_12 : decode cX5_settled 12 = .ok (.ifCond .ne 12, 3) := by decide +kernel
theorem dX5_settled_15 : decode cX5_settled 15 = .ok (.iload_n 2, 1) := by decide +kernel
theorem dX5_settled_16 : decode cX5_settled 16 = .ok (.iconst 0, 1) := by decide +kernel
theorem dX5_settled_17 : decode cX5_settled 17 = .ok (.iconst 5, 1) := by decide +kernel
theorem dX5_settled_18 : decode cX5_settled 18 = .ok (.invokestatic 71, 3) := by decide +kernel
theorem dX5_settled_21 : decode cX5_settled 21 = .ok (.ifCond .eq 7, 3) := by decide +kernel
theorem dX5_settled_24 : decode cX5_settled 24 = .ok (.iconst 1, 1) := by decide +kernel
theorem dX5_settled_25 : decode cX5_settled 25 = .ok (.goto 4, 3) := by decide +kernel
theorem dX5_settled_28 : decode cX5_settled 28 = .ok (.iconst 0, 1) := by decide +kernel
theorem dX5_settled_29 : decode cX5_settled 29 = .ok (.iconst 0, 1) := by decide +kernel
theorem dX5_settled_30 : decode cX5_settled 30 = .ok (.iconst 0, 1) := by decide +kernel
theorem dX5_settled_31 : decode cX5_settled 31 = .ok (.invokevirtual 81, 3) := by decide +kernel
theorem dX5_settled_34 : decode cX5_settled 34 = .ok (.ifCond .eq 7, 3) := by decide +kernel
theorem dX5_settled_37 : decode cX5_settled 37 = .ok (.iconst 0, 1) := by decide +kernel
theorem dX5_settled_38 : decode cX5_settled 38 = .ok (.goto 14, 3) := by decide +kernel
theorem dX5_settled_41 : decode cX5_settled 41 = .ok (.aload_n 0, 1) := by decide +kernel
theorem dX5_settled_42 : decode cX5_settled 42 = .ok (.getfield 65, 3) := by decide +kernel
theorem dX5_settled_45 : decode cX5_settled 45 = .ok (.bipush 6, 2) := by decide +kernel
theorem dX5_settled_47 : decode cX5_settled 47 = .ok (.iload_n 1, 1) := by decide +kernel
theorem dX5_settled_48 : decode cX5_settled 48 = .ok (.imul, 1) := by decide +kernel
theorem dX5_settled_49 : decode cX5_settled 49 = .ok (.iload_n 2, 1) := by decide +kernel
theorem dX5_settled_50 : decode cX5_settled 50 = .ok (.iadd, 1) := by decide +kernel
theorem dX5_settled_51 : decode cX5_settled 51 = .ok (.iaload, 1) := by decide +kernel
theorem dX5_settled_52 : decode cX5_settled 52 = .ok (.ireturn, 1) := by decide +kernel
set_option maxRecDepth 20000 in
theorem ggX5_posting_X5_outside : GoodIn wsX5_posting wsX5_outside := goodIn_r _ [8] (by decide +kernel) (by decide +kernel)
set_option maxRecDepth 20000 in
theorem gX5_posting_X5_outside : GoodIn wsX5_posting (va_wsS RX5 71 yX5_outside wsX5_outside) := goodIn_app (goodIn_of _ (by decide +kernel)) ggX5_posting_X5_outside
set_option maxRecDepth 20000 in
theorem ggX5_posting_X5_fails : GoodIn wsX5_posting wsX5_fails := goodIn_r _ [12, 13, 14, 15, 16, 17, 18, 19, 20, 21, 22, 23, 24, 25, 26, 27, 28, 29, 30, 31, 32, 33, 34, 35, 36, 37, 38, 39, 40, 41, 42, 43, 44] (by decide +kernel) (by decide +kernel)
set_option maxRecDepth 20000 in
theorem gX5_posting_X5_fails : GoodIn wsX5_posting (wsV RX5 81 RX5 yX5_fails wsX5_fails) := goodIn_app (goodIn_of _ (by decide +kernel)) ggX5_posting_X5_fails
theorem dX5_posting_0 : decode cX5_posting 0 = .ok (.aload_n 0, 1) := by decide +kernel
theorem dX5_posting_1 : decode cX5_posting 1 = .ok (.iload_n 1, 1) := by decide +kernel
theorem dX5_posting_2 : decode cX5_posting 2 = .ok (.iconst 0, 1) := by decide +kernel
theorem dX5_posting_3 : decode cX5_posting 3 = .ok (.aload_n 0, 1) := by decide +kernel
theorem dX5_posting_4 : decode cX5_posting 4 = .ok (.getfield 141, 3) := by decide +kernel
theorem dX5_posting_7 : decode cX5_posting 7 = .ok (.iconst 1, 1) := by decide +kernel
theorem dX5_posting_8 : decode cX5_posting 8 = .ok (.isub, 1) := by decide +kernel
theorem dX5_posting_9 : decode cX5_posting 9 = .ok (.invokestatic 71, 3) := by decide +kernel
theorem dX5_posting_12 : decode cX5_posting 12 = .ok (.ifCond .ne 12, 3) := by decide +kernel
theorem dX5_posting_15 : decode cX5_posting 15 = .ok (.iload_n 2, 1) := by decide +kernel
theorem dX5_posting_16 : decode cX5_posting 16 = .ok (.iconst 0, 1) := by decide +kernel
theorem dX5_posting_17 : decode cX5_posting 17 = .ok (.iconst 2, 1) := by decide +kernel
theorem dX5_posting_18 : decode cX5_posting 18 = .ok (.invokestatic 71, 3) := by decide +kernel
theorem dX5_posting_21 : decode cX5_posting 21 = .ok (.ifCond .eq 7, 3) := by decide +kernel
theorem dX5_posting_24 : decode cX5_posting 24 = .ok (.iconst 1, 1) := by decide +kernel
theorem dX5_posting_25 : decode cX5_posting 25 = .ok (.goto 4, 3) := by decide +kernel
theorem dX5_posting_28 : decode cX5_posting 28 = .ok (.iconst 0, 1) := by decide +kernel
theorem dX5_posting_29 : decode cX5_posting 29 = .ok (.iconst 0, 1) := by decide +kernel
theorem dX5_posting_30 : decode cX5_posting 30 = .ok (.iconst 0, 1) := by decide +kernel
theorem dX5_posting_31 : decode cX5_posting 31 = .ok (.invokevirtual 81, 3) := by decide +kernel
theorem dX5_posting_34 : decode cX5_posting 34 = .ok (.ifCond .eq 5, 3) := by decide +kernel
theorem dX5_posting_37 : decode cX5_posting 37 = .ok (.iconst 0, 1) := by decide +kernel
theorem dX5_posting_38 : decode cX5_posting 38 = .ok (.ireturn, 1) := by decide +kernel
theorem dX5_posting_39 : decode cX5_posting 39 = .ok (.iload_n 2, 1) := by decide +kernel
theorem dX5_posting_40 : decode cX5_posting 40 = .ok (.ifCond .ne 12, 3) := by decide +kernel
theorem dX5_posting_43 : decode cX5_posting 43 = .ok (.aload_n 0, 1) := by decide +kernel
theorem dX5_posting_44 : decode cX5_posting 44 = .ok (.getfield 37, 3) := by decide +kernel
theorem dX5_posting_47 : decode cX5_posting 47 = .ok (.iload_n 1, 1) := by decide +kernel
theorem dX5_posting_48 : decode cX5_posting 48 = .ok (.iaload, 1) := by decide +kernel
theorem dX5_posting_49 : decode cX5_posting 49 = .ok (.goto 23, 3) := by decide +kernel
theorem dX5_posting_52 : decode cX5_posting 52 = .ok (.iload_n 2, 1) := by decide +kernel
theorem dX5_posting_53 : decode cX5_posting 53 = .ok (.iconst 1, 1) := by decide +kernel
theorem dX5_posting_54 : decode cX5_posting 54 = .ok (.if_icmp .ne 12, 3) := by decide +kernel
theorem dX5_posting_57 : decode cX5_posting 57 = .ok (.aload_n 0, 1) := by decide +kernel
theorem dX5_posting_58 : decode cX5_posting 58 = .ok (.getfield 40, 3) := by decide +kernel
theorem dX5_posting_61 : decode cX5_posting 61 = .ok (.iload_n 1, 1) := by decide +kernel
theorem dX5_posting_62 : decode cX5_posting 62 = .ok (.iaload, 1) := by decide +kernel
theorem dX5_posting_63 : decode cX5_posting 63 = .ok (.goto 9, 3) := by decide +kernel
theorem dX5_posting_66 : decode cX5_posting 66 = .ok (.aload_n 0, 1) := by decide +kernel
theorem dX5_posting_67 : decode cX5_posting 67 = .ok (.getfield 43, 3) := by decide +kernel
theorem dX5_posting_70 : decode cX5_posting 70 = .ok (.iload_n 1, 1) := by decide +kernel
theorem dX5_posting_71 : decode cX5_posting 71 = .ok (.iaload, 1) := by decide +kernel
theorem dX5_posting_72 : decode cX5_posting 72 = .ok (.ireturn, 1) := by decide +kernel
set_option maxRecDepth 20000 in
theorem ggX5_balance_X5_outside : GoodIn wsX5_balance wsX5_outside := goodIn_r _ [8] (by decide +kernel) (by decide +kernel)
set_option maxRecDepth 20000 in
theorem gX5_balance_X5_outside : GoodIn wsX5_balance (va_wsS RX5 71 yX5_outside wsX5_outside) := goodIn_app (goodIn_of _ (by decide +kernel)) ggX5_balance_X5_outside
set_option maxRecDepth 20000 in
theorem ggX5_balance_X5_fails : GoodIn wsX5_balance wsX5_fails := goodIn_r _ [12, 13, 14, 15, 16, 17, 18, 19, 20, 21, 22, 23, 24, 25, 26, 27, 28, 29, 30, 31, 32, 33, 34, 35, 36, 37, 38, 39, 40, 41, 42, 43, 44] (by decide +kernel) (by decide +kernel)
set_option maxRecDepth 20000 in
theorem gX5_balance_X5_fails : GoodIn wsX5_balance (wsV RX5 81 RX5 yX5_fails wsX5_fails) := goodIn_app (goodIn_of _ (by decide +kernel)) ggX5_balance_X5_fails
theorem dX5_balance_0 : decode cX5_balance 0 = .ok (.aload_n 0, 1) := by decide +kernel
theorem dX5_balance_1 : decode cX5_balance 1 = .ok (.iload_n 1, 1) := by decide +kernel
theorem dX5_balance_2 : decode cX5_balance 2 = .ok (.iconst 0, 1) := by decide +kernel
theorem dX5_balance_3 : decode cX5_balance 3 = .ok (.bipush 6, 2) := by decide +kernel
theorem dX5_balance_5 : decode cX5_balance 5 = .ok (.invokestatic 71, 3) := by decide +kernel
theorem dX5_balance_8 : decode cX5_balance 8 = .ok (.iconst 0, 1) := by decide +kernel
theorem dX5_balance_9 : decode cX5_balance 9 = .ok (.iconst 0, 1) := by decide +kernel
theorem dX5_balance_10 : decode cX5_balance 10 = .ok (.invokevirtual 81, 3) := by decide +kernel
theorem dX5_balance_13 : decode cX5_balance 13 = .ok (.ifCond .eq 5, 3) := by decide +kernel
theorem dX5_balance_16 : decode cX5_balance 16 = .ok (.iconst 0, 1) := by decide +kernel
theorem dX5_balance_17 : decode cX5_balance 17 = .ok (.ireturn, 1) := by decide +kernel
theorem dX5_balance_18 : decode cX5_balance 18 = .ok (.iconst 0, 1) := by decide +kernel
theorem dX5_balance_19 : decode cX5_balance 19 = .ok (.istore_n 2, 1) := by decide +kernel
theorem dX5_balance_20 : decode cX5_balance 20 = .ok (.iconst 0, 1) := by decide +kernel
theorem dX5_balance_21 : decode cX5_balance 21 = .ok (.istore_n 3, 1) := by decide +kernel
theorem dX5_balance_22 : decode cX5_balance 22 = .ok (.iload_n 3, 1) := by decide +kernel
theorem dX5_balance_23 : decode cX5_balance 23 = .ok (.aload_n 0, 1) := by decide +kernel
theorem dX5_balance_24 : decode cX5_balance 24 = .ok (.getfield 141, 3) := by decide +kernel
theorem dX5_balance_27 : decode cX5_balance 27 = .ok (.if_icmp .ge 53, 3) := by decide +kernel
theorem dX5_balance_30 : decode cX5_balance 30 = .ok (.iload_n 2, 1) := by decide +kernel
theorem dX5_balance_31 : decode cX5_balance 31 = .ok (.aload_n 0, 1) := by decide +kernel
theorem dX5_balance_32 : decode cX5_balance 32 = .ok (.getfield 40, 3) := by decide +kernel
theorem dX5_balance_35 : decode cX5_balance 35 = .ok (.iload_n 3, 1) := by decide +kernel
theorem dX5_balance_36 : decode cX5_balance 36 = .ok (.iaload, 1) := by decide +kernel
theorem dX5_balance_37 : decode cX5_balance 37 = .ok (.iload_n 1, 1) := by decide +kernel
theorem dX5_balance_38 : decode cX5_balance 38 = .ok (.if_icmp .ne 12, 3) := by decide +kernel
theorem dX5_balance_41 : decode cX5_balance 41 = .ok (.aload_n 0, 1) := by decide +kernel
theorem dX5_balance_42 : decode cX5_balance 42 = .ok (.getfield 43, 3) := by decide +kernel
theorem dX5_balance_45 : decode cX5_balance 45 = .ok (.iload_n 3, 1) := by decide +kernel
theorem dX5_balance_46 : decode cX5_balance 46 = .ok (.iaload, 1) := by decide +kernel
theorem dX5_balance_47 : decode cX5_balance 47 = .ok (.goto 4, 3) := by decide +kernel
theorem dX5_balance_50 : decode cX5_balance 50 = .ok (.iconst 0, 1) := by decide +kernel
theorem dX5_balance_51 : decode cX5_balance 51 = .ok (.aload_n 0, 1) := by decide +kernel
theorem dX5_balance_52 : decode cX5_balance 52 = .ok (.getfield 37, 3) := by decide +kernel
theorem dX5_balance_55 : decode cX5_balance 55 = .ok (.iload_n 3, 1) := by decide +kernel
theorem dX5_balance_56 : decode cX5_balance 56 = .ok (.iaload, 1) := by decide +kernel
theorem dX5_balance_57 : decode cX5_balance 57 = .ok (.iload_n 1, 1) := by decide +kernel
theorem dX5_balance_58 : decode cX5_balance 58 = .ok (.if_icmp .ne 12, 3) := by decide +kernel
theorem dX5_balance_61 : decode cX5_balance 61 = .ok (.aload_n 0, 1) := by decide +kernel
theorem dX5_balance_62 : decode cX5_balance 62 = .ok (.getfield 43, 3) := by decide +kernel
theorem dX5_balance_65 : decode cX5_balance 65 = .ok (.iload_n 3, 1) := by decide +kernel
theorem dX5_balance_66 : decode cX5_balance 66 = .ok (.iaload, 1) := by decide +kernel
theorem dX5_balance_67 : decode cX5_balance 67 = .ok (.goto 4, 3) := by decide +kernel
theorem dX5_balance_70 : decode cX5_balance 70 = .ok (.iconst 0, 1) := by decide +kernel
theorem dX5_balance_71 : decode cX5_balance 71 = .ok (.isub, 1) := by decide +kernel
theorem dX5_balance_72 : decode cX5_balance 72 = .ok (.iadd, 1) := by decide +kernel
theorem dX5_balance_73 : decode cX5_balance 73 = .ok (.istore_n 2, 1) := by decide +kernel
theorem dX5_balance_74 : decode cX5_balance 74 = .ok (.iinc 3 1, 3) := by decide +kernel
theorem dX5_balance_77 : decode cX5_balance 77 = .ok (.goto (-55), 3) := by decide +kernel
theorem dX5_balance_80 : decode cX5_balance 80 = .ok (.iload_n 2, 1) := by decide +kernel
theorem dX5_balance_81 : decode cX5_balance 81 = .ok (.ireturn, 1) := by decide +kernel
theorem dJ9_floorDiv_7cf53_0 : decode cJ9_floorDiv_7cf53 0 = .ok (.iload_n 0, 1) := by decide +kernel
theorem dJ9_floorDiv_7cf53_1 : decode cJ9_floorDiv_7cf53 1 = .ok (.iload_n 1, 1) := by decide +kernel
theorem dJ9_floorDiv_7cf53_2 : decode cJ9_floorDiv_7cf53 2 = .ok (.idiv, 1) := by decide +kernel
theorem dJ9_floorDiv_7cf53_3 : decode cJ9_floorDiv_7cf53 3 = .ok (.istore_n 2, 1) := by decide +kernel
theorem dJ9_floorDiv_7cf53_4 : decode cJ9_floorDiv_7cf53 4 = .ok (.iload_n 0, 1) := by decide +kernel
theorem dJ9_floorDiv_7cf53_5 : decode cJ9_floorDiv_7cf53 5 = .ok (.iload_n 1, 1) := by decide +kernel
theorem dJ9_floorDiv_7cf53_6 : decode cJ9_floorDiv_7cf53 6 = .ok (.ixor, 1) := by decide +kernel
theorem dJ9_floorDiv_7cf53_7 : decode cJ9_floorDiv_7cf53 7 = .ok (.ifCond .ge 14, 3) := by decide +kernel
theorem dJ9_floorDiv_7cf53_10 : decode cJ9_floorDiv_7cf53 10 = .ok (.iload_n 2, 1) := by decide +kernel
theorem dJ9_floorDiv_7cf53_11 : decode cJ9_floorDiv_7cf53 11 = .ok (.iload_n 1, 1) := by decide +kernel
theorem dJ9_floorDiv_7cf53_12 : decode cJ9_floorDiv_7cf53 12 = .ok (.imul, 1) := by decide +kernel
theorem dJ9_floorDiv_7cf53_13 : decode cJ9_floorDiv_7cf53 13 = .ok (.iload_n 0, 1) := by decide +kernel
theorem dJ9_floorDiv_7cf53_14 : decode cJ9_floorDiv_7cf53 14 = .ok (.if_icmp .eq 7, 3) := by decide +kernel
theorem dJ9_floorDiv_7cf53_17 : decode cJ9_floorDiv_7cf53 17 = .ok (.iload_n 2, 1) := by decide +kernel
theorem dJ9_floorDiv_7cf53_18 : decode cJ9_floorDiv_7cf53 18 = .ok (.iconst 1, 1) := by decide +kernel
theorem dJ9_floorDiv_7cf53_19 : decode cJ9_floorDiv_7cf53 19 = .ok (.isub, 1) := by decide +kernel
theorem dJ9_floorDiv_7cf53_20 : decode cJ9_floorDiv_7cf53 20 = .ok (.ireturn, 1) := by decide +kernel
theorem dJ9_floorDiv_7cf53_21 : decode cJ9_floorDiv_7cf53 21 = .ok (.iload_n 2, 1) := by decide +kernel
theorem dJ9_floorDiv_7cf53_22 : decode cJ9_floorDiv_7cf53 22 = .ok (.ireturn, 1) := by decide +kernel
theorem dJ9_max_7cf53_0 : decode cJ9_max_7cf53 0 = .ok (.iload_n 0, 1) := by decide +kernel
theorem dJ9_max_7cf53_1 : decode cJ9_max_7cf53 1 = .ok (.iload_n 1, 1) := by decide +kernel
theorem dJ9_max_7cf53_2 : decode cJ9_max_7cf53 2 = .ok (.if_icmp .lt 7, 3) := by decide +kernel
theorem dJ9_max_7cf53_5 : decode cJ9_max_7cf53 5 = .ok (.iload_n 0, 1) := by decide +kernel
theorem dJ9_max_7cf53_6 : decode cJ9_max_7cf53 6 = .ok (.goto 4, 3) := by decide +kernel
theorem dJ9_max_7cf53_9 : decode cJ9_max_7cf53 9 = .ok (.iload_n 1, 1) := by decide +kernel
theorem dJ9_max_7cf53_10 : decode cJ9_max_7cf53 10 = .ok (.ireturn, 1) := by decide +kernel
theorem dJ9_min_7cf53_0 : decode cJ9_min_7cf53 0 = .ok (.iload_n 0, 1) := by decide +kernel
theorem dJ9_min_7cf53_1 : decode cJ9_min_7cf53 1 = .ok (.iload_n 1, 1) := by decide +kernel
theorem dJ9_min_7cf53_2 : decode cJ9_min_7cf53 2 = .ok (.if_icmp .gt 7, 3) := by decide +kernel
theorem dJ9_min_7cf53_5 : decode cJ9_min_7cf53 5 = .ok (.iload_n 0, 1) := by decide +kernel
theorem dJ9_min_7cf53_6 : decode cJ9_min_7cf53 6 = .ok (.goto 4, 3) := by decide +kernel
theorem dJ9_min_7cf53_9 : decode cJ9_min_7cf53 9 = .ok (.iload_n 1, 1) := by decide +kernel
theorem dJ9_min_7cf53_10 : decode cJ9_min_7cf53 10 = .ok (.ireturn, 1) := by decide +kernel
set_option maxRecDepth 20000 in
theorem ggL_row_X4_row : GoodIn wsL_row wsX4_row := goodIn_ca (goodIn_ca (goodIn_r _ [7, 8, 9, 10, 11, 12, 13, 14, 15, 6, 16, 17, 18, 19, 20, 21, 22, 23, 24, 25, 26, 27, 28, 29, 30, 31, 32, 33, 34, 35, 36, 37, 38, 39, 40, 41, 42, 43, 44, 45, 46, 47, 48, 49, 50, 51, 52, 53, 54, 55] (by decide +kernel) (by decide +kernel)) (goodIn_sub (fun _ h => List.mem_cons_of_mem _ (List.mem_append_left _ (List.mem_append_right _ h))) (by decide +kernel))) (goodIn_sub (fun _ h => List.mem_cons_of_mem _ (List.mem_append_right _ h)) (by decide +kernel))
set_option maxRecDepth 20000 in
theorem gL_row_X4_row : GoodIn wsL_row (wsV RL 7 RX4 yX4_row wsX4_row) := goodIn_app (goodIn_of _ (by decide +kernel)) ggL_row_X4_row
theorem dL_row_0 : decode cL_row 0 = .ok (.aload 6, 2) := by decide +kernel
theorem dL_row_2 : decode cL_row 2 = .ok (.iconst 0, 1) := by decide +kernel
theorem dL_row_3 : decode cL_row 3 = .ok (.aload_n 0, 1) := by decide +kernel
theorem dL_row_4 : decode cL_row 4 = .ok (.iload_n 1, 1) := by decide +kernel
theorem dL_row_5 : decode cL_row 5 = .ok (.iload_n 2, 1) := by decide +kernel
theorem dL_row_6 : decode cL_row 6 = .ok (.iload_n 3, 1) := by decide +kernel
theorem dL_row_7 : decode cL_row 7 = .ok (.iload 4, 2) := by decide +kernel
theorem dL_row_9 : decode cL_row 9 = .ok (.iload 5, 2) := by decide +kernel
theorem dL_row_11 : decode cL_row 11 = .ok (.invokevirtual 7, 3) := by decide +kernel
theorem dL_row_14 : decode cL_row 14 = .ok (.i2l, 1) := by decide +kernel
theorem dL_row_15 : decode cL_row 15 = .ok (.lastore, 1) := by decide +kernel
theorem dL_row_16 : decode cL_row 16 = .ok (.goto 11, 3) := by decide +kernel
theorem dL_row_19 : decode cL_row 19 = .ok (.astore 7, 2) := by decide +kernel
theorem dL_row_21 : decode cL_row 21 = .ok (.iconst 1, 1) := by decide +kernel
theorem dL_row_22 : decode cL_row 22 = .ok (.ireturn, 1) := by decide +kernel
theorem dL_row_23 : decode cL_row 23 = .ok (.astore 7, 2) := by decide +kernel
theorem dL_row_25 : decode cL_row 25 = .ok (.iconst 2, 1) := by decide +kernel
theorem dL_row_26 : decode cL_row 26 = .ok (.ireturn, 1) := by decide +kernel
theorem dL_row_27 : decode cL_row 27 = .ok (.iconst 0, 1) := by decide +kernel
theorem dL_row_28 : decode cL_row 28 = .ok (.ireturn, 1) := by decide +kernel
set_option maxRecDepth 20000 in
theorem ggL_undo_X4_undo : GoodIn wsL_undo wsX4_undo := goodIn_ca (goodIn_r _ [6, 7, 8, 9, 10, 11, 12, 5, 13, 14, 15, 16, 17, 18, 19, 20, 21, 22, 23, 24, 25, 26, 27, 28, 29, 30, 31, 32, 33, 34, 35, 36, 37, 38, 39, 40, 41] (by decide +kernel) (by decide +kernel)) (goodIn_sub (fun _ h => List.mem_cons_of_mem _ (List.mem_append_right _ h)) (by decide +kernel))
set_option maxRecDepth 20000 in
theorem gL_undo_X4_undo : GoodIn wsL_undo (wsV RL 17 RX4 yX4_undo wsX4_undo) := goodIn_app (goodIn_of _ (by decide +kernel)) ggL_undo_X4_undo
theorem dL_undo_0 : decode cL_undo 0 = .ok (.aload_n 0, 1) := by decide +kernel
theorem dL_undo_1 : decode cL_undo 1 = .ok (.invokevirtual 17, 3) := by decide +kernel
